/-! ===== the reference's calls: what it held, kinds, sticks ===== -/
theorem td_eq {F G : Nat → Int32} {p n len : Nat} {T : TS} (h : ∀ i, i < len → F i = G i) : tdB F p n len T = tdB G p n len T := by
  unfold tdB
  rw [fnd_eq (p := tdF F p n T) (q := tdF G p n T) (N := len) (fun k hk => by unfold tdF; rw [h k hk]) len 0 (by omega)]
section
variable {S K Y : TS} {x y z v w : Int32} {n k m : Nat}
theorem m_findsFits {a : MA} {h : MH} {B A : TS} {s t : Nat} (ok : Ok n S) (hs : s < 4) (ht : t < n) (hc : isC z = true) (hsz : Y (144 + s) = Int32.ofNat m) (hm : m ≤ 40) (hy : (S 1).toInt ≤ 60000) : ∃ A' f l, Ec 182 [.ref 50, .int (Int32.ofNat s), .int (Int32.ofNat t), .int z] a (mw h S K B A Y) = some (none, a, mw h S K B A' (mfu (mfu Y 2 f) 3 l)) ∧ f = Int32.ofNat (cnt (ftP (fun i => Y (150 + (40 * s + i))) m t z n S) 201) ∧ (match fnd (ftP (fun i => Y (150 + (40 * s + i))) m t z n S) 0 201 with
    | none => f = 0
    | some i => 0 < f ∧ l = Int32.ofNat i) := by
  have h8 := ok.1
  have t8 : t < 8 := by omega
  have hL := sr_isL ok ht
  have hd := dy_lt hL hc
  have L := lp_up (M := 182) (X := fun j (r : (Int32 × Int32) × Int32 × TS) => (32, [some (.ref 50), some (.int (Int32.ofNat s)), some (.int (Int32.ofNat t)), some (.int z), some (.int (S (31 + 6 * t))), some (.int (Int32.ofNat (dyI (S (29 + 6 * t)) z))), some (.int (Int32.ofNat (201 - j) + -1))], [], a, mw h (mfu S (31 + 6 * t) r.2.1) K B r.2.2 (mfu (mfu Y 2 r.1.1) 3 r.1.2))) (f := fun j r => ((if ftP (fun i => Y (150 + (40 * s + i))) m t z n S (200 - j) = true then (r.1.1 + 1, Int32.ofNat (200 - j)) else r.1), Int32.ofNat (200 - j), mfu S (31 + 6 * t) (Int32.ofNat (200 - j)))) (P := fun j r => ∃ c, r.1.1 = Int32.ofNat c ∧ c + cnt (ftP (fun i => Y (150 + (40 * s + i))) m t z n S) (201 - j) = cnt (ftP (fun i => Y (150 + (40 * s + i))) m t z n S) 201 ∧ (match fnd (ftP (fun i => Y (150 + (40 * s + i))) m t z n S) (201 - j) j with
    | none => c = 0
    | some i => 0 < c ∧ r.1.2 = Int32.ofNat i)) (N := 201) (fun j r hj p => by
    obtain ⟨⟨f, l⟩, u, A1⟩ := r
    obtain ⟨i, hi⟩ : ∃ i, j + i = 200 := ⟨200 - j, by omega⟩
    rw [show 200 - j = i by omega, show 201 - j = i + 1 by omega, show 201 - (j + 1) = i by omega] at *
    have ok' := ok_holds ok ht (v := i) (by omega)
    have hy' : (mfu S (31 + 6 * t) (Int32.ofNat i) 1).toInt ≤ 60000 := by rw [up_1 (by omega)]; exact hy
    have e1 : Int32.ofNat (i + 1) + -1 = Int32.ofNat i := of_dec (by omega)
    have nn : (Int32.ofNat i < 0) = False := of_nn (by omega)
    have hsz' : ∀ f l, mfu (mfu Y 2 f) 3 l (144 + s) = Int32.ofNat m := fun f l => by rw [fu_ne (by omega), fu_ne (by omega)]; exact hsz
    have hF : ∀ f l, (fun i => mfu (mfu Y 2 f) 3 l (150 + (40 * s + i))) = fun i => Y (150 + (40 * s + i)) := fun f l => by funext i; rw [fu_ne (by omega), fu_ne (by omega)]
    have hT := m_isTold (a := a) (h := h) (K := K) (B := B) (A := A1) (Y := mfu (mfu Y 2 f) 3 l) ok' hs hd (hsz' f l) hm hy'
    rw [hF] at hT
    have hT : Ec 181 [.ref 50, .int (Int32.ofNat s), .int (Int32.ofNat (dyI (S (29 + 6 * t)) z))] a (mw h (mfu S (31 + 6 * t) (Int32.ofNat i)) K B A1 (mfu (mfu Y 2 f) 3 l)) = some (some (.int (b2i (ftP (fun i => Y (150 + (40 * s + i))) m t z n S i))), a, mw h (mfu S (31 + 6 * t) (Int32.ofNat i)) K B (mfu S (31 + 6 * t) (Int32.ofNat i)) (mfu (mfu Y 2 f) 3 l)) := hT
    have y2 : ∀ f l, mfu (mfu Y 2 f) 3 l 2 = f := fun f l => by rw [fu_ne (by decide), fu_at]
    have y3 : ∀ f l f', mfu (mfu (mfu Y 2 f) 3 l) 2 f' = mfu (mfu Y 2 f') 3 l := fun f l f' => by rw [fu_cm (by decide), fu_fu]
    refine ⟨?_, ?_⟩
    · show Rn 182 (32, [some (.ref 50), some (.int (Int32.ofNat s)), some (.int (Int32.ofNat t)), some (.int z), some (.int (S (31 + 6 * t))), some (.int (Int32.ofNat (dyI (S (29 + 6 * t)) z))), some (.int (Int32.ofNat (i + 1) + -1))], [], a, mw h (mfu S (31 + 6 * t) u) K B A1 (mfu (mfu Y 2 f) 3 l)) = Rn 182 (32, [some (.ref 50), some (.int (Int32.ofNat s)), some (.int (Int32.ofNat t)), some (.int z), some (.int (S (31 + 6 * t))), some (.int (Int32.ofNat (dyI (S (29 + 6 * t)) z))), some (.int (Int32.ofNat i + -1))], [], a, mw h (mfu S (31 + 6 * t) (Int32.ofNat i)) K B (mfu S (31 + 6 * t) (Int32.ofNat i)) (mfu (mfu Y 2 (if ftP (fun i => Y (150 + (40 * s + i))) m t z n S i = true then (f + 1, Int32.ofNat i) else (f, l)).1) 3 (if ftP (fun i => Y (150 + (40 * s + i))) m t z n S i = true then (f + 1, Int32.ofNat i) else (f, l)).2))
      rw [e1, r182_32]
      by_cases q : ftP (fun i => Y (150 + (40 * s + i))) m t z n S i = true
      · rw [if_pos q]
        simp only [r182_0, r182_1, r182_2, r182_3, r182_6, r182_8, r182_9, r182_10, r182_11, r182_12, r182_13, r182_16, r182_17, r182_18, r182_19, r182_20, r182_22, r182_23, r182_24, r182_27, r182_30, r182_34, r182_37, r182_38, r182_41, r182_42, r182_43, r182_46, r182_48, r182_49, r182_50, r182_51, r182_53, r182_56, r182_59, r182_60, r182_61, r182_64, r182_65, r182_66, r182_69, r182_70, r182_72, r182_75, r182_78, r182_81, r182_82, r182_85, r182_86, r182_87, r182_90, r182_92, r182_93, Nl_none, Nl_int, Nl_ref, Nl_null, Kv_some, Ki_some, Kh_some, Bk_some, Bk_void, ↓reduceIte, mrt10, mrt11, zl2, zl3, zl4, zl8, Bool.false_eq_true, my_s, my_mis, my_kept, my_before, my_aside, my_isKept, my_findings, my_tape, my_taped, my_bitsOf, my_sizes, my_numbers, my_fitting, my_leastFit, my_token, my_from, my_to, my_value, my_faultAt, Int32.reduceAdd, Int32.reduceSub, Int32.reduceMul, Int32.reduceLT, zqm0, zqm1, zqm2, zqm3, zqm4, zqm5, zqm6, zqm7, zqm8, zq0m, zq01, zq02, zq03, zq04, zq05, zq06, zq07, zq08, zq1m, zq10, zq12, zq13, zq14, zq15, zq16, zq17, zq18, zq2m, zq20, zq21, zq23, zq24, zq25, zq26, zq27, zq28, zq3m, zq30, zq31, zq32, zq34, zq35, zq36, zq37, zq38, zq4m, zq40, zq41, zq42, zq43, zq45, zq46, zq47, zq48, zq5m, zq50, zq51, zq52, zq53, zq54, zq56, zq57, zq58, zq6m, zq60, zq61, zq62, zq63, zq64, zq65, zq67, zq68, zq7m, zq70, zq71, zq72, zq73, zq74, zq75, zq76, zq78, zq8m, zq80, zq81, zq82, zq83, zq84, zq85, zq86, zq87, nn, m_at3, mp_th3 t8, fu_fu, hT, q, b2i, y2, y3, mp_fitting, mp_leastFit]
      · rw [if_neg q]
        simp only [r182_0, r182_1, r182_2, r182_3, r182_6, r182_8, r182_9, r182_10, r182_11, r182_12, r182_13, r182_16, r182_17, r182_18, r182_19, r182_20, r182_22, r182_23, r182_24, r182_27, r182_30, r182_34, r182_37, r182_38, r182_41, r182_42, r182_43, r182_46, r182_48, r182_49, r182_50, r182_51, r182_53, r182_56, r182_59, r182_60, r182_61, r182_64, r182_65, r182_66, r182_69, r182_70, r182_72, r182_75, r182_78, r182_81, r182_82, r182_85, r182_86, r182_87, r182_90, r182_92, r182_93, Nl_none, Nl_int, Nl_ref, Nl_null, Kv_some, Ki_some, Kh_some, Bk_some, Bk_void, ↓reduceIte, mrt10, mrt11, zl2, zl3, zl4, zl8, Bool.false_eq_true, my_s, my_mis, my_kept, my_before, my_aside, my_isKept, my_findings, my_tape, my_taped, my_bitsOf, my_sizes, my_numbers, my_fitting, my_leastFit, my_token, my_from, my_to, my_value, my_faultAt, Int32.reduceAdd, Int32.reduceSub, Int32.reduceMul, Int32.reduceLT, zqm0, zqm1, zqm2, zqm3, zqm4, zqm5, zqm6, zqm7, zqm8, zq0m, zq01, zq02, zq03, zq04, zq05, zq06, zq07, zq08, zq1m, zq10, zq12, zq13, zq14, zq15, zq16, zq17, zq18, zq2m, zq20, zq21, zq23, zq24, zq25, zq26, zq27, zq28, zq3m, zq30, zq31, zq32, zq34, zq35, zq36, zq37, zq38, zq4m, zq40, zq41, zq42, zq43, zq45, zq46, zq47, zq48, zq5m, zq50, zq51, zq52, zq53, zq54, zq56, zq57, zq58, zq6m, zq60, zq61, zq62, zq63, zq64, zq65, zq67, zq68, zq7m, zq70, zq71, zq72, zq73, zq74, zq75, zq76, zq78, zq8m, zq80, zq81, zq82, zq83, zq84, zq85, zq86, zq87, nn, m_at3, mp_th3 t8, fu_fu, hT, q, b2i]
    · obtain ⟨c, p1, p2, p3⟩ := p
      have p1 : f = Int32.ofNat c := p1
      have p2 : c + (cnt (ftP (fun i => Y (150 + (40 * s + i))) m t z n S) i + (if ftP (fun i => Y (150 + (40 * s + i))) m t z n S i = true then 1 else 0)) = cnt (ftP (fun i => Y (150 + (40 * s + i))) m t z n S) 201 := p2
      by_cases q : ftP (fun i => Y (150 + (40 * s + i))) m t z n S i = true
      · rw [if_pos q] at p2
        refine ⟨c + 1, ?_, by omega, ?_⟩
        · show (if ftP (fun i => Y (150 + (40 * s + i))) m t z n S i = true then (f + 1, Int32.ofNat i) else (f, l)).1 = _
          rw [if_pos q, p1]; exact of_in
        · have e : fnd (ftP (fun i => Y (150 + (40 * s + i))) m t z n S) i (j + 1) = some i := if_pos q
          rw [e]
          refine ⟨by omega, ?_⟩
          show (if ftP (fun i => Y (150 + (40 * s + i))) m t z n S i = true then (f + 1, Int32.ofNat i) else (f, l)).2 = _
          rw [if_pos q]
      · rw [if_neg q] at p2
        refine ⟨c, ?_, by omega, ?_⟩
        · show (if ftP (fun i => Y (150 + (40 * s + i))) m t z n S i = true then (f + 1, Int32.ofNat i) else (f, l)).1 = _
          rw [if_neg q, p1]
        · have e : fnd (ftP (fun i => Y (150 + (40 * s + i))) m t z n S) i (j + 1) = fnd (ftP (fun i => Y (150 + (40 * s + i))) m t z n S) (i + 1) j := if_neg q
          rw [e]
          have z : (if ftP (fun i => Y (150 + (40 * s + i))) m t z n S i = true then (f + 1, Int32.ofNat i) else (f, l)).2 = l := by rw [if_neg q]
          simp only [z]
          exact p3) 201 0 ((0, Y 3), S (31 + 6 * t), A) (by omega) ⟨0, rfl, Nat.zero_add _, rfl⟩
  generalize lpf (fun j (r : (Int32 × Int32) × Int32 × TS) => ((if ftP (fun i => Y (150 + (40 * s + i))) m t z n S (200 - j) = true then (r.1.1 + 1, Int32.ofNat (200 - j)) else r.1), Int32.ofNat (200 - j), mfu S (31 + 6 * t) (Int32.ofNat (200 - j)))) 0 201 ((0, Y 3), S (31 + 6 * t), A) = s' at L
  obtain ⟨⟨f, l⟩, u, A'⟩ := s'
  obtain ⟨L1, c, p1, p2, p3⟩ := L
  have p1 : f = Int32.ofNat c := p1
  have p2 : c = cnt (ftP (fun i => Y (150 + (40 * s + i))) m t z n S) 201 := p2
  have cl : ∀ (p : Nat → Bool) m, cnt p m ≤ m := by
    intro p m
    induction m with
    | zero => exact Nat.le_refl 0
    | succ m ih => show cnt p m + (if p m = true then 1 else 0) ≤ m + 1; split <;> omega
  have c201 : c ≤ 201 := by rw [p2]; exact cl _ _
  refine ⟨A', f, l, ?_, by rw [p1, p2], ?_⟩
  · have L1 : Rn 182 (32, [some (.ref 50), some (.int (Int32.ofNat s)), some (.int (Int32.ofNat t)), some (.int z), some (.int (S (31 + 6 * t))), some (.int (Int32.ofNat (dyI (S (29 + 6 * t)) z))), some (.int 200)], [], a, mw h (mfu S (31 + 6 * t) (S (31 + 6 * t))) K B A (mfu (mfu Y 2 0) 3 (Y 3))) = Rn 182 (32, [some (.ref 50), some (.int (Int32.ofNat s)), some (.int (Int32.ofNat t)), some (.int z), some (.int (S (31 + 6 * t))), some (.int (Int32.ofNat (dyI (S (29 + 6 * t)) z))), some (.int (-1))], [], a, mw h (mfu S (31 + 6 * t) u) K B A' (mfu (mfu Y 2 f) 3 l)) := L1
    have e3 : mfu (mfu Y 2 0) 3 (Y 3) = mfu Y 2 0 := by
      have : mfu Y 2 0 3 = Y 3 := fu_ne (by decide)
      rw [← this]; exact fu_self
    rw [fu_self, e3] at L1
    rw [Ec_go rfl]; show Rn 182 (0, [some (.ref 50), some (.int (Int32.ofNat s)), some (.int (Int32.ofNat t)), some (.int z), none, none, none], [], a, mw h S K B A Y) = _
    simp only [r182_0, r182_1, r182_2, r182_3, r182_6, r182_8, r182_9, r182_10, r182_11, r182_12, r182_13, r182_16, r182_17, r182_18, r182_19, r182_20, r182_22, r182_23, r182_24, r182_27, r182_30, r182_34, r182_37, r182_38, r182_41, r182_42, r182_43, r182_46, r182_48, r182_49, r182_50, r182_51, r182_53, r182_56, r182_59, r182_60, r182_61, r182_64, r182_65, r182_66, r182_69, r182_70, r182_72, r182_75, r182_78, r182_81, r182_82, r182_85, r182_86, r182_87, r182_90, r182_92, r182_93, Nl_none, Nl_int, Nl_ref, Nl_null, Kv_some, Ki_some, Kh_some, Bk_some, Bk_void, ↓reduceIte, mrt10, mrt11, zl2, zl3, zl4, zl8, Bool.false_eq_true, my_s, my_mis, my_kept, my_before, my_aside, my_isKept, my_findings, my_tape, my_taped, my_bitsOf, my_sizes, my_numbers, my_fitting, my_leastFit, my_token, my_from, my_to, my_value, my_faultAt, Int32.reduceAdd, Int32.reduceSub, Int32.reduceMul, Int32.reduceLT, zqm0, zqm1, zqm2, zqm3, zqm4, zqm5, zqm6, zqm7, zqm8, zq0m, zq01, zq02, zq03, zq04, zq05, zq06, zq07, zq08, zq1m, zq10, zq12, zq13, zq14, zq15, zq16, zq17, zq18, zq2m, zq20, zq21, zq23, zq24, zq25, zq26, zq27, zq28, zq3m, zq30, zq31, zq32, zq34, zq35, zq36, zq37, zq38, zq4m, zq40, zq41, zq42, zq43, zq45, zq46, zq47, zq48, zq5m, zq50, zq51, zq52, zq53, zq54, zq56, zq57, zq58, zq6m, zq60, zq61, zq62, zq63, zq64, zq65, zq67, zq68, zq7m, zq70, zq71, zq72, zq73, zq74, zq75, zq76, zq78, zq8m, zq80, zq81, zq82, zq83, zq84, zq85, zq86, zq87, m_its3 t8, m_its1 t8, dy_ix hL hc, mp_fitting]
    rw [L1, r182_32]
    simp only [r182_0, r182_1, r182_2, r182_3, r182_6, r182_8, r182_9, r182_10, r182_11, r182_12, r182_13, r182_16, r182_17, r182_18, r182_19, r182_20, r182_22, r182_23, r182_24, r182_27, r182_30, r182_34, r182_37, r182_38, r182_41, r182_42, r182_43, r182_46, r182_48, r182_49, r182_50, r182_51, r182_53, r182_56, r182_59, r182_60, r182_61, r182_64, r182_65, r182_66, r182_69, r182_70, r182_72, r182_75, r182_78, r182_81, r182_82, r182_85, r182_86, r182_87, r182_90, r182_92, r182_93, Nl_none, Nl_int, Nl_ref, Nl_null, Kv_some, Ki_some, Kh_some, Bk_some, Bk_void, ↓reduceIte, mrt10, mrt11, zl2, zl3, zl4, zl8, Bool.false_eq_true, my_s, my_mis, my_kept, my_before, my_aside, my_isKept, my_findings, my_tape, my_taped, my_bitsOf, my_sizes, my_numbers, my_fitting, my_leastFit, my_token, my_from, my_to, my_value, my_faultAt, Int32.reduceAdd, Int32.reduceSub, Int32.reduceMul, Int32.reduceLT, zqm0, zqm1, zqm2, zqm3, zqm4, zqm5, zqm6, zqm7, zqm8, zq0m, zq01, zq02, zq03, zq04, zq05, zq06, zq07, zq08, zq1m, zq10, zq12, zq13, zq14, zq15, zq16, zq17, zq18, zq2m, zq20, zq21, zq23, zq24, zq25, zq26, zq27, zq28, zq3m, zq30, zq31, zq32, zq34, zq35, zq36, zq37, zq38, zq4m, zq40, zq41, zq42, zq43, zq45, zq46, zq47, zq48, zq5m, zq50, zq51, zq52, zq53, zq54, zq56, zq57, zq58, zq6m, zq60, zq61, zq62, zq63, zq64, zq65, zq67, zq68, zq7m, zq70, zq71, zq72, zq73, zq74, zq75, zq76, zq78, zq8m, zq80, zq81, zq82, zq83, zq84, zq85, zq86, zq87, m_at3, mp_th3 t8, fu_fu, fu_self]
  · have p3 : (match fnd (ftP (fun i => Y (150 + (40 * s + i))) m t z n S) 0 201 with
      | none => c = 0
      | some i => 0 < c ∧ l = Int32.ofNat i) := p3
    cases e : fnd (ftP (fun i => Y (150 + (40 * s + i))) m t z n S) 0 201 with
    | none => rw [e] at p3; have p3 : c = 0 := p3; show f = 0; rw [p1, p3]; rfl
    | some i =>
      rw [e] at p3
      refine ⟨?_, p3.2⟩
      rw [p1, show (0 : Int32) = Int32.ofNat 0 from rfl, of_lt (by omega) (by omega)]
      exact p3.1
theorem mq_fits (ok : Ok n S) (hsz : szY Y) (hy : (S 1).toInt ≤ 60000) : OpQ 184 [.int x, .int y, .int z] S K Y (fiQ (wfY x y z n Y) (fun i => Y (150 + (40 * iN x + i))) (iN (Y (144 + iN x))) (iN y) z n S) := by
  intro a h B A
  have h8 := ok.1
  unfold fiQ brQ
  rcases wf_cases (x := x) (y := y) (z := z) (n := n) (Y := Y) with w | w | w
  · rw [if_pos w.1]
    obtain ⟨w, h0, h1, h2⟩ := w
    obtain ⟨s, hs, rfl⟩ := isS_nat h0
    obtain ⟨t, ht, rfl⟩ := hs_of h1 h8
    obtain ⟨m, hm, es⟩ := hsz s hs
    rw [iN_of (show s < 2147483648 by omega), iN_of (show t < 2147483648 by omega), es, iN_of (show m < 2147483648 by omega)]
    obtain ⟨A', f, l, e, ef, -⟩ := m_findsFits (a := a) (h := h) (K := K) (B := B) (A := A) ok hs ht h2 es hm hy
    refine ⟨B, A', mfu (mfu Y 2 f) 3 l, ?_, fun k hk => by rw [fu_ne (by omega), fu_ne (by omega)]; rfl⟩
    have e2 : mfu (mfu Y 2 f) 3 l 2 = f := by rw [fu_ne (by decide), fu_at]
    rw [qv_l, ← ef]
    rw [Ec_go rfl]; show Rn 184 (0, [some (.ref 50), some (.int (Int32.ofNat s)), some (.int (Int32.ofNat t)), some (.int z), none], [], a, mw h S K B A Y) = _
    simp only [r184_0, r184_1, r184_2, r184_3, r184_4, r184_7, r184_9, r184_11, r184_14, r184_15, r184_17, r184_20, r184_21, r184_22, r184_23, r184_24, r184_25, r184_28, r184_29, r184_32, Nl_none, Nl_int, Nl_ref, Nl_null, Kv_some, Ki_some, Kh_some, Bk_some, Bk_void, ↓reduceIte, mrt10, mrt11, zl2, zl3, zl4, zl8, Bool.false_eq_true, my_s, my_mis, my_kept, my_before, my_aside, my_isKept, my_findings, my_tape, my_taped, my_bitsOf, my_sizes, my_numbers, my_fitting, my_leastFit, my_token, my_from, my_to, my_value, my_faultAt, Int32.reduceAdd, Int32.reduceSub, Int32.reduceMul, Int32.reduceLT, zqm0, zqm1, zqm2, zqm3, zqm4, zqm5, zqm6, zqm7, zqm8, zq0m, zq01, zq02, zq03, zq04, zq05, zq06, zq07, zq08, zq1m, zq10, zq12, zq13, zq14, zq15, zq16, zq17, zq18, zq2m, zq20, zq21, zq23, zq24, zq25, zq26, zq27, zq28, zq3m, zq30, zq31, zq32, zq34, zq35, zq36, zq37, zq38, zq4m, zq40, zq41, zq42, zq43, zq45, zq46, zq47, zq48, zq5m, zq50, zq51, zq52, zq53, zq54, zq56, zq57, zq58, zq6m, zq60, zq61, zq62, zq63, zq64, zq65, zq67, zq68, zq7m, zq70, zq71, zq72, zq73, zq74, zq75, zq76, zq78, zq8m, zq80, zq81, zq82, zq83, zq84, zq85, zq86, zq87, m_wantsFor ok, w, e, e2]
  · rw [w, if_neg (by decide), if_pos rfl]
    refine ⟨B, A, fnY 5 Y, ?_, fun k _ => rfl⟩
    rw [qv_5]
    rw [Ec_go rfl]; show Rn 184 (0, [some (.ref 50), some (.int x), some (.int y), some (.int z), none], [], a, mw h S K B A Y) = _
    simp only [r184_0, r184_1, r184_2, r184_3, r184_4, r184_7, r184_9, r184_11, r184_14, r184_15, r184_17, r184_20, r184_21, r184_22, r184_23, r184_24, r184_25, r184_28, r184_29, r184_32, Nl_none, Nl_int, Nl_ref, Nl_null, Kv_some, Ki_some, Kh_some, Bk_some, Bk_void, ↓reduceIte, mrt10, mrt11, zl2, zl3, zl4, zl8, Bool.false_eq_true, my_s, my_mis, my_kept, my_before, my_aside, my_isKept, my_findings, my_tape, my_taped, my_bitsOf, my_sizes, my_numbers, my_fitting, my_leastFit, my_token, my_from, my_to, my_value, my_faultAt, Int32.reduceAdd, Int32.reduceSub, Int32.reduceMul, Int32.reduceLT, zqm0, zqm1, zqm2, zqm3, zqm4, zqm5, zqm6, zqm7, zqm8, zq0m, zq01, zq02, zq03, zq04, zq05, zq06, zq07, zq08, zq1m, zq10, zq12, zq13, zq14, zq15, zq16, zq17, zq18, zq2m, zq20, zq21, zq23, zq24, zq25, zq26, zq27, zq28, zq3m, zq30, zq31, zq32, zq34, zq35, zq36, zq37, zq38, zq4m, zq40, zq41, zq42, zq43, zq45, zq46, zq47, zq48, zq5m, zq50, zq51, zq52, zq53, zq54, zq56, zq57, zq58, zq6m, zq60, zq61, zq62, zq63, zq64, zq65, zq67, zq68, zq7m, zq70, zq71, zq72, zq73, zq74, zq75, zq76, zq78, zq8m, zq80, zq81, zq82, zq83, zq84, zq85, zq86, zq87, m_isLayer, m_isColour, m_isSheet, mi_0_999, mi_0_5, mi_0_9, mi_0_6, mi_0_8, mi_1_60, mi_1_5, mi_0_100, mi_0_30, mi_0_40, mi_0_20, mi_1_20, mi_0_1, mi_1_4, mi_m1_6, mi_0x, mf_0, mf_1, mf_2, mf_3, mf_4, mf_5, mf_6, b2i, m_wantsFor ok, w, m5z]
  · rw [w, if_neg (by decide), if_neg (by decide)]
    refine ⟨B, A, fnY 0 Y, ?_, fun k _ => rfl⟩
    rw [qv_0]
    rw [Ec_go rfl]; show Rn 184 (0, [some (.ref 50), some (.int x), some (.int y), some (.int z), none], [], a, mw h S K B A Y) = _
    simp only [r184_0, r184_1, r184_2, r184_3, r184_4, r184_7, r184_9, r184_11, r184_14, r184_15, r184_17, r184_20, r184_21, r184_22, r184_23, r184_24, r184_25, r184_28, r184_29, r184_32, Nl_none, Nl_int, Nl_ref, Nl_null, Kv_some, Ki_some, Kh_some, Bk_some, Bk_void, ↓reduceIte, mrt10, mrt11, zl2, zl3, zl4, zl8, Bool.false_eq_true, my_s, my_mis, my_kept, my_before, my_aside, my_isKept, my_findings, my_tape, my_taped, my_bitsOf, my_sizes, my_numbers, my_fitting, my_leastFit, my_token, my_from, my_to, my_value, my_faultAt, Int32.reduceAdd, Int32.reduceSub, Int32.reduceMul, Int32.reduceLT, zqm0, zqm1, zqm2, zqm3, zqm4, zqm5, zqm6, zqm7, zqm8, zq0m, zq01, zq02, zq03, zq04, zq05, zq06, zq07, zq08, zq1m, zq10, zq12, zq13, zq14, zq15, zq16, zq17, zq18, zq2m, zq20, zq21, zq23, zq24, zq25, zq26, zq27, zq28, zq3m, zq30, zq31, zq32, zq34, zq35, zq36, zq37, zq38, zq4m, zq40, zq41, zq42, zq43, zq45, zq46, zq47, zq48, zq5m, zq50, zq51, zq52, zq53, zq54, zq56, zq57, zq58, zq6m, zq60, zq61, zq62, zq63, zq64, zq65, zq67, zq68, zq7m, zq70, zq71, zq72, zq73, zq74, zq75, zq76, zq78, zq8m, zq80, zq81, zq82, zq83, zq84, zq85, zq86, zq87, m_isLayer, m_isColour, m_isSheet, mi_0_999, mi_0_5, mi_0_9, mi_0_6, mi_0_8, mi_1_60, mi_1_5, mi_0_100, mi_0_30, mi_0_40, mi_0_20, mi_1_20, mi_0_1, mi_1_4, mi_m1_6, mi_0x, mf_0, mf_1, mf_2, mf_3, mf_4, mf_5, mf_6, b2i, m_wantsFor ok, w, m0z]
theorem mq_held (ok : Ok n S) (hsz : szY Y) (hy : (S 1).toInt ≤ 60000) : OpQ 185 [.int x, .int y, .int z] S K Y (heQ (wfY x y z n Y) (fun i => Y (150 + (40 * iN x + i))) (iN (Y (144 + iN x))) (iN y) z n S) := by
  intro a h B A
  have h8 := ok.1
  unfold heQ brQ
  rcases wf_cases (x := x) (y := y) (z := z) (n := n) (Y := Y) with w | w | w
  · rw [if_pos w.1]
    obtain ⟨w, h0, h1, h2⟩ := w
    obtain ⟨s, hs, rfl⟩ := isS_nat h0
    obtain ⟨t, ht, rfl⟩ := hs_of h1 h8
    obtain ⟨m, hm, es⟩ := hsz s hs
    rw [iN_of (show s < 2147483648 by omega), iN_of (show t < 2147483648 by omega), es, iN_of (show m < 2147483648 by omega)]
    obtain ⟨A', f, l, e, ef, el⟩ := m_findsFits (a := a) (h := h) (K := K) (B := B) (A := A) ok hs ht h2 es hm hy
    have e2 : mfu (mfu Y 2 f) 3 l 2 = f := by rw [fu_ne (by decide), fu_at]
    have e3 : mfu (mfu Y 2 f) 3 l 3 = l := fu_at
    cases ef : fnd (ftP (fun i => Y (150 + (40 * s + i))) m t z n S) 0 201 with
    | none =>
      rw [ef] at el
      have el : f = 0 := el
      subst el
      refine ⟨B, A', fnY 3 (mfu (mfu Y 2 0) 3 l), ?_, fun k hk => ?_⟩
      · rw [on_n, qv_3]
        rw [Ec_go rfl]; show Rn 185 (0, [some (.ref 50), some (.int (Int32.ofNat s)), some (.int (Int32.ofNat t)), some (.int z), none], [], a, mw h S K B A Y) = _
        simp only [r185_0, r185_1, r185_2, r185_3, r185_4, r185_7, r185_9, r185_11, r185_14, r185_15, r185_17, r185_20, r185_21, r185_22, r185_23, r185_24, r185_25, r185_28, r185_29, r185_32, r185_35, r185_36, r185_39, r185_42, r185_43, r185_45, r185_48, Nl_none, Nl_int, Nl_ref, Nl_null, Kv_some, Ki_some, Kh_some, Bk_some, Bk_void, ↓reduceIte, mrt10, mrt11, zl2, zl3, zl4, zl8, Bool.false_eq_true, my_s, my_mis, my_kept, my_before, my_aside, my_isKept, my_findings, my_tape, my_taped, my_bitsOf, my_sizes, my_numbers, my_fitting, my_leastFit, my_token, my_from, my_to, my_value, my_faultAt, Int32.reduceAdd, Int32.reduceSub, Int32.reduceMul, Int32.reduceLT, zqm0, zqm1, zqm2, zqm3, zqm4, zqm5, zqm6, zqm7, zqm8, zq0m, zq01, zq02, zq03, zq04, zq05, zq06, zq07, zq08, zq1m, zq10, zq12, zq13, zq14, zq15, zq16, zq17, zq18, zq2m, zq20, zq21, zq23, zq24, zq25, zq26, zq27, zq28, zq3m, zq30, zq31, zq32, zq34, zq35, zq36, zq37, zq38, zq4m, zq40, zq41, zq42, zq43, zq45, zq46, zq47, zq48, zq5m, zq50, zq51, zq52, zq53, zq54, zq56, zq57, zq58, zq6m, zq60, zq61, zq62, zq63, zq64, zq65, zq67, zq68, zq7m, zq70, zq71, zq72, zq73, zq74, zq75, zq76, zq78, zq8m, zq80, zq81, zq82, zq83, zq84, zq85, zq86, zq87, m_isLayer, m_isColour, m_isSheet, mi_0_999, mi_0_5, mi_0_9, mi_0_6, mi_0_8, mi_1_60, mi_1_5, mi_0_100, mi_0_30, mi_0_40, mi_0_20, mi_1_20, mi_0_1, mi_1_4, mi_m1_6, mi_0x, mf_0, mf_1, mf_2, mf_3, mf_4, mf_5, mf_6, b2i, m_wantsFor ok, w, e, e2]
      · show fnY 3 (mfu (mfu Y 2 0) 3 l) k = fnY 3 Y k
        have g : ∀ k, k < 2 ∨ 9 ≤ k → mfu (mfu Y 2 0) 3 l k = Y k := fun k hk => by rw [fu_ne (by omega), fu_ne (by omega)]
        unfold fnY mfu
        split
        · rw [if_neg (by decide), if_neg (by decide)]
        · split
          · rw [if_neg (by decide), if_neg (by decide)]
          · rw [if_neg (by omega), if_neg (by omega)]
    | some i =>
      rw [ef] at el
      refine ⟨B, A', mfu (mfu Y 2 f) 3 l, ?_, fun k hk => by rw [fu_ne (by omega), fu_ne (by omega)]; rfl⟩
      rw [on_s, qv_l, ← el.2]
      rw [Ec_go rfl]; show Rn 185 (0, [some (.ref 50), some (.int (Int32.ofNat s)), some (.int (Int32.ofNat t)), some (.int z), none], [], a, mw h S K B A Y) = _
      simp only [r185_0, r185_1, r185_2, r185_3, r185_4, r185_7, r185_9, r185_11, r185_14, r185_15, r185_17, r185_20, r185_21, r185_22, r185_23, r185_24, r185_25, r185_28, r185_29, r185_32, r185_35, r185_36, r185_39, r185_42, r185_43, r185_45, r185_48, Nl_none, Nl_int, Nl_ref, Nl_null, Kv_some, Ki_some, Kh_some, Bk_some, Bk_void, ↓reduceIte, mrt10, mrt11, zl2, zl3, zl4, zl8, Bool.false_eq_true, my_s, my_mis, my_kept, my_before, my_aside, my_isKept, my_findings, my_tape, my_taped, my_bitsOf, my_sizes, my_numbers, my_fitting, my_leastFit, my_token, my_from, my_to, my_value, my_faultAt, Int32.reduceAdd, Int32.reduceSub, Int32.reduceMul, Int32.reduceLT, zqm0, zqm1, zqm2, zqm3, zqm4, zqm5, zqm6, zqm7, zqm8, zq0m, zq01, zq02, zq03, zq04, zq05, zq06, zq07, zq08, zq1m, zq10, zq12, zq13, zq14, zq15, zq16, zq17, zq18, zq2m, zq20, zq21, zq23, zq24, zq25, zq26, zq27, zq28, zq3m, zq30, zq31, zq32, zq34, zq35, zq36, zq37, zq38, zq4m, zq40, zq41, zq42, zq43, zq45, zq46, zq47, zq48, zq5m, zq50, zq51, zq52, zq53, zq54, zq56, zq57, zq58, zq6m, zq60, zq61, zq62, zq63, zq64, zq65, zq67, zq68, zq7m, zq70, zq71, zq72, zq73, zq74, zq75, zq76, zq78, zq8m, zq80, zq81, zq82, zq83, zq84, zq85, zq86, zq87, m_isLayer, m_isColour, m_isSheet, mi_0_999, mi_0_5, mi_0_9, mi_0_6, mi_0_8, mi_1_60, mi_1_5, mi_0_100, mi_0_30, mi_0_40, mi_0_20, mi_1_20, mi_0_1, mi_1_4, mi_m1_6, mi_0x, mf_0, mf_1, mf_2, mf_3, mf_4, mf_5, mf_6, b2i, m_wantsFor ok, w, e, e2, e3, el.1]
  · rw [w, if_neg (by decide), if_pos rfl]
    refine ⟨B, A, fnY 5 Y, ?_, fun k _ => rfl⟩
    rw [qv_5]
    rw [Ec_go rfl]; show Rn 185 (0, [some (.ref 50), some (.int x), some (.int y), some (.int z), none], [], a, mw h S K B A Y) = _
    simp only [r185_0, r185_1, r185_2, r185_3, r185_4, r185_7, r185_9, r185_11, r185_14, r185_15, r185_17, r185_20, r185_21, r185_22, r185_23, r185_24, r185_25, r185_28, r185_29, r185_32, r185_35, r185_36, r185_39, r185_42, r185_43, r185_45, r185_48, Nl_none, Nl_int, Nl_ref, Nl_null, Kv_some, Ki_some, Kh_some, Bk_some, Bk_void, ↓reduceIte, mrt10, mrt11, zl2, zl3, zl4, zl8, Bool.false_eq_true, my_s, my_mis, my_kept, my_before, my_aside, my_isKept, my_findings, my_tape, my_taped, my_bitsOf, my_sizes, my_numbers, my_fitting, my_leastFit, my_token, my_from, my_to, my_value, my_faultAt, Int32.reduceAdd, Int32.reduceSub, Int32.reduceMul, Int32.reduceLT, zqm0, zqm1, zqm2, zqm3, zqm4, zqm5, zqm6, zqm7, zqm8, zq0m, zq01, zq02, zq03, zq04, zq05, zq06, zq07, zq08, zq1m, zq10, zq12, zq13, zq14, zq15, zq16, zq17, zq18, zq2m, zq20, zq21, zq23, zq24, zq25, zq26, zq27, zq28, zq3m, zq30, zq31, zq32, zq34, zq35, zq36, zq37, zq38, zq4m, zq40, zq41, zq42, zq43, zq45, zq46, zq47, zq48, zq5m, zq50, zq51, zq52, zq53, zq54, zq56, zq57, zq58, zq6m, zq60, zq61, zq62, zq63, zq64, zq65, zq67, zq68, zq7m, zq70, zq71, zq72, zq73, zq74, zq75, zq76, zq78, zq8m, zq80, zq81, zq82, zq83, zq84, zq85, zq86, zq87, m_isLayer, m_isColour, m_isSheet, mi_0_999, mi_0_5, mi_0_9, mi_0_6, mi_0_8, mi_1_60, mi_1_5, mi_0_100, mi_0_30, mi_0_40, mi_0_20, mi_1_20, mi_0_1, mi_1_4, mi_m1_6, mi_0x, mf_0, mf_1, mf_2, mf_3, mf_4, mf_5, mf_6, b2i, m_wantsFor ok, w, m5z]
  · rw [w, if_neg (by decide), if_neg (by decide)]
    refine ⟨B, A, fnY 0 Y, ?_, fun k _ => rfl⟩
    rw [qv_0]
    rw [Ec_go rfl]; show Rn 185 (0, [some (.ref 50), some (.int x), some (.int y), some (.int z), none], [], a, mw h S K B A Y) = _
    simp only [r185_0, r185_1, r185_2, r185_3, r185_4, r185_7, r185_9, r185_11, r185_14, r185_15, r185_17, r185_20, r185_21, r185_22, r185_23, r185_24, r185_25, r185_28, r185_29, r185_32, r185_35, r185_36, r185_39, r185_42, r185_43, r185_45, r185_48, Nl_none, Nl_int, Nl_ref, Nl_null, Kv_some, Ki_some, Kh_some, Bk_some, Bk_void, ↓reduceIte, mrt10, mrt11, zl2, zl3, zl4, zl8, Bool.false_eq_true, my_s, my_mis, my_kept, my_before, my_aside, my_isKept, my_findings, my_tape, my_taped, my_bitsOf, my_sizes, my_numbers, my_fitting, my_leastFit, my_token, my_from, my_to, my_value, my_faultAt, Int32.reduceAdd, Int32.reduceSub, Int32.reduceMul, Int32.reduceLT, zqm0, zqm1, zqm2, zqm3, zqm4, zqm5, zqm6, zqm7, zqm8, zq0m, zq01, zq02, zq03, zq04, zq05, zq06, zq07, zq08, zq1m, zq10, zq12, zq13, zq14, zq15, zq16, zq17, zq18, zq2m, zq20, zq21, zq23, zq24, zq25, zq26, zq27, zq28, zq3m, zq30, zq31, zq32, zq34, zq35, zq36, zq37, zq38, zq4m, zq40, zq41, zq42, zq43, zq45, zq46, zq47, zq48, zq5m, zq50, zq51, zq52, zq53, zq54, zq56, zq57, zq58, zq6m, zq60, zq61, zq62, zq63, zq64, zq65, zq67, zq68, zq7m, zq70, zq71, zq72, zq73, zq74, zq75, zq76, zq78, zq8m, zq80, zq81, zq82, zq83, zq84, zq85, zq86, zq87, m_isLayer, m_isColour, m_isSheet, mi_0_999, mi_0_5, mi_0_9, mi_0_6, mi_0_8, mi_1_60, mi_1_5, mi_0_100, mi_0_30, mi_0_40, mi_0_20, mi_1_20, mi_0_1, mi_1_4, mi_m1_6, mi_0x, mf_0, mf_1, mf_2, mf_3, mf_4, mf_5, mf_6, b2i, m_wantsFor ok, w, m0z]
theorem mq_kinds (ok : Ok n S) (hsz : szY Y) (hy : (S 1).toInt ≤ 60000) : OpQ 186 [.int x, .int y] S K Y (kiQ (wfY x y 0 n Y) (fun i => Y (150 + (40 * iN x + i))) (iN (Y (144 + iN x))) (iN y) n S) := by
  intro a h B A
  have h8 := ok.1
  unfold kiQ brQ
  rcases wf_cases (x := x) (y := y) (z := 0) (n := n) (Y := Y) with w | w | w
  · rw [if_pos w.1]
    obtain ⟨w, h0, h1, h2⟩ := w
    obtain ⟨s, hs, rfl⟩ := isS_nat h0
    obtain ⟨t, ht, rfl⟩ := hs_of h1 h8
    obtain ⟨m, hm, es⟩ := hsz s hs
    rw [iN_of (show s < 2147483648 by omega), iN_of (show t < 2147483648 by omega), es, iN_of (show m < 2147483648 by omega)]
    have t8 : t < 8 := by omega
    have hp : 29 + 6 * t < 86 := by omega
    have L := lp_up (M := 186) (X := fun k (r : Int32 × Int32 × TS) => (32, [some (.ref 50), some (.int (Int32.ofNat s)), some (.int (Int32.ofNat t)), some (.int 0), some (.int (S (28 + 6 * t))), some (.int r.1), some (.int (Int32.ofNat k))], [], a, mw h (mfu S (28 + 6 * t) r.2.1) K B r.2.2 Y)) (f := fun k r => (kiF (kdP (fun i => Y (150 + (40 * s + i))) m t n S) k r.1, Int32.ofNat k, mfu S (28 + 6 * t) (Int32.ofNat k))) (P := fun _ _ => True) (N := 7) (fun k r hk _ => ⟨by
      obtain ⟨b1, u, A1⟩ := r
      have lt : ((6 : Int32) < Int32.ofNat k) = False := ltF (k := 6) (by omega) (by decide)
      have ok' := ok_kind ok ht hk
      have hy' : (mfu S (28 + 6 * t) (Int32.ofNat k) 1).toInt ≤ 60000 := by rw [up_1 (by omega)]; exact hy
      have hT : Ec 181 [.ref 50, .int (Int32.ofNat s), .int (Int32.ofNat (29 + 6 * t))] a (mw h (mfu S (28 + 6 * t) (Int32.ofNat k)) K B A1 Y) = some (some (.int (b2i (kdP (fun i => Y (150 + (40 * s + i))) m t n S k))), a, mw h (mfu S (28 + 6 * t) (Int32.ofNat k)) K B (mfu S (28 + 6 * t) (Int32.ofNat k)) Y) := m_isTold ok' hs hp es hm hy'
      show Rn 186 (32, [some (.ref 50), some (.int (Int32.ofNat s)), some (.int (Int32.ofNat t)), some (.int 0), some (.int (S (28 + 6 * t))), some (.int b1), some (.int (Int32.ofNat k))], [], a, mw h (mfu S (28 + 6 * t) u) K B A1 Y) = Rn 186 (32, [some (.ref 50), some (.int (Int32.ofNat s)), some (.int (Int32.ofNat t)), some (.int 0), some (.int (S (28 + 6 * t))), some (.int (kiF (kdP (fun i => Y (150 + (40 * s + i))) m t n S) k b1)), some (.int (Int32.ofNat (k + 1)))], [], a, mw h (mfu S (28 + 6 * t) (Int32.ofNat k)) K B (mfu S (28 + 6 * t) (Int32.ofNat k)) Y)
      rw [r186_32]
      unfold kiF
      by_cases q : kdP (fun i => Y (150 + (40 * s + i))) m t n S k = true
      · simp only [r186_0, r186_1, r186_2, r186_3, r186_4, r186_7, r186_8, r186_9, r186_12, r186_13, r186_14, r186_17, r186_18, r186_19, r186_20, r186_21, r186_24, r186_26, r186_27, r186_29, r186_30, r186_34, r186_36, r186_39, r186_40, r186_43, r186_44, r186_45, r186_48, r186_50, r186_51, r186_53, r186_54, r186_55, r186_56, r186_57, r186_60, r186_63, r186_66, r186_67, r186_69, r186_70, r186_73, r186_74, r186_75, r186_77, r186_80, r186_83, r186_84, r186_87, r186_88, r186_89, r186_92, r186_94, r186_95, r186_97, Nl_none, Nl_int, Nl_ref, Nl_null, Kv_some, Ki_some, Kh_some, Bk_some, Bk_void, ↓reduceIte, mrt10, mrt11, zl2, zl3, zl4, zl8, Bool.false_eq_true, my_s, my_mis, my_kept, my_before, my_aside, my_isKept, my_findings, my_tape, my_taped, my_bitsOf, my_sizes, my_numbers, my_fitting, my_leastFit, my_token, my_from, my_to, my_value, my_faultAt, Int32.reduceAdd, Int32.reduceSub, Int32.reduceMul, Int32.reduceLT, zqm0, zqm1, zqm2, zqm3, zqm4, zqm5, zqm6, zqm7, zqm8, zq0m, zq01, zq02, zq03, zq04, zq05, zq06, zq07, zq08, zq1m, zq10, zq12, zq13, zq14, zq15, zq16, zq17, zq18, zq2m, zq20, zq21, zq23, zq24, zq25, zq26, zq27, zq28, zq3m, zq30, zq31, zq32, zq34, zq35, zq36, zq37, zq38, zq4m, zq40, zq41, zq42, zq43, zq45, zq46, zq47, zq48, zq5m, zq50, zq51, zq52, zq53, zq54, zq56, zq57, zq58, zq6m, zq60, zq61, zq62, zq63, zq64, zq65, zq67, zq68, zq7m, zq70, zq71, zq72, zq73, zq74, zq75, zq76, zq78, zq8m, zq80, zq81, zq82, zq83, zq84, zq85, zq86, zq87, lt, m_at0, m_at1, mp_th0 t8, fu_fu, hT, q, b2i, of_in]
      · simp only [r186_0, r186_1, r186_2, r186_3, r186_4, r186_7, r186_8, r186_9, r186_12, r186_13, r186_14, r186_17, r186_18, r186_19, r186_20, r186_21, r186_24, r186_26, r186_27, r186_29, r186_30, r186_34, r186_36, r186_39, r186_40, r186_43, r186_44, r186_45, r186_48, r186_50, r186_51, r186_53, r186_54, r186_55, r186_56, r186_57, r186_60, r186_63, r186_66, r186_67, r186_69, r186_70, r186_73, r186_74, r186_75, r186_77, r186_80, r186_83, r186_84, r186_87, r186_88, r186_89, r186_92, r186_94, r186_95, r186_97, Nl_none, Nl_int, Nl_ref, Nl_null, Kv_some, Ki_some, Kh_some, Bk_some, Bk_void, ↓reduceIte, mrt10, mrt11, zl2, zl3, zl4, zl8, Bool.false_eq_true, my_s, my_mis, my_kept, my_before, my_aside, my_isKept, my_findings, my_tape, my_taped, my_bitsOf, my_sizes, my_numbers, my_fitting, my_leastFit, my_token, my_from, my_to, my_value, my_faultAt, Int32.reduceAdd, Int32.reduceSub, Int32.reduceMul, Int32.reduceLT, zqm0, zqm1, zqm2, zqm3, zqm4, zqm5, zqm6, zqm7, zqm8, zq0m, zq01, zq02, zq03, zq04, zq05, zq06, zq07, zq08, zq1m, zq10, zq12, zq13, zq14, zq15, zq16, zq17, zq18, zq2m, zq20, zq21, zq23, zq24, zq25, zq26, zq27, zq28, zq3m, zq30, zq31, zq32, zq34, zq35, zq36, zq37, zq38, zq4m, zq40, zq41, zq42, zq43, zq45, zq46, zq47, zq48, zq5m, zq50, zq51, zq52, zq53, zq54, zq56, zq57, zq58, zq6m, zq60, zq61, zq62, zq63, zq64, zq65, zq67, zq68, zq7m, zq70, zq71, zq72, zq73, zq74, zq75, zq76, zq78, zq8m, zq80, zq81, zq82, zq83, zq84, zq85, zq86, zq87, lt, m_at0, m_at1, mp_th0 t8, fu_fu, hT, q, b2i, of_in, Int32.or_zero], trivial⟩) 7 0 (0, S (28 + 6 * t), A) (by omega) trivial
    have e1 : ∀ m1 k (s1 : Int32 × Int32 × TS), (lpf (fun k (r : Int32 × Int32 × TS) => (kiF (kdP (fun i => Y (150 + (40 * s + i))) m t n S) k r.1, Int32.ofNat k, mfu S (28 + 6 * t) (Int32.ofNat k))) k m1 s1).1 = lpf (kiF (kdP (fun i => Y (150 + (40 * s + i))) m t n S)) k m1 s1.1 := by
      intro m1
      induction m1 with
      | zero => intro k s; rfl
      | succ m1 ih => intro k s; exact ih (k + 1) _
    have e2 := e1 7 0 (0, S (28 + 6 * t), A)
    generalize lpf (fun k (r : Int32 × Int32 × TS) => (kiF (kdP (fun i => Y (150 + (40 * s + i))) m t n S) k r.1, Int32.ofNat k, mfu S (28 + 6 * t) (Int32.ofNat k))) 0 7 (0, S (28 + 6 * t), A) = s' at L e2
    obtain ⟨b1, u, A'⟩ := s'
    have e2 : b1 = lpf (kiF (kdP (fun i => Y (150 + (40 * s + i))) m t n S)) 0 7 0 := e2
    rw [← e2]
    refine ⟨B, A', Y, ?_, fun k hk => rfl⟩
    have L1 : Rn 186 (32, [some (.ref 50), some (.int (Int32.ofNat s)), some (.int (Int32.ofNat t)), some (.int 0), some (.int (S (28 + 6 * t))), some (.int 0), some (.int 0)], [], a, mw h (mfu S (28 + 6 * t) (S (28 + 6 * t))) K B A Y) = Rn 186 (32, [some (.ref 50), some (.int (Int32.ofNat s)), some (.int (Int32.ofNat t)), some (.int 0), some (.int (S (28 + 6 * t))), some (.int b1), some (.int 7)], [], a, mw h (mfu S (28 + 6 * t) u) K B A' Y) := L.1
    rw [fu_self] at L1
    rw [qv_l]
    rw [Ec_go rfl]; show Rn 186 (0, [some (.ref 50), some (.int (Int32.ofNat s)), some (.int (Int32.ofNat t)), none, none, none, none], [], a, mw h S K B A Y) = _
    simp only [r186_0, r186_1, r186_2, r186_3, r186_4, r186_7, r186_8, r186_9, r186_12, r186_13, r186_14, r186_17, r186_18, r186_19, r186_20, r186_21, r186_24, r186_26, r186_27, r186_29, r186_30, r186_34, r186_36, r186_39, r186_40, r186_43, r186_44, r186_45, r186_48, r186_50, r186_51, r186_53, r186_54, r186_55, r186_56, r186_57, r186_60, r186_63, r186_66, r186_67, r186_69, r186_70, r186_73, r186_74, r186_75, r186_77, r186_80, r186_83, r186_84, r186_87, r186_88, r186_89, r186_92, r186_94, r186_95, r186_97, Nl_none, Nl_int, Nl_ref, Nl_null, Kv_some, Ki_some, Kh_some, Bk_some, Bk_void, ↓reduceIte, mrt10, mrt11, zl2, zl3, zl4, zl8, Bool.false_eq_true, my_s, my_mis, my_kept, my_before, my_aside, my_isKept, my_findings, my_tape, my_taped, my_bitsOf, my_sizes, my_numbers, my_fitting, my_leastFit, my_token, my_from, my_to, my_value, my_faultAt, Int32.reduceAdd, Int32.reduceSub, Int32.reduceMul, Int32.reduceLT, zqm0, zqm1, zqm2, zqm3, zqm4, zqm5, zqm6, zqm7, zqm8, zq0m, zq01, zq02, zq03, zq04, zq05, zq06, zq07, zq08, zq1m, zq10, zq12, zq13, zq14, zq15, zq16, zq17, zq18, zq2m, zq20, zq21, zq23, zq24, zq25, zq26, zq27, zq28, zq3m, zq30, zq31, zq32, zq34, zq35, zq36, zq37, zq38, zq4m, zq40, zq41, zq42, zq43, zq45, zq46, zq47, zq48, zq5m, zq50, zq51, zq52, zq53, zq54, zq56, zq57, zq58, zq6m, zq60, zq61, zq62, zq63, zq64, zq65, zq67, zq68, zq7m, zq70, zq71, zq72, zq73, zq74, zq75, zq76, zq78, zq8m, zq80, zq81, zq82, zq83, zq84, zq85, zq86, zq87, m_isLayer, m_isColour, m_isSheet, mi_0_999, mi_0_5, mi_0_9, mi_0_6, mi_0_8, mi_1_60, mi_1_5, mi_0_100, mi_0_30, mi_0_40, mi_0_20, mi_1_20, mi_0_1, mi_1_4, mi_m1_6, mi_0x, mf_0, mf_1, mf_2, mf_3, mf_4, mf_5, mf_6, b2i, m_wantsFor ok, w, m_its0 t8]
    rw [L1, r186_32]
    simp only [r186_0, r186_1, r186_2, r186_3, r186_4, r186_7, r186_8, r186_9, r186_12, r186_13, r186_14, r186_17, r186_18, r186_19, r186_20, r186_21, r186_24, r186_26, r186_27, r186_29, r186_30, r186_34, r186_36, r186_39, r186_40, r186_43, r186_44, r186_45, r186_48, r186_50, r186_51, r186_53, r186_54, r186_55, r186_56, r186_57, r186_60, r186_63, r186_66, r186_67, r186_69, r186_70, r186_73, r186_74, r186_75, r186_77, r186_80, r186_83, r186_84, r186_87, r186_88, r186_89, r186_92, r186_94, r186_95, r186_97, Nl_none, Nl_int, Nl_ref, Nl_null, Kv_some, Ki_some, Kh_some, Bk_some, Bk_void, ↓reduceIte, mrt10, mrt11, zl2, zl3, zl4, zl8, Bool.false_eq_true, my_s, my_mis, my_kept, my_before, my_aside, my_isKept, my_findings, my_tape, my_taped, my_bitsOf, my_sizes, my_numbers, my_fitting, my_leastFit, my_token, my_from, my_to, my_value, my_faultAt, Int32.reduceAdd, Int32.reduceSub, Int32.reduceMul, Int32.reduceLT, zqm0, zqm1, zqm2, zqm3, zqm4, zqm5, zqm6, zqm7, zqm8, zq0m, zq01, zq02, zq03, zq04, zq05, zq06, zq07, zq08, zq1m, zq10, zq12, zq13, zq14, zq15, zq16, zq17, zq18, zq2m, zq20, zq21, zq23, zq24, zq25, zq26, zq27, zq28, zq3m, zq30, zq31, zq32, zq34, zq35, zq36, zq37, zq38, zq4m, zq40, zq41, zq42, zq43, zq45, zq46, zq47, zq48, zq5m, zq50, zq51, zq52, zq53, zq54, zq56, zq57, zq58, zq6m, zq60, zq61, zq62, zq63, zq64, zq65, zq67, zq68, zq7m, zq70, zq71, zq72, zq73, zq74, zq75, zq76, zq78, zq8m, zq80, zq81, zq82, zq83, zq84, zq85, zq86, zq87, m_at0, mp_th0 t8, fu_fu, fu_self]
  · rw [w, if_neg (by decide), if_pos rfl]
    refine ⟨B, A, fnY 5 Y, ?_, fun k _ => rfl⟩
    rw [qv_5]
    rw [Ec_go rfl]; show Rn 186 (0, [some (.ref 50), some (.int x), some (.int y), none, none, none, none], [], a, mw h S K B A Y) = _
    simp only [r186_0, r186_1, r186_2, r186_3, r186_4, r186_7, r186_8, r186_9, r186_12, r186_13, r186_14, r186_17, r186_18, r186_19, r186_20, r186_21, r186_24, r186_26, r186_27, r186_29, r186_30, r186_32, r186_34, r186_36, r186_39, r186_40, r186_43, r186_44, r186_45, r186_48, r186_50, r186_51, r186_53, r186_54, r186_55, r186_56, r186_57, r186_60, r186_63, r186_66, r186_67, r186_69, r186_70, r186_73, r186_74, r186_75, r186_77, r186_80, r186_83, r186_84, r186_87, r186_88, r186_89, r186_92, r186_94, r186_95, r186_97, Nl_none, Nl_int, Nl_ref, Nl_null, Kv_some, Ki_some, Kh_some, Bk_some, Bk_void, ↓reduceIte, mrt10, mrt11, zl2, zl3, zl4, zl8, Bool.false_eq_true, my_s, my_mis, my_kept, my_before, my_aside, my_isKept, my_findings, my_tape, my_taped, my_bitsOf, my_sizes, my_numbers, my_fitting, my_leastFit, my_token, my_from, my_to, my_value, my_faultAt, Int32.reduceAdd, Int32.reduceSub, Int32.reduceMul, Int32.reduceLT, zqm0, zqm1, zqm2, zqm3, zqm4, zqm5, zqm6, zqm7, zqm8, zq0m, zq01, zq02, zq03, zq04, zq05, zq06, zq07, zq08, zq1m, zq10, zq12, zq13, zq14, zq15, zq16, zq17, zq18, zq2m, zq20, zq21, zq23, zq24, zq25, zq26, zq27, zq28, zq3m, zq30, zq31, zq32, zq34, zq35, zq36, zq37, zq38, zq4m, zq40, zq41, zq42, zq43, zq45, zq46, zq47, zq48, zq5m, zq50, zq51, zq52, zq53, zq54, zq56, zq57, zq58, zq6m, zq60, zq61, zq62, zq63, zq64, zq65, zq67, zq68, zq7m, zq70, zq71, zq72, zq73, zq74, zq75, zq76, zq78, zq8m, zq80, zq81, zq82, zq83, zq84, zq85, zq86, zq87, m_isLayer, m_isColour, m_isSheet, mi_0_999, mi_0_5, mi_0_9, mi_0_6, mi_0_8, mi_1_60, mi_1_5, mi_0_100, mi_0_30, mi_0_40, mi_0_20, mi_1_20, mi_0_1, mi_1_4, mi_m1_6, mi_0x, mf_0, mf_1, mf_2, mf_3, mf_4, mf_5, mf_6, b2i, m_wantsFor ok, w, m5z]
  · rw [w, if_neg (by decide), if_neg (by decide)]
    refine ⟨B, A, fnY 0 Y, ?_, fun k _ => rfl⟩
    rw [qv_0]
    rw [Ec_go rfl]; show Rn 186 (0, [some (.ref 50), some (.int x), some (.int y), none, none, none, none], [], a, mw h S K B A Y) = _
    simp only [r186_0, r186_1, r186_2, r186_3, r186_4, r186_7, r186_8, r186_9, r186_12, r186_13, r186_14, r186_17, r186_18, r186_19, r186_20, r186_21, r186_24, r186_26, r186_27, r186_29, r186_30, r186_32, r186_34, r186_36, r186_39, r186_40, r186_43, r186_44, r186_45, r186_48, r186_50, r186_51, r186_53, r186_54, r186_55, r186_56, r186_57, r186_60, r186_63, r186_66, r186_67, r186_69, r186_70, r186_73, r186_74, r186_75, r186_77, r186_80, r186_83, r186_84, r186_87, r186_88, r186_89, r186_92, r186_94, r186_95, r186_97, Nl_none, Nl_int, Nl_ref, Nl_null, Kv_some, Ki_some, Kh_some, Bk_some, Bk_void, ↓reduceIte, mrt10, mrt11, zl2, zl3, zl4, zl8, Bool.false_eq_true, my_s, my_mis, my_kept, my_before, my_aside, my_isKept, my_findings, my_tape, my_taped, my_bitsOf, my_sizes, my_numbers, my_fitting, my_leastFit, my_token, my_from, my_to, my_value, my_faultAt, Int32.reduceAdd, Int32.reduceSub, Int32.reduceMul, Int32.reduceLT, zqm0, zqm1, zqm2, zqm3, zqm4, zqm5, zqm6, zqm7, zqm8, zq0m, zq01, zq02, zq03, zq04, zq05, zq06, zq07, zq08, zq1m, zq10, zq12, zq13, zq14, zq15, zq16, zq17, zq18, zq2m, zq20, zq21, zq23, zq24, zq25, zq26, zq27, zq28, zq3m, zq30, zq31, zq32, zq34, zq35, zq36, zq37, zq38, zq4m, zq40, zq41, zq42, zq43, zq45, zq46, zq47, zq48, zq5m, zq50, zq51, zq52, zq53, zq54, zq56, zq57, zq58, zq6m, zq60, zq61, zq62, zq63, zq64, zq65, zq67, zq68, zq7m, zq70, zq71, zq72, zq73, zq74, zq75, zq76, zq78, zq8m, zq80, zq81, zq82, zq83, zq84, zq85, zq86, zq87, m_isLayer, m_isColour, m_isSheet, mi_0_999, mi_0_5, mi_0_9, mi_0_6, mi_0_8, mi_1_60, mi_1_5, mi_0_100, mi_0_30, mi_0_40, mi_0_20, mi_1_20, mi_0_1, mi_1_4, mi_m1_6, mi_0x, mf_0, mf_1, mf_2, mf_3, mf_4, mf_5, mf_6, b2i, m_wantsFor ok, w, m0z]
/-! sticks -/
def d1T (T : TS) : TS := mfu T 2 (drZ (T 2))
def r8T (T : TS) : Int32 := drV (drZ (T 2)) % 8
def skT (n : Nat) (T : TS) : TS := yrT 0 n (if r8T T = r8T (d1T T) then d1T (d1T T) else stS (r8T T) (r8T (d1T T)) n (d1T (d1T T)))
def skN (n m : Nat) (T : TS) : TS := lpf (fun _ => skT n) 0 m T
theorem drV_rg {z : Int32} : 0 ≤ (drV z).toInt := by
  have e : (drV z).toInt = (z.toUInt32 >>> (Int32.toUInt32 8 &&& Int32.toUInt32 31)).toBitVec.toInt := rfl
  have f : (z.toUInt32 >>> (Int32.toUInt32 8 &&& Int32.toUInt32 31)).toNat = z.toUInt32.toNat >>> ((Int32.toUInt32 8 &&& Int32.toUInt32 31).toNat % 32) := UInt32.toNat_shiftRight _ _
  have g : (Int32.toUInt32 8 &&& Int32.toUInt32 31).toNat % 32 = 8 := by decide
  rw [g, Nat.shiftRight_eq_div_pow] at f
  have l := z.toUInt32.toNat_lt
  have f' : (z.toUInt32 >>> (Int32.toUInt32 8 &&& Int32.toUInt32 31)).toBitVec.toNat = z.toUInt32.toNat / 2 ^ 8 := f
  rw [e, BitVec.toInt_eq_toNat_of_lt (by rw [f']; omega)]
  omega
theorem r8_isL {T : TS} : isL (r8T T) = true := by
  have h := drV_rg (z := drZ (T 2))
  have e : (8 : Int32).toInt = 8 := by decide
  unfold r8T
  have f : (drV (drZ (T 2)) % 8).toInt = (drV (drZ (T 2))).toInt % 8 := by rw [Int32.toInt_mod, e, Int.tmod_eq_emod_of_nonneg h]
  exact isL_of (by rw [f]; omega) (by rw [f]; omega)
theorem sr_d1 {T U : TS} (h : SR n T U) : SR n (d1T T) (d1T U) := by
  unfold d1T
  rw [sr_low h (k := 2) (by omega) (by omega)]
  refine h.up (by omega) (fun _ => ⟨?_, ?_⟩)
  · exact Int32.le_toInt _
  · have := Int32.toInt_lt (drZ (T 2)); show _ ≤ (2147483647 : Int); omega
theorem sr_r8 {T U : TS} (h : SR n T U) : r8T U = r8T T := by unfold r8T; rw [sr_low h (k := 2) (by omega) (by omega)]
theorem sr_skT {T U : TS} (h : SR n T U) : SR n (skT n T) (skT n U) := by
  unfold skT
  rw [sr_r8 h, sr_r8 (sr_d1 h)]
  refine sr_yr ?_
  split
  · exact sr_d1 (sr_d1 h)
  · exact sr_st (sr_d1 (sr_d1 h)) r8_isL r8_isL
theorem sr_skN {T U : TS} (h : SR n T U) : SR n (skN n m T) (skN n m U) := lpf_sr (fun _ => skT n) (fun k s t hk p => sr_skT p) h
theorem sk_1 {T : TS} (ok : Ok n T) : (skT n T 1).toInt ≤ (T 1).toInt + 1 := by
  have e : d1T (d1T T) 1 = T 1 := by unfold d1T; rw [fu_ne (by decide), fu_ne (by decide)]
  have o2 := sr_d1 (sr_d1 ok)
  unfold skT
  split
  · have := yr_yr (out := 0) o2; rw [e] at this; exact this
  · have := yr_yr (out := 0) (sr_st o2 (r8_isL (T := T)) (r8_isL (T := d1T T))); rw [st_1 r8_isL r8_isL, e] at this; exact this
theorem mo_sticks (ok : Ok n S) (hy : (S 1).toInt ≤ 60000) (h0 : wi x 1 20 = true) : OpR 188 [.int x] S K Y (.int (suS 5 n (skN n (iN x) S))) (skN n (iN x) S) K Y := by
  intro a h B A
  obtain ⟨m, hm0, hm, rfl⟩ := wi_nat1 20 (by decide) h0
  rw [iN_of (by omega)]
  have r := rg_year ok
  have lt : ((99999 : Int32) < S 1 + Int32.ofNat m) = False := by
    have e : (99999 : Int32).toInt = 99999 := by decide
    have f := ti_of (n := m) (by omega)
    rw [lt_ti, ti_add (by omega) (by omega), e, f]
    exact eq_false (by omega)
  have L := lp_up (M := 188) (X := fun k (s : TS × Option Value × Option Value) => (41, [some (.ref 50), some (.int (Int32.ofNat m)), some (.int (Int32.ofNat k)), s.2.1, s.2.2], [], a, mw h s.1 K B A Y)) (f := fun _ s => (skT n s.1, some (.int (r8T s.1)), some (.int (r8T (d1T s.1))))) (P := fun k s => Ok n s.1 ∧ (s.1 1).toInt ≤ (S 1).toInt + k) (N := m) (fun k s hk p => ⟨by
    obtain ⟨s, u, v⟩ := s
    have p1 : Ok n s := p.1
    have p2 : (s 1).toInt ≤ (S 1).toInt + k := p.2
    have lt := ltT hk (by omega)
    have e : d1T (d1T s) 1 = s 1 := by unfold d1T; rw [fu_ne (by decide), fu_ne (by decide)]
    have o2 := sr_d1 (sr_d1 p1)
    have hr0 : isL (r8T s) = true := r8_isL
    have hr1 : isL (r8T (d1T s)) = true := r8_isL
    have dr : ∀ s, Ec 187 [.ref 50] a (mw h s K B A Y) = some (some (.int (drV (drZ (s 2)))), a, mw h (d1T s) K B A Y) := fun s => m_draw
    have f0 : drV (drZ (s 2)) % 8 = r8T s := rfl
    have f1 : drV (drZ (d1T s 2)) % 8 = r8T (d1T s) := rfl
    show Rn 188 (41, [some (.ref 50), some (.int (Int32.ofNat m)), some (.int (Int32.ofNat k)), u, v], [], a, mw h s K B A Y) = Rn 188 (41, [some (.ref 50), some (.int (Int32.ofNat m)), some (.int (Int32.ofNat (k + 1))), some (.int (r8T s)), some (.int (r8T (d1T s)))], [], a, mw h (skT n s) K B A Y)
    rw [r188_41]
    unfold skT
    by_cases q : r8T s = r8T (d1T s)
    · have hyb : (d1T (d1T s) 1).toInt < 99999 := by rw [e]; omega
      rw [if_pos q]
      simp only [r188_0, r188_1, r188_2, r188_3, r188_6, r188_9, r188_12, r188_13, r188_15, r188_18, r188_19, r188_20, r188_23, r188_24, r188_25, r188_26, r188_27, r188_29, r188_32, r188_33, r188_35, r188_38, r188_39, r188_40, r188_42, r188_43, r188_46, r188_47, r188_50, r188_52, r188_53, r188_54, r188_55, r188_58, r188_60, r188_61, r188_63, r188_64, r188_66, r188_69, r188_70, r188_71, r188_73, r188_76, r188_77, r188_78, r188_81, r188_84, r188_87, r188_88, r188_89, r188_92, Nl_none, Nl_int, Nl_ref, Nl_null, Kv_some, Ki_some, Kh_some, Bk_some, Bk_void, ↓reduceIte, mrt10, mrt11, zl2, zl3, zl4, zl8, Bool.false_eq_true, my_s, my_mis, my_kept, my_before, my_aside, my_isKept, my_findings, my_tape, my_taped, my_bitsOf, my_sizes, my_numbers, my_fitting, my_leastFit, my_token, my_from, my_to, my_value, my_faultAt, Int32.reduceAdd, Int32.reduceSub, Int32.reduceMul, Int32.reduceLT, zqm0, zqm1, zqm2, zqm3, zqm4, zqm5, zqm6, zqm7, zqm8, zq0m, zq01, zq02, zq03, zq04, zq05, zq06, zq07, zq08, zq1m, zq10, zq12, zq13, zq14, zq15, zq16, zq17, zq18, zq2m, zq20, zq21, zq23, zq24, zq25, zq26, zq27, zq28, zq3m, zq30, zq31, zq32, zq34, zq35, zq36, zq37, zq38, zq4m, zq40, zq41, zq42, zq43, zq45, zq46, zq47, zq48, zq5m, zq50, zq51, zq52, zq53, zq54, zq56, zq57, zq58, zq6m, zq60, zq61, zq62, zq63, zq64, zq65, zq67, zq68, zq7m, zq70, zq71, zq72, zq73, zq74, zq75, zq76, zq78, zq8m, zq80, zq81, zq82, zq83, zq84, zq85, zq86, zq87, lt, dr, f0, f1, if_pos q, m_yearBut o2 hyb, of_in]
    · have o3 := sr_st o2 hr0 hr1
      have hyb : (stS (r8T s) (r8T (d1T s)) n (d1T (d1T s)) 1).toInt < 99999 := by rw [st_1 hr0 hr1, e]; omega
      rw [if_neg q]
      simp only [r188_0, r188_1, r188_2, r188_3, r188_6, r188_9, r188_12, r188_13, r188_15, r188_18, r188_19, r188_20, r188_23, r188_24, r188_25, r188_26, r188_27, r188_29, r188_32, r188_33, r188_35, r188_38, r188_39, r188_40, r188_42, r188_43, r188_46, r188_47, r188_50, r188_52, r188_53, r188_54, r188_55, r188_58, r188_60, r188_61, r188_63, r188_64, r188_66, r188_69, r188_70, r188_71, r188_73, r188_76, r188_77, r188_78, r188_81, r188_84, r188_87, r188_88, r188_89, r188_92, Nl_none, Nl_int, Nl_ref, Nl_null, Kv_some, Ki_some, Kh_some, Bk_some, Bk_void, ↓reduceIte, mrt10, mrt11, zl2, zl3, zl4, zl8, Bool.false_eq_true, my_s, my_mis, my_kept, my_before, my_aside, my_isKept, my_findings, my_tape, my_taped, my_bitsOf, my_sizes, my_numbers, my_fitting, my_leastFit, my_token, my_from, my_to, my_value, my_faultAt, Int32.reduceAdd, Int32.reduceSub, Int32.reduceMul, Int32.reduceLT, zqm0, zqm1, zqm2, zqm3, zqm4, zqm5, zqm6, zqm7, zqm8, zq0m, zq01, zq02, zq03, zq04, zq05, zq06, zq07, zq08, zq1m, zq10, zq12, zq13, zq14, zq15, zq16, zq17, zq18, zq2m, zq20, zq21, zq23, zq24, zq25, zq26, zq27, zq28, zq3m, zq30, zq31, zq32, zq34, zq35, zq36, zq37, zq38, zq4m, zq40, zq41, zq42, zq43, zq45, zq46, zq47, zq48, zq5m, zq50, zq51, zq52, zq53, zq54, zq56, zq57, zq58, zq6m, zq60, zq61, zq62, zq63, zq64, zq65, zq67, zq68, zq7m, zq70, zq71, zq72, zq73, zq74, zq75, zq76, zq78, zq8m, zq80, zq81, zq82, zq83, zq84, zq85, zq86, zq87, lt, dr, f0, f1, if_neg q, m_stirs o2 hr0 hr1 q, m_yearBut o3 hyb, of_in], sr_skT p.1, by have := sk_1 p.1; have := p.2; show (skT n s.1 1).toInt ≤ _; omega⟩) m 0 (S, none, none) (by omega) ⟨ok, by show (S 1).toInt ≤ _; omega⟩
  have e1 : ∀ m1 k (s1 : TS × Option Value × Option Value), (lpf (fun _ (s : TS × Option Value × Option Value) => (skT n s.1, some (Value.int (r8T s.1)), some (Value.int (r8T (d1T s.1))))) k m1 s1).1 = lpf (fun _ => skT n) k m1 s1.1 := by
    intro m1
    induction m1 with
    | zero => intro k s; rfl
    | succ m1 ih => intro k s; exact ih (k + 1) _
  have e2 := e1 m 0 (S, none, none)
  generalize lpf (fun _ (s : TS × Option Value × Option Value) => (skT n s.1, some (Value.int (r8T s.1)), some (Value.int (r8T (d1T s.1))))) 0 m (S, none, none) = s' at L e2
  obtain ⟨s, u, v⟩ := s'
  have e2 : s = skN n m S := e2
  subst e2
  have ok' : Ok n (skN n m S) := sr_skN ok
  refine ⟨B, A, Y, ?_, fun k hk => rfl⟩
  have lf := ltF (Nat.le_refl m) (by omega)
  rw [Ec_go rfl]; show Rn 188 (0, [some (.ref 50), some (.int (Int32.ofNat m)), none, none, none], [], a, mw h S K B A Y) = _
  simp only [r188_0, r188_1, r188_2, r188_3, r188_6, r188_9, r188_12, r188_13, r188_15, r188_18, r188_19, r188_20, r188_23, r188_24, r188_25, r188_26, r188_27, r188_29, r188_32, r188_33, r188_35, r188_38, r188_39, r188_40, r188_42, r188_43, r188_46, r188_47, r188_50, r188_52, r188_53, r188_54, r188_55, r188_58, r188_60, r188_61, r188_63, r188_64, r188_66, r188_69, r188_70, r188_71, r188_73, r188_76, r188_77, r188_78, r188_81, r188_84, r188_87, r188_88, r188_89, r188_92, Nl_none, Nl_int, Nl_ref, Nl_null, Kv_some, Ki_some, Kh_some, Bk_some, Bk_void, ↓reduceIte, mrt10, mrt11, zl2, zl3, zl4, zl8, Bool.false_eq_true, my_s, my_mis, my_kept, my_before, my_aside, my_isKept, my_findings, my_tape, my_taped, my_bitsOf, my_sizes, my_numbers, my_fitting, my_leastFit, my_token, my_from, my_to, my_value, my_faultAt, Int32.reduceAdd, Int32.reduceSub, Int32.reduceMul, Int32.reduceLT, zqm0, zqm1, zqm2, zqm3, zqm4, zqm5, zqm6, zqm7, zqm8, zq0m, zq01, zq02, zq03, zq04, zq05, zq06, zq07, zq08, zq1m, zq10, zq12, zq13, zq14, zq15, zq16, zq17, zq18, zq2m, zq20, zq21, zq23, zq24, zq25, zq26, zq27, zq28, zq3m, zq30, zq31, zq32, zq34, zq35, zq36, zq37, zq38, zq4m, zq40, zq41, zq42, zq43, zq45, zq46, zq47, zq48, zq5m, zq50, zq51, zq52, zq53, zq54, zq56, zq57, zq58, zq6m, zq60, zq61, zq62, zq63, zq64, zq65, zq67, zq68, zq7m, zq70, zq71, zq72, zq73, zq74, zq75, zq76, zq78, zq8m, zq80, zq81, zq82, zq83, zq84, zq85, zq86, zq87, m_isLayer, m_isColour, m_isSheet, mi_0_999, mi_0_5, mi_0_9, mi_0_6, mi_0_8, mi_1_60, mi_1_5, mi_0_100, mi_0_30, mi_0_40, mi_0_20, mi_1_20, mi_0_1, mi_1_4, mi_m1_6, mi_0x, mf_0, mf_1, mf_2, mf_3, mf_4, mf_5, mf_6, b2i, h0, ml_1, lt]
  refine L.1.trans ?_
  rw [r188_41]
  simp only [r188_0, r188_1, r188_2, r188_3, r188_6, r188_9, r188_12, r188_13, r188_15, r188_18, r188_19, r188_20, r188_23, r188_24, r188_25, r188_26, r188_27, r188_29, r188_32, r188_33, r188_35, r188_38, r188_39, r188_40, r188_42, r188_43, r188_46, r188_47, r188_50, r188_52, r188_53, r188_54, r188_55, r188_58, r188_60, r188_61, r188_63, r188_64, r188_66, r188_69, r188_70, r188_71, r188_73, r188_76, r188_77, r188_78, r188_81, r188_84, r188_87, r188_88, r188_89, r188_92, Nl_none, Nl_int, Nl_ref, Nl_null, Kv_some, Ki_some, Kh_some, Bk_some, Bk_void, ↓reduceIte, mrt10, mrt11, zl2, zl3, zl4, zl8, Bool.false_eq_true, my_s, my_mis, my_kept, my_before, my_aside, my_isKept, my_findings, my_tape, my_taped, my_bitsOf, my_sizes, my_numbers, my_fitting, my_leastFit, my_token, my_from, my_to, my_value, my_faultAt, Int32.reduceAdd, Int32.reduceSub, Int32.reduceMul, Int32.reduceLT, zqm0, zqm1, zqm2, zqm3, zqm4, zqm5, zqm6, zqm7, zqm8, zq0m, zq01, zq02, zq03, zq04, zq05, zq06, zq07, zq08, zq1m, zq10, zq12, zq13, zq14, zq15, zq16, zq17, zq18, zq2m, zq20, zq21, zq23, zq24, zq25, zq26, zq27, zq28, zq3m, zq30, zq31, zq32, zq34, zq35, zq36, zq37, zq38, zq4m, zq40, zq41, zq42, zq43, zq45, zq46, zq47, zq48, zq5m, zq50, zq51, zq52, zq53, zq54, zq56, zq57, zq58, zq6m, zq60, zq61, zq62, zq63, zq64, zq65, zq67, zq68, zq7m, zq70, zq71, zq72, zq73, zq74, zq75, zq76, zq78, zq8m, zq80, zq81, zq82, zq83, zq84, zq85, zq86, zq87, lf, m_sumOf5 ok']
theorem mb_sticks (h0 : ¬ wi x 1 20 = true) : OpR 188 [.int x] S K Y (.int (-1000001)) S K (fnY 0 Y) := by
  intro a h B A
  refine ⟨B, A, fnY 0 Y, ?_, fun k _ => rfl⟩
  rw [Ec_go rfl]; show Rn 188 (0, [some (.ref 50), some (.int x), none, none, none], [], a, mw h S K B A Y) = _
  simp only [r188_0, r188_1, r188_2, r188_3, r188_6, r188_9, r188_12, r188_13, r188_15, r188_18, r188_19, r188_20, r188_23, r188_24, r188_25, r188_26, r188_27, r188_29, r188_32, r188_33, r188_35, r188_38, r188_39, r188_40, r188_41, r188_42, r188_43, r188_46, r188_47, r188_50, r188_52, r188_53, r188_54, r188_55, r188_58, r188_60, r188_61, r188_63, r188_64, r188_66, r188_69, r188_70, r188_71, r188_73, r188_76, r188_77, r188_78, r188_81, r188_84, r188_87, r188_88, r188_89, r188_92, Nl_none, Nl_int, Nl_ref, Nl_null, Kv_some, Ki_some, Kh_some, Bk_some, Bk_void, ↓reduceIte, mrt10, mrt11, zl2, zl3, zl4, zl8, Bool.false_eq_true, my_s, my_mis, my_kept, my_before, my_aside, my_isKept, my_findings, my_tape, my_taped, my_bitsOf, my_sizes, my_numbers, my_fitting, my_leastFit, my_token, my_from, my_to, my_value, my_faultAt, Int32.reduceAdd, Int32.reduceSub, Int32.reduceMul, Int32.reduceLT, zqm0, zqm1, zqm2, zqm3, zqm4, zqm5, zqm6, zqm7, zqm8, zq0m, zq01, zq02, zq03, zq04, zq05, zq06, zq07, zq08, zq1m, zq10, zq12, zq13, zq14, zq15, zq16, zq17, zq18, zq2m, zq20, zq21, zq23, zq24, zq25, zq26, zq27, zq28, zq3m, zq30, zq31, zq32, zq34, zq35, zq36, zq37, zq38, zq4m, zq40, zq41, zq42, zq43, zq45, zq46, zq47, zq48, zq5m, zq50, zq51, zq52, zq53, zq54, zq56, zq57, zq58, zq6m, zq60, zq61, zq62, zq63, zq64, zq65, zq67, zq68, zq7m, zq70, zq71, zq72, zq73, zq74, zq75, zq76, zq78, zq8m, zq80, zq81, zq82, zq83, zq84, zq85, zq86, zq87, m_isLayer, m_isColour, m_isSheet, mi_0_999, mi_0_5, mi_0_9, mi_0_6, mi_0_8, mi_1_60, mi_1_5, mi_0_100, mi_0_30, mi_0_40, mi_0_20, mi_1_20, mi_0_1, mi_1_4, mi_m1_6, mi_0x, mf_0, mf_1, mf_2, mf_3, mf_4, mf_5, mf_6, b2i, h0]
end
