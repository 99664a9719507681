/-! ===== a Tub's methods ===== -/
theorem lt8 {k : Nat} (h : k < 8) : (Int32.ofNat k < (8 : Int32)) = True := by
  have := of_lt (n := k) (m := 8) (by omega) (by decide)
  exact this.trans (eq_true h)
theorem ltT {k m : Nat} (h : k < m) (hm : m < 2147483648) : (Int32.ofNat k < Int32.ofNat m) = True := (of_lt (by omega) hm).trans (eq_true h)
theorem ltF {k m : Nat} (h : m ≤ k) (hm : k < 2147483648) : (Int32.ofNat k < Int32.ofNat m) = False := (of_lt hm (by omega)).trans (eq_false (by omega))
theorem of_dec {m : Nat} (h : 0 < m) : Int32.ofNat m + -1 = Int32.ofNat (m - 1) := by
  have := of_sub m 1 h
  rw [← this, Int32.sub_eq_add_neg]; rfl
theorem st_eq {h : MH} {b : Nat} {T T' : TS} (e : ∀ k, k < 87 → T k = T' k) : setTub h b T = setTub h b T' := by
  funext q; unfold setTub
  by_cases r : b ≤ q ∧ q < b + 12
  · rw [if_pos r, if_pos r]
    have hq : q - b < 12 := by omega
    generalize q - b = j at hq
    match j, hq with
    | 0, _ => simp only [tubC]; rw [e 0 (by omega), e 3 (by omega), e 1 (by omega), e 2 (by omega), e 86 (by omega)]
    | 1, _ => exact congrArg (fun z => (.inl (24, z) : MC)) (cl_eq fun k hk => e _ (by omega))
    | 2, _ => rfl
    | 3, _ => exact congrArg (fun z => (.inl (10, z) : MC)) (cl_eq fun k hk => e _ (by omega))
    | k + 4, hq => simp only [tubC]; rw [e _ (by omega), e (29 + 6 * k) (by omega), e (30 + 6 * k) (by omega), e (31 + 6 * k) (by omega), e (32 + 6 * k) (by omega), e (33 + 6 * k) (by omega)]
  · rw [if_neg r, if_neg r]
theorem e_mincap {a : MA} {h : MH} {x : Int32} : Ec 229 [.int x, .int 999] a h = some (some (.int (cap x)), a, h) := e_min
section
variable {a : MA} {h : MH} {b : Nat} {T : TS} {x y z v w : Int32} {t n : Nat}
theorem nnL {x : Int32} (hx : isL x = true) : (x < 0) = False := eq_false (of_decide_eq_true hx).1
theorem dy_idx (hx : isL x = true) (hy : isC y = true) : ¬ x * 3 + y < 0 ∧ iN (x * 3 + y) < 24 ∧ 4 + iN (x * 3 + y) = dyI x y := by
  obtain ⟨l, hl, rfl⟩ := isL_nat hx
  obtain ⟨c, hc, rfl⟩ := isC_nat hy
  have e : Int32.ofNat l * 3 + Int32.ofNat c = Int32.ofNat (l * 3 + c) := by
    rw [← of_add, ← of_mul]; rfl
  rw [e, dyI_at hl hc, iN_of (by omega), of_nn (by omega)]
  exact ⟨id, by omega, by omega⟩
theorem ld_dy (hx : isL x = true) (hy : isC y = true) : mld (setTub h b T) (b + 1) (x * 3 + y) false = some (T (dyI x y)) := by
  have := dy_idx hx hy
  rw [ld_dyes this.1 this.2.1, this.2.2]
theorem pt_dy (hx : isL x = true) (hy : isC y = true) : mias (setTub h b T) (b + 1) (x * 3 + y) v = some (setTub h b (mfu T (dyI x y) v)) := by
  have := dy_idx hx hy
  rw [pt_dyes this.1 this.2.1, this.2.2]
theorem ld_dyN {k : Nat} (hk : k < 24) : mld (setTub h b T) (b + 1) (Int32.ofNat k) false = some (T (4 + k)) := by
  have e := iN_of (n := k) (by omega)
  have := ld_dyes (h := h) (b := b) (T := T) (i := Int32.ofNat k) (by rw [of_nn (by omega)]; exact id) (by rw [e]; exact hk)
  rwa [e] at this
theorem pt_dyN {k : Nat} (hk : k < 24) : mias (setTub h b T) (b + 1) (Int32.ofNat k) v = some (setTub h b (mfu T (4 + k) v)) := by
  have e := iN_of (n := k) (by omega)
  have := pt_dyes (h := h) (b := b) (T := T) (v := v) (i := Int32.ofNat k) (by rw [of_nn (by omega)]; exact id) (by rw [e]; exact hk)
  rwa [e] at this
theorem ld_spN {k : Nat} (hk : k < 10) : mld (setTub h b T) (b + 3) (Int32.ofNat k) false = some (T (76 + k)) := by
  have e := iN_of (n := k) (by omega)
  have := ld_spots (h := h) (b := b) (T := T) (i := Int32.ofNat k) (by rw [of_nn (by omega)]; exact id) (by rw [e]; exact hk)
  rwa [e] at this
theorem pt_spN {k : Nat} (hk : k < 10) : mias (setTub h b T) (b + 3) (Int32.ofNat k) v = some (setTub h b (mfu T (76 + k) v)) := by
  have e := iN_of (n := k) (by omega)
  have := pt_spots (h := h) (b := b) (T := T) (v := v) (i := Int32.ofNat k) (by rw [of_nn (by omega)]; exact id) (by rw [e]; exact hk)
  rwa [e] at this
theorem ld_thN {k : Nat} (hk : k < 8) : mald (setTub h b T) (b + 2) (Int32.ofNat k) = some (.ref (b + 4 + k)) := by
  have e := iN_of (n := k) (by omega)
  have := ld_things (h := h) (b := b) (T := T) (i := Int32.ofNat k) (by rw [of_nn (by omega)]; exact id) (by rw [e]; exact hk)
  rwa [e] at this
theorem e_has (ok : Ok n T) : Ec 36 [.ref b, .int x] a (setTub h b T) = some (some (.int (b2i (hsB x n))), a, setTub h b T) := by
  rw [Ec_go rfl]
  show Rn 36 (0, [some (.ref b), some (.int x)], [], a, setTub h b T) = _
  simp only [r36_0, r36_1, r36_4, r36_5, r36_6, r36_9, r36_12, r36_13, r36_14, r36_17, r36_18, r36_21, r36_22, r36_25, r36_26, Nl_none, Nl_int, Nl_ref, Nl_null, Kv_some, Ki_some, Kh_some, Bk_some, Bk_void, ↓reduceIte, mrt10, mrt11, zl2, zl3, zl4, zl8, Bool.false_eq_true, gt_dyes, gt_things, gt_spots, gt_count, gt_lye, gt_year, gt_z, gt_dry, mis_tub, ln_dyes, ln_things, ln_spots, ok.2.1]
  have h8 := ok.1
  by_cases h1 : x < 0
  · rw [if_pos h1, show hsB x n = false from decide_eq_false (fun z => z.1 h1)]; rfl
  · rw [if_neg h1]
    by_cases h2 : x < Int32.ofNat n
    · have h3 : x < 8 := by
        obtain ⟨t, ht, rfl⟩ := hs_of (x := x) (n := n) (decide_eq_true ⟨h1, h2⟩) h8
        rw [lt8 (by omega)]; trivial
      rw [if_pos h2, if_pos h3, show hsB x n = true from decide_eq_true ⟨h1, h2⟩]; rfl
    · rw [if_neg h2, show hsB x n = false from decide_eq_false (fun z => h2 z.2)]; rfl
theorem e_hasT (ok : Ok n T) (ht : t < n) : Ec 36 [.ref b, .int (Int32.ofNat t)] a (setTub h b T) = some (some (.int 1), a, setTub h b T) := by
  rw [e_has ok, hs_at ht ok.1]; rfl
theorem e_isFull (ok : Ok n T) : Ec 37 [.ref b] a (setTub h b T) = some (some (.int (b2i (decide (¬ n < 8)))), a, setTub h b T) := by
  rw [Ec_go rfl]
  show Rn 37 (0, [some (.ref b)], [], a, setTub h b T) = _
  have e : (Int32.ofNat n < (8 : Int32)) = (n < 8) := of_lt (m := 8) (by have := ok.1; omega) (by decide)
  simp only [r37_0, r37_1, r37_4, r37_5, r37_8, r37_9, r37_12, r37_13, r37_16, r37_17, Nl_none, Nl_int, Nl_ref, Nl_null, Kv_some, Ki_some, Kh_some, Bk_some, Bk_void, ↓reduceIte, mrt10, mrt11, zl2, zl3, zl4, zl8, Bool.false_eq_true, gt_dyes, gt_things, gt_spots, gt_count, gt_lye, gt_year, gt_z, gt_dry, mis_tub, ln_dyes, ln_things, ln_spots, ok.2.1, e]
  by_cases q : n < 8
  · simp only [q, b2i, if_true, not_true, decide_false, if_false]; rfl
  · simp only [q, b2i, if_true, not_false_iff, decide_true, if_false]
theorem e_add (ok : Ok n T) (hn : n < 8) : Ec 38 [.ref b, .int x, .int y] a (setTub h b T) = some (none, a, setTub h b (coS n x y T)) := by
  rw [Ec_go rfl]
  show Rn 38 (0, [some (.ref b), some (.int x), some (.int y)], [], a, setTub h b T) = _
  have e := lt8 hn
  have e0 : (Int32.ofNat n < 0) = False := of_nn (by omega)
  have e1 : ∀ v1 v2 v3 v4 v5 v6 : Int32, mfu (mfu (mfu (mfu (mfu (mfu T (28 + 6 * n) v1) (29 + 6 * n) v2) (30 + 6 * n) v3) (31 + 6 * n) v4) (32 + 6 * n) v5) (33 + 6 * n) v6 0 = Int32.ofNat n := by
    intro v1 v2 v3 v4 v5 v6
    rw [fu_ne (by omega), fu_ne (by omega), fu_ne (by omega), fu_ne (by omega), fu_ne (by omega), fu_ne (by omega), ok.2.1]
  simp only [r38_0, r38_1, r38_4, r38_7, r38_8, r38_11, r38_12, r38_15, r38_16, r38_19, r38_20, r38_23, r38_24, r38_27, r38_28, r38_29, r38_30, r38_33, r38_34, r38_35, r38_38, r38_39, r38_40, r38_43, Nl_none, Nl_int, Nl_ref, Nl_null, Kv_some, Ki_some, Kh_some, Bk_some, Bk_void, ↓reduceIte, mrt10, mrt11, zl2, zl3, zl4, zl8, Bool.false_eq_true, gt_dyes, gt_things, gt_spots, gt_count, gt_lye, gt_year, gt_z, gt_dry, mis_tub, ln_dyes, ln_things, ln_spots, ok.2.1, e, e0, ld_thN hn, mis_thing hn, e_begin hn, e1, pt_count, of_in, coS]
theorem e_told (ok : Ok n T) (ht : t < n) : Ec 39 [.ref b, .int (Int32.ofNat t), .int x] a (setTub h b T) = some (some (.int (toS t x T)), a, setTub h b T) := by
  rw [Ec_go rfl]
  show Rn 39 (0, [some (.ref b), some (.int (Int32.ofNat t)), some (.int x), none], [], a, setTub h b T) = _
  have h8 : t < 8 := by have := ok.1; omega
  have z1 : ((1 : Int32) = 0) = False := by decide
  simp only [r39_0, r39_1, r39_2, r39_5, r39_8, r39_9, r39_10, r39_11, r39_14, r39_15, r39_16, r39_17, r39_18_0, r39_18_1, r39_18_2, r39_18_3, r39_18_4, r39_18_5, r39_18_6, r39_18_7, r39_18_8, r39_68, r39_69, r39_72, r39_73, r39_74, r39_77, r39_78, r39_79, r39_82, r39_83, r39_84, r39_87, r39_88, r39_89, r39_92, r39_93, r39_94, r39_97, r39_98, r39_99, r39_100, r39_103, r39_106, r39_107, r39_108, r39_109, r39_112, r39_115, r39_116, r39_117, r39_118, r39_121, r39_124, r39_125, r39_126, Nl_none, Nl_int, Nl_ref, Nl_null, Kv_some, Ki_some, Kh_some, Bk_some, Bk_void, ↓reduceIte, mrt10, mrt11, zl2, zl3, zl4, zl8, Bool.false_eq_true, gt_dyes, gt_things, gt_spots, gt_count, gt_lye, gt_year, gt_z, gt_dry, mis_tub, ln_dyes, ln_things, ln_spots, e_hasT ok ht, ld_thN h8, z1]
  unfold toS
  by_cases h0 : x = 0
  · subst h0; simp only [r39_0, r39_1, r39_2, r39_5, r39_8, r39_9, r39_10, r39_11, r39_14, r39_15, r39_16, r39_17, r39_18_0, r39_18_1, r39_18_2, r39_18_3, r39_18_4, r39_18_5, r39_18_6, r39_18_7, r39_18_8, r39_68, r39_69, r39_72, r39_73, r39_74, r39_77, r39_78, r39_79, r39_82, r39_83, r39_84, r39_87, r39_88, r39_89, r39_92, r39_93, r39_94, r39_97, r39_98, r39_99, r39_100, r39_103, r39_106, r39_107, r39_108, r39_109, r39_112, r39_115, r39_116, r39_117, r39_118, r39_121, r39_124, r39_125, r39_126, Nl_none, Nl_int, Nl_ref, Nl_null, Kv_some, Ki_some, Kh_some, Bk_some, Bk_void, ↓reduceIte, mrt10, mrt11, zl2, zl3, zl4, zl8, Bool.false_eq_true, gt_kind h8, eq_self]
  by_cases h1 : x = 1
  · subst h1; simp only [r39_0, r39_1, r39_2, r39_5, r39_8, r39_9, r39_10, r39_11, r39_14, r39_15, r39_16, r39_17, r39_18_0, r39_18_1, r39_18_2, r39_18_3, r39_18_4, r39_18_5, r39_18_6, r39_18_7, r39_18_8, r39_68, r39_69, r39_72, r39_73, r39_74, r39_77, r39_78, r39_79, r39_82, r39_83, r39_84, r39_87, r39_88, r39_89, r39_92, r39_93, r39_94, r39_97, r39_98, r39_99, r39_100, r39_103, r39_106, r39_107, r39_108, r39_109, r39_112, r39_115, r39_116, r39_117, r39_118, r39_121, r39_124, r39_125, r39_126, Nl_none, Nl_int, Nl_ref, Nl_null, Kv_some, Ki_some, Kh_some, Bk_some, Bk_void, ↓reduceIte, mrt10, mrt11, zl2, zl3, zl4, zl8, Bool.false_eq_true, Int32.reduceAdd, Int32.reduceSub, Int32.reduceMul, Int32.reduceLT, zqm0, zqm1, zqm2, zqm3, zqm4, zqm5, zqm6, zqm7, zqm8, zq0m, zq01, zq02, zq03, zq04, zq05, zq06, zq07, zq08, zq1m, zq10, zq12, zq13, zq14, zq15, zq16, zq17, zq18, zq2m, zq20, zq21, zq23, zq24, zq25, zq26, zq27, zq28, zq3m, zq30, zq31, zq32, zq34, zq35, zq36, zq37, zq38, zq4m, zq40, zq41, zq42, zq43, zq45, zq46, zq47, zq48, zq5m, zq50, zq51, zq52, zq53, zq54, zq56, zq57, zq58, zq6m, zq60, zq61, zq62, zq63, zq64, zq65, zq67, zq68, zq7m, zq70, zq71, zq72, zq73, zq74, zq75, zq76, zq78, zq8m, zq80, zq81, zq82, zq83, zq84, zq85, zq86, zq87, gt_layer h8, eq_self]
  by_cases h2 : x = 2
  · subst h2; simp only [r39_0, r39_1, r39_2, r39_5, r39_8, r39_9, r39_10, r39_11, r39_14, r39_15, r39_16, r39_17, r39_18_0, r39_18_1, r39_18_2, r39_18_3, r39_18_4, r39_18_5, r39_18_6, r39_18_7, r39_18_8, r39_68, r39_69, r39_72, r39_73, r39_74, r39_77, r39_78, r39_79, r39_82, r39_83, r39_84, r39_87, r39_88, r39_89, r39_92, r39_93, r39_94, r39_97, r39_98, r39_99, r39_100, r39_103, r39_106, r39_107, r39_108, r39_109, r39_112, r39_115, r39_116, r39_117, r39_118, r39_121, r39_124, r39_125, r39_126, Nl_none, Nl_int, Nl_ref, Nl_null, Kv_some, Ki_some, Kh_some, Bk_some, Bk_void, ↓reduceIte, mrt10, mrt11, zl2, zl3, zl4, zl8, Bool.false_eq_true, Int32.reduceAdd, Int32.reduceSub, Int32.reduceMul, Int32.reduceLT, zqm0, zqm1, zqm2, zqm3, zqm4, zqm5, zqm6, zqm7, zqm8, zq0m, zq01, zq02, zq03, zq04, zq05, zq06, zq07, zq08, zq1m, zq10, zq12, zq13, zq14, zq15, zq16, zq17, zq18, zq2m, zq20, zq21, zq23, zq24, zq25, zq26, zq27, zq28, zq3m, zq30, zq31, zq32, zq34, zq35, zq36, zq37, zq38, zq4m, zq40, zq41, zq42, zq43, zq45, zq46, zq47, zq48, zq5m, zq50, zq51, zq52, zq53, zq54, zq56, zq57, zq58, zq6m, zq60, zq61, zq62, zq63, zq64, zq65, zq67, zq68, zq7m, zq70, zq71, zq72, zq73, zq74, zq75, zq76, zq78, zq8m, zq80, zq81, zq82, zq83, zq84, zq85, zq86, zq87, gt_colour h8, eq_self]
  by_cases h3 : x = 3
  · subst h3; simp only [r39_0, r39_1, r39_2, r39_5, r39_8, r39_9, r39_10, r39_11, r39_14, r39_15, r39_16, r39_17, r39_18_0, r39_18_1, r39_18_2, r39_18_3, r39_18_4, r39_18_5, r39_18_6, r39_18_7, r39_18_8, r39_68, r39_69, r39_72, r39_73, r39_74, r39_77, r39_78, r39_79, r39_82, r39_83, r39_84, r39_87, r39_88, r39_89, r39_92, r39_93, r39_94, r39_97, r39_98, r39_99, r39_100, r39_103, r39_106, r39_107, r39_108, r39_109, r39_112, r39_115, r39_116, r39_117, r39_118, r39_121, r39_124, r39_125, r39_126, Nl_none, Nl_int, Nl_ref, Nl_null, Kv_some, Ki_some, Kh_some, Bk_some, Bk_void, ↓reduceIte, mrt10, mrt11, zl2, zl3, zl4, zl8, Bool.false_eq_true, Int32.reduceAdd, Int32.reduceSub, Int32.reduceMul, Int32.reduceLT, zqm0, zqm1, zqm2, zqm3, zqm4, zqm5, zqm6, zqm7, zqm8, zq0m, zq01, zq02, zq03, zq04, zq05, zq06, zq07, zq08, zq1m, zq10, zq12, zq13, zq14, zq15, zq16, zq17, zq18, zq2m, zq20, zq21, zq23, zq24, zq25, zq26, zq27, zq28, zq3m, zq30, zq31, zq32, zq34, zq35, zq36, zq37, zq38, zq4m, zq40, zq41, zq42, zq43, zq45, zq46, zq47, zq48, zq5m, zq50, zq51, zq52, zq53, zq54, zq56, zq57, zq58, zq6m, zq60, zq61, zq62, zq63, zq64, zq65, zq67, zq68, zq7m, zq70, zq71, zq72, zq73, zq74, zq75, zq76, zq78, zq8m, zq80, zq81, zq82, zq83, zq84, zq85, zq86, zq87, gt_holds h8, eq_self]
  by_cases h4 : x = 4
  · subst h4; simp only [r39_0, r39_1, r39_2, r39_5, r39_8, r39_9, r39_10, r39_11, r39_14, r39_15, r39_16, r39_17, r39_18_0, r39_18_1, r39_18_2, r39_18_3, r39_18_4, r39_18_5, r39_18_6, r39_18_7, r39_18_8, r39_68, r39_69, r39_72, r39_73, r39_74, r39_77, r39_78, r39_79, r39_82, r39_83, r39_84, r39_87, r39_88, r39_89, r39_92, r39_93, r39_94, r39_97, r39_98, r39_99, r39_100, r39_103, r39_106, r39_107, r39_108, r39_109, r39_112, r39_115, r39_116, r39_117, r39_118, r39_121, r39_124, r39_125, r39_126, Nl_none, Nl_int, Nl_ref, Nl_null, Kv_some, Ki_some, Kh_some, Bk_some, Bk_void, ↓reduceIte, mrt10, mrt11, zl2, zl3, zl4, zl8, Bool.false_eq_true, Int32.reduceAdd, Int32.reduceSub, Int32.reduceMul, Int32.reduceLT, zqm0, zqm1, zqm2, zqm3, zqm4, zqm5, zqm6, zqm7, zqm8, zq0m, zq01, zq02, zq03, zq04, zq05, zq06, zq07, zq08, zq1m, zq10, zq12, zq13, zq14, zq15, zq16, zq17, zq18, zq2m, zq20, zq21, zq23, zq24, zq25, zq26, zq27, zq28, zq3m, zq30, zq31, zq32, zq34, zq35, zq36, zq37, zq38, zq4m, zq40, zq41, zq42, zq43, zq45, zq46, zq47, zq48, zq5m, zq50, zq51, zq52, zq53, zq54, zq56, zq57, zq58, zq6m, zq60, zq61, zq62, zq63, zq64, zq65, zq67, zq68, zq7m, zq70, zq71, zq72, zq73, zq74, zq75, zq76, zq78, zq8m, zq80, zq81, zq82, zq83, zq84, zq85, zq86, zq87, gt_soaked h8, eq_self]
  by_cases h5 : x = 5
  · subst h5; simp only [r39_0, r39_1, r39_2, r39_5, r39_8, r39_9, r39_10, r39_11, r39_14, r39_15, r39_16, r39_17, r39_18_0, r39_18_1, r39_18_2, r39_18_3, r39_18_4, r39_18_5, r39_18_6, r39_18_7, r39_18_8, r39_68, r39_69, r39_72, r39_73, r39_74, r39_77, r39_78, r39_79, r39_82, r39_83, r39_84, r39_87, r39_88, r39_89, r39_92, r39_93, r39_94, r39_97, r39_98, r39_99, r39_100, r39_103, r39_106, r39_107, r39_108, r39_109, r39_112, r39_115, r39_116, r39_117, r39_118, r39_121, r39_124, r39_125, r39_126, Nl_none, Nl_int, Nl_ref, Nl_null, Kv_some, Ki_some, Kh_some, Bk_some, Bk_void, ↓reduceIte, mrt10, mrt11, zl2, zl3, zl4, zl8, Bool.false_eq_true, Int32.reduceAdd, Int32.reduceSub, Int32.reduceMul, Int32.reduceLT, zqm0, zqm1, zqm2, zqm3, zqm4, zqm5, zqm6, zqm7, zqm8, zq0m, zq01, zq02, zq03, zq04, zq05, zq06, zq07, zq08, zq1m, zq10, zq12, zq13, zq14, zq15, zq16, zq17, zq18, zq2m, zq20, zq21, zq23, zq24, zq25, zq26, zq27, zq28, zq3m, zq30, zq31, zq32, zq34, zq35, zq36, zq37, zq38, zq4m, zq40, zq41, zq42, zq43, zq45, zq46, zq47, zq48, zq5m, zq50, zq51, zq52, zq53, zq54, zq56, zq57, zq58, zq6m, zq60, zq61, zq62, zq63, zq64, zq65, zq67, zq68, zq7m, zq70, zq71, zq72, zq73, zq74, zq75, zq76, zq78, zq8m, zq80, zq81, zq82, zq83, zq84, zq85, zq86, zq87, gt_seen h8, eq_self]
  by_cases h6 : x = 6
  · subst h6; simp only [r39_0, r39_1, r39_2, r39_5, r39_8, r39_9, r39_10, r39_11, r39_14, r39_15, r39_16, r39_17, r39_18_0, r39_18_1, r39_18_2, r39_18_3, r39_18_4, r39_18_5, r39_18_6, r39_18_7, r39_18_8, r39_68, r39_69, r39_72, r39_73, r39_74, r39_77, r39_78, r39_79, r39_82, r39_83, r39_84, r39_87, r39_88, r39_89, r39_92, r39_93, r39_94, r39_97, r39_98, r39_99, r39_100, r39_103, r39_106, r39_107, r39_108, r39_109, r39_112, r39_115, r39_116, r39_117, r39_118, r39_121, r39_124, r39_125, r39_126, Nl_none, Nl_int, Nl_ref, Nl_null, Kv_some, Ki_some, Kh_some, Bk_some, Bk_void, ↓reduceIte, mrt10, mrt11, zl2, zl3, zl4, zl8, Bool.false_eq_true, Int32.reduceAdd, Int32.reduceSub, Int32.reduceMul, Int32.reduceLT, zqm0, zqm1, zqm2, zqm3, zqm4, zqm5, zqm6, zqm7, zqm8, zq0m, zq01, zq02, zq03, zq04, zq05, zq06, zq07, zq08, zq1m, zq10, zq12, zq13, zq14, zq15, zq16, zq17, zq18, zq2m, zq20, zq21, zq23, zq24, zq25, zq26, zq27, zq28, zq3m, zq30, zq31, zq32, zq34, zq35, zq36, zq37, zq38, zq4m, zq40, zq41, zq42, zq43, zq45, zq46, zq47, zq48, zq5m, zq50, zq51, zq52, zq53, zq54, zq56, zq57, zq58, zq6m, zq60, zq61, zq62, zq63, zq64, zq65, zq67, zq68, zq7m, zq70, zq71, zq72, zq73, zq74, zq75, zq76, zq78, zq8m, zq80, zq81, zq82, zq83, zq84, zq85, zq86, zq87, gt_dyes, gt_things, gt_spots, gt_count, gt_lye, gt_year, gt_z, gt_dry, mis_tub, ln_dyes, ln_things, ln_spots, mis_thing h8, e_bleeds h8, eq_self]
  by_cases h7 : x = 7
  · subst h7; simp only [r39_0, r39_1, r39_2, r39_5, r39_8, r39_9, r39_10, r39_11, r39_14, r39_15, r39_16, r39_17, r39_18_0, r39_18_1, r39_18_2, r39_18_3, r39_18_4, r39_18_5, r39_18_6, r39_18_7, r39_18_8, r39_68, r39_69, r39_72, r39_73, r39_74, r39_77, r39_78, r39_79, r39_82, r39_83, r39_84, r39_87, r39_88, r39_89, r39_92, r39_93, r39_94, r39_97, r39_98, r39_99, r39_100, r39_103, r39_106, r39_107, r39_108, r39_109, r39_112, r39_115, r39_116, r39_117, r39_118, r39_121, r39_124, r39_125, r39_126, Nl_none, Nl_int, Nl_ref, Nl_null, Kv_some, Ki_some, Kh_some, Bk_some, Bk_void, ↓reduceIte, mrt10, mrt11, zl2, zl3, zl4, zl8, Bool.false_eq_true, Int32.reduceAdd, Int32.reduceSub, Int32.reduceMul, Int32.reduceLT, zqm0, zqm1, zqm2, zqm3, zqm4, zqm5, zqm6, zqm7, zqm8, zq0m, zq01, zq02, zq03, zq04, zq05, zq06, zq07, zq08, zq1m, zq10, zq12, zq13, zq14, zq15, zq16, zq17, zq18, zq2m, zq20, zq21, zq23, zq24, zq25, zq26, zq27, zq28, zq3m, zq30, zq31, zq32, zq34, zq35, zq36, zq37, zq38, zq4m, zq40, zq41, zq42, zq43, zq45, zq46, zq47, zq48, zq5m, zq50, zq51, zq52, zq53, zq54, zq56, zq57, zq58, zq6m, zq60, zq61, zq62, zq63, zq64, zq65, zq67, zq68, zq7m, zq70, zq71, zq72, zq73, zq74, zq75, zq76, zq78, zq8m, zq80, zq81, zq82, zq83, zq84, zq85, zq86, zq87, gt_dyes, gt_things, gt_spots, gt_count, gt_lye, gt_year, gt_z, gt_dry, mis_tub, ln_dyes, ln_things, ln_spots, mis_thing h8, e_rises h8, eq_self]
  by_cases h8' : x = 8
  · subst h8'; simp only [r39_0, r39_1, r39_2, r39_5, r39_8, r39_9, r39_10, r39_11, r39_14, r39_15, r39_16, r39_17, r39_18_0, r39_18_1, r39_18_2, r39_18_3, r39_18_4, r39_18_5, r39_18_6, r39_18_7, r39_18_8, r39_68, r39_69, r39_72, r39_73, r39_74, r39_77, r39_78, r39_79, r39_82, r39_83, r39_84, r39_87, r39_88, r39_89, r39_92, r39_93, r39_94, r39_97, r39_98, r39_99, r39_100, r39_103, r39_106, r39_107, r39_108, r39_109, r39_112, r39_115, r39_116, r39_117, r39_118, r39_121, r39_124, r39_125, r39_126, Nl_none, Nl_int, Nl_ref, Nl_null, Kv_some, Ki_some, Kh_some, Bk_some, Bk_void, ↓reduceIte, mrt10, mrt11, zl2, zl3, zl4, zl8, Bool.false_eq_true, Int32.reduceAdd, Int32.reduceSub, Int32.reduceMul, Int32.reduceLT, zqm0, zqm1, zqm2, zqm3, zqm4, zqm5, zqm6, zqm7, zqm8, zq0m, zq01, zq02, zq03, zq04, zq05, zq06, zq07, zq08, zq1m, zq10, zq12, zq13, zq14, zq15, zq16, zq17, zq18, zq2m, zq20, zq21, zq23, zq24, zq25, zq26, zq27, zq28, zq3m, zq30, zq31, zq32, zq34, zq35, zq36, zq37, zq38, zq4m, zq40, zq41, zq42, zq43, zq45, zq46, zq47, zq48, zq5m, zq50, zq51, zq52, zq53, zq54, zq56, zq57, zq58, zq6m, zq60, zq61, zq62, zq63, zq64, zq65, zq67, zq68, zq7m, zq70, zq71, zq72, zq73, zq74, zq75, zq76, zq78, zq8m, zq80, zq81, zq82, zq83, zq84, zq85, zq86, zq87, gt_dyes, gt_things, gt_spots, gt_count, gt_lye, gt_year, gt_z, gt_dry, mis_tub, ln_dyes, ln_things, ln_spots, mis_thing h8, e_fast h8, eq_self]
  have hd : x.toInt < 0 ∨ 8 < x.toInt := by
    have a0 := ne_toInt (n := 0) h0 rfl
    have a1 := ne_toInt (n := 1) h1 rfl
    have a2 := ne_toInt (n := 2) h2 rfl
    have a3 := ne_toInt (n := 3) h3 rfl
    have a4 := ne_toInt (n := 4) h4 rfl
    have a5 := ne_toInt (n := 5) h5 rfl
    have a6 := ne_toInt (n := 6) h6 rfl
    have a7 := ne_toInt (n := 7) h7 rfl
    have a8 := ne_toInt (n := 8) h8' rfl
    omega
  rw [r39_18_d hd]
  simp only [r39_0, r39_1, r39_2, r39_5, r39_8, r39_9, r39_10, r39_11, r39_14, r39_15, r39_16, r39_17, r39_18_0, r39_18_1, r39_18_2, r39_18_3, r39_18_4, r39_18_5, r39_18_6, r39_18_7, r39_18_8, r39_68, r39_69, r39_72, r39_73, r39_74, r39_77, r39_78, r39_79, r39_82, r39_83, r39_84, r39_87, r39_88, r39_89, r39_92, r39_93, r39_94, r39_97, r39_98, r39_99, r39_100, r39_103, r39_106, r39_107, r39_108, r39_109, r39_112, r39_115, r39_116, r39_117, r39_118, r39_121, r39_124, r39_125, r39_126, Nl_none, Nl_int, Nl_ref, Nl_null, Kv_some, Ki_some, Kh_some, Bk_some, Bk_void, ↓reduceIte, mrt10, mrt11, zl2, zl3, zl4, zl8, Bool.false_eq_true, h0, h1, h2, h3, h4, h5, h6, h7, h8']
theorem e_become (ok : Ok n T) (ht : t < n) : Ec 40 [.ref b, .int (Int32.ofNat t), .int x, .int v] a (setTub h b T) = some (none, a, setTub h b (beS t x v T)) := by
  rw [Ec_go rfl]
  show Rn 40 (0, [some (.ref b), some (.int (Int32.ofNat t)), some (.int x), some (.int v), none], [], a, setTub h b T) = _
  have h8 : t < 8 := by have := ok.1; omega
  have z1 : ((1 : Int32) = 0) = False := by decide
  simp only [r40_0, r40_1, r40_2, r40_5, r40_8, r40_9, r40_10, r40_13, r40_14, r40_15, r40_17, r40_18_0, r40_18_1, r40_18_2, r40_18_3, r40_18_4, r40_18_5, r40_56, r40_58, r40_59, r40_62, r40_65, r40_67, r40_68, r40_71, r40_74, r40_76, r40_77, r40_80, r40_83, r40_85, r40_86, r40_89, r40_92, r40_94, r40_95, r40_98, r40_101, r40_103, r40_104, r40_107, r40_110, Nl_none, Nl_int, Nl_ref, Nl_null, Kv_some, Ki_some, Kh_some, Bk_some, Bk_void, ↓reduceIte, mrt10, mrt11, zl2, zl3, zl4, zl8, Bool.false_eq_true, gt_dyes, gt_things, gt_spots, gt_count, gt_lye, gt_year, gt_z, gt_dry, mis_tub, ln_dyes, ln_things, ln_spots, e_hasT ok ht, ld_thN h8, z1]
  unfold beS
  by_cases h0 : x = 0
  · subst h0; simp only [r40_0, r40_1, r40_2, r40_5, r40_8, r40_9, r40_10, r40_13, r40_14, r40_15, r40_17, r40_18_0, r40_18_1, r40_18_2, r40_18_3, r40_18_4, r40_18_5, r40_56, r40_58, r40_59, r40_62, r40_65, r40_67, r40_68, r40_71, r40_74, r40_76, r40_77, r40_80, r40_83, r40_85, r40_86, r40_89, r40_92, r40_94, r40_95, r40_98, r40_101, r40_103, r40_104, r40_107, r40_110, Nl_none, Nl_int, Nl_ref, Nl_null, Kv_some, Ki_some, Kh_some, Bk_some, Bk_void, ↓reduceIte, mrt10, mrt11, zl2, zl3, zl4, zl8, Bool.false_eq_true, pt_kind h8, eq_self]
  by_cases h1 : x = 1
  · subst h1; simp only [r40_0, r40_1, r40_2, r40_5, r40_8, r40_9, r40_10, r40_13, r40_14, r40_15, r40_17, r40_18_0, r40_18_1, r40_18_2, r40_18_3, r40_18_4, r40_18_5, r40_56, r40_58, r40_59, r40_62, r40_65, r40_67, r40_68, r40_71, r40_74, r40_76, r40_77, r40_80, r40_83, r40_85, r40_86, r40_89, r40_92, r40_94, r40_95, r40_98, r40_101, r40_103, r40_104, r40_107, r40_110, Nl_none, Nl_int, Nl_ref, Nl_null, Kv_some, Ki_some, Kh_some, Bk_some, Bk_void, ↓reduceIte, mrt10, mrt11, zl2, zl3, zl4, zl8, Bool.false_eq_true, Int32.reduceAdd, Int32.reduceSub, Int32.reduceMul, Int32.reduceLT, zqm0, zqm1, zqm2, zqm3, zqm4, zqm5, zqm6, zqm7, zqm8, zq0m, zq01, zq02, zq03, zq04, zq05, zq06, zq07, zq08, zq1m, zq10, zq12, zq13, zq14, zq15, zq16, zq17, zq18, zq2m, zq20, zq21, zq23, zq24, zq25, zq26, zq27, zq28, zq3m, zq30, zq31, zq32, zq34, zq35, zq36, zq37, zq38, zq4m, zq40, zq41, zq42, zq43, zq45, zq46, zq47, zq48, zq5m, zq50, zq51, zq52, zq53, zq54, zq56, zq57, zq58, zq6m, zq60, zq61, zq62, zq63, zq64, zq65, zq67, zq68, zq7m, zq70, zq71, zq72, zq73, zq74, zq75, zq76, zq78, zq8m, zq80, zq81, zq82, zq83, zq84, zq85, zq86, zq87, pt_layer h8, eq_self]
  by_cases h2 : x = 2
  · subst h2; simp only [r40_0, r40_1, r40_2, r40_5, r40_8, r40_9, r40_10, r40_13, r40_14, r40_15, r40_17, r40_18_0, r40_18_1, r40_18_2, r40_18_3, r40_18_4, r40_18_5, r40_56, r40_58, r40_59, r40_62, r40_65, r40_67, r40_68, r40_71, r40_74, r40_76, r40_77, r40_80, r40_83, r40_85, r40_86, r40_89, r40_92, r40_94, r40_95, r40_98, r40_101, r40_103, r40_104, r40_107, r40_110, Nl_none, Nl_int, Nl_ref, Nl_null, Kv_some, Ki_some, Kh_some, Bk_some, Bk_void, ↓reduceIte, mrt10, mrt11, zl2, zl3, zl4, zl8, Bool.false_eq_true, Int32.reduceAdd, Int32.reduceSub, Int32.reduceMul, Int32.reduceLT, zqm0, zqm1, zqm2, zqm3, zqm4, zqm5, zqm6, zqm7, zqm8, zq0m, zq01, zq02, zq03, zq04, zq05, zq06, zq07, zq08, zq1m, zq10, zq12, zq13, zq14, zq15, zq16, zq17, zq18, zq2m, zq20, zq21, zq23, zq24, zq25, zq26, zq27, zq28, zq3m, zq30, zq31, zq32, zq34, zq35, zq36, zq37, zq38, zq4m, zq40, zq41, zq42, zq43, zq45, zq46, zq47, zq48, zq5m, zq50, zq51, zq52, zq53, zq54, zq56, zq57, zq58, zq6m, zq60, zq61, zq62, zq63, zq64, zq65, zq67, zq68, zq7m, zq70, zq71, zq72, zq73, zq74, zq75, zq76, zq78, zq8m, zq80, zq81, zq82, zq83, zq84, zq85, zq86, zq87, pt_colour h8, eq_self]
  by_cases h3 : x = 3
  · subst h3; simp only [r40_0, r40_1, r40_2, r40_5, r40_8, r40_9, r40_10, r40_13, r40_14, r40_15, r40_17, r40_18_0, r40_18_1, r40_18_2, r40_18_3, r40_18_4, r40_18_5, r40_56, r40_58, r40_59, r40_62, r40_65, r40_67, r40_68, r40_71, r40_74, r40_76, r40_77, r40_80, r40_83, r40_85, r40_86, r40_89, r40_92, r40_94, r40_95, r40_98, r40_101, r40_103, r40_104, r40_107, r40_110, Nl_none, Nl_int, Nl_ref, Nl_null, Kv_some, Ki_some, Kh_some, Bk_some, Bk_void, ↓reduceIte, mrt10, mrt11, zl2, zl3, zl4, zl8, Bool.false_eq_true, Int32.reduceAdd, Int32.reduceSub, Int32.reduceMul, Int32.reduceLT, zqm0, zqm1, zqm2, zqm3, zqm4, zqm5, zqm6, zqm7, zqm8, zq0m, zq01, zq02, zq03, zq04, zq05, zq06, zq07, zq08, zq1m, zq10, zq12, zq13, zq14, zq15, zq16, zq17, zq18, zq2m, zq20, zq21, zq23, zq24, zq25, zq26, zq27, zq28, zq3m, zq30, zq31, zq32, zq34, zq35, zq36, zq37, zq38, zq4m, zq40, zq41, zq42, zq43, zq45, zq46, zq47, zq48, zq5m, zq50, zq51, zq52, zq53, zq54, zq56, zq57, zq58, zq6m, zq60, zq61, zq62, zq63, zq64, zq65, zq67, zq68, zq7m, zq70, zq71, zq72, zq73, zq74, zq75, zq76, zq78, zq8m, zq80, zq81, zq82, zq83, zq84, zq85, zq86, zq87, pt_holds h8, eq_self]
  by_cases h4 : x = 4
  · subst h4; simp only [r40_0, r40_1, r40_2, r40_5, r40_8, r40_9, r40_10, r40_13, r40_14, r40_15, r40_17, r40_18_0, r40_18_1, r40_18_2, r40_18_3, r40_18_4, r40_18_5, r40_56, r40_58, r40_59, r40_62, r40_65, r40_67, r40_68, r40_71, r40_74, r40_76, r40_77, r40_80, r40_83, r40_85, r40_86, r40_89, r40_92, r40_94, r40_95, r40_98, r40_101, r40_103, r40_104, r40_107, r40_110, Nl_none, Nl_int, Nl_ref, Nl_null, Kv_some, Ki_some, Kh_some, Bk_some, Bk_void, ↓reduceIte, mrt10, mrt11, zl2, zl3, zl4, zl8, Bool.false_eq_true, Int32.reduceAdd, Int32.reduceSub, Int32.reduceMul, Int32.reduceLT, zqm0, zqm1, zqm2, zqm3, zqm4, zqm5, zqm6, zqm7, zqm8, zq0m, zq01, zq02, zq03, zq04, zq05, zq06, zq07, zq08, zq1m, zq10, zq12, zq13, zq14, zq15, zq16, zq17, zq18, zq2m, zq20, zq21, zq23, zq24, zq25, zq26, zq27, zq28, zq3m, zq30, zq31, zq32, zq34, zq35, zq36, zq37, zq38, zq4m, zq40, zq41, zq42, zq43, zq45, zq46, zq47, zq48, zq5m, zq50, zq51, zq52, zq53, zq54, zq56, zq57, zq58, zq6m, zq60, zq61, zq62, zq63, zq64, zq65, zq67, zq68, zq7m, zq70, zq71, zq72, zq73, zq74, zq75, zq76, zq78, zq8m, zq80, zq81, zq82, zq83, zq84, zq85, zq86, zq87, pt_soaked h8, eq_self]
  by_cases h5 : x = 5
  · subst h5; simp only [r40_0, r40_1, r40_2, r40_5, r40_8, r40_9, r40_10, r40_13, r40_14, r40_15, r40_17, r40_18_0, r40_18_1, r40_18_2, r40_18_3, r40_18_4, r40_18_5, r40_56, r40_58, r40_59, r40_62, r40_65, r40_67, r40_68, r40_71, r40_74, r40_76, r40_77, r40_80, r40_83, r40_85, r40_86, r40_89, r40_92, r40_94, r40_95, r40_98, r40_101, r40_103, r40_104, r40_107, r40_110, Nl_none, Nl_int, Nl_ref, Nl_null, Kv_some, Ki_some, Kh_some, Bk_some, Bk_void, ↓reduceIte, mrt10, mrt11, zl2, zl3, zl4, zl8, Bool.false_eq_true, Int32.reduceAdd, Int32.reduceSub, Int32.reduceMul, Int32.reduceLT, zqm0, zqm1, zqm2, zqm3, zqm4, zqm5, zqm6, zqm7, zqm8, zq0m, zq01, zq02, zq03, zq04, zq05, zq06, zq07, zq08, zq1m, zq10, zq12, zq13, zq14, zq15, zq16, zq17, zq18, zq2m, zq20, zq21, zq23, zq24, zq25, zq26, zq27, zq28, zq3m, zq30, zq31, zq32, zq34, zq35, zq36, zq37, zq38, zq4m, zq40, zq41, zq42, zq43, zq45, zq46, zq47, zq48, zq5m, zq50, zq51, zq52, zq53, zq54, zq56, zq57, zq58, zq6m, zq60, zq61, zq62, zq63, zq64, zq65, zq67, zq68, zq7m, zq70, zq71, zq72, zq73, zq74, zq75, zq76, zq78, zq8m, zq80, zq81, zq82, zq83, zq84, zq85, zq86, zq87, pt_seen h8, eq_self]
  have hd : x.toInt < 0 ∨ 5 < x.toInt := by
    have a0 := ne_toInt (n := 0) h0 rfl
    have a1 := ne_toInt (n := 1) h1 rfl
    have a2 := ne_toInt (n := 2) h2 rfl
    have a3 := ne_toInt (n := 3) h3 rfl
    have a4 := ne_toInt (n := 4) h4 rfl
    have a5 := ne_toInt (n := 5) h5 rfl
    omega
  rw [r40_18_d hd]
  simp only [r40_0, r40_1, r40_2, r40_5, r40_8, r40_9, r40_10, r40_13, r40_14, r40_15, r40_17, r40_18_0, r40_18_1, r40_18_2, r40_18_3, r40_18_4, r40_18_5, r40_56, r40_58, r40_59, r40_62, r40_65, r40_67, r40_68, r40_71, r40_74, r40_76, r40_77, r40_80, r40_83, r40_85, r40_86, r40_89, r40_92, r40_94, r40_95, r40_98, r40_101, r40_103, r40_104, r40_107, r40_110, Nl_none, Nl_int, Nl_ref, Nl_null, Kv_some, Ki_some, Kh_some, Bk_some, Bk_void, ↓reduceIte, mrt10, mrt11, zl2, zl3, zl4, zl8, Bool.false_eq_true, h0, h1, h2, h3, h4, h5]
theorem e_dyeIn (hx : isL x = true) (hy : isC y = true) : Ec 41 [.ref b, .int x, .int y] a (setTub h b T) = some (some (.int (T (dyI x y))), a, setTub h b T) := by
  rw [Ec_go rfl]
  show Rn 41 (0, [some (.ref b), some (.int x), some (.int y)], [], a, setTub h b T) = _
  simp only [r41_0, r41_1, r41_4, r41_7, r41_8, r41_11, r41_14, r41_15, r41_18, r41_19, r41_20, r41_21, r41_22, r41_23, r41_24, r41_27, r41_28, Nl_none, Nl_int, Nl_ref, Nl_null, Kv_some, Ki_some, Kh_some, Bk_some, Bk_void, ↓reduceIte, mrt10, mrt11, zl2, zl3, zl4, zl8, Bool.false_eq_true, gt_dyes, gt_things, gt_spots, gt_count, gt_lye, gt_year, gt_z, gt_dry, mis_tub, ln_dyes, ln_things, ln_spots, e_isLayer, e_isColour, hx, hy, b2i, ld_dy hx hy, zq01, zq10]
theorem e_setDye (hx : isL x = true) (hy : isC y = true) : Ec 42 [.ref b, .int x, .int y, .int v] a (setTub h b T) = some (none, a, setTub h b (mfu T (dyI x y) (cap v))) := by
  rw [Ec_go rfl]
  show Rn 42 (0, [some (.ref b), some (.int x), some (.int y), some (.int v)], [], a, setTub h b T) = _
  simp only [r42_0, r42_1, r42_4, r42_7, r42_8, r42_11, r42_14, r42_15, r42_18, r42_19, r42_20, r42_21, r42_22, r42_23, r42_24, r42_27, r42_30, r42_31, Nl_none, Nl_int, Nl_ref, Nl_null, Kv_some, Ki_some, Kh_some, Bk_some, Bk_void, ↓reduceIte, mrt10, mrt11, zl2, zl3, zl4, zl8, Bool.false_eq_true, gt_dyes, gt_things, gt_spots, gt_count, gt_lye, gt_year, gt_z, gt_dry, mis_tub, ln_dyes, ln_things, ln_spots, e_isLayer, e_isColour, hx, hy, b2i, pt_dy hx hy, e_mincap, zq01, zq10]
theorem e_dyesTogether (hx : isL x = true) : Ec 43 [.ref b, .int x] a (setTub h b T) = some (some (.int (dsS x T)), a, setTub h b T) := by
  rw [Ec_go rfl]
  show Rn 43 (0, [some (.ref b), some (.int x), none, none], [], a, setTub h b T) = _
  simp only [r43_0, r43_1, r43_2, r43_3, r43_4, r43_5, r43_6, r43_9, r43_10, r43_11, r43_12, r43_13, r43_16, r43_17, r43_18, r43_21, r43_24, r43_25, Nl_none, Nl_int, Nl_ref, Nl_null, Kv_some, Ki_some, Kh_some, Bk_some, Bk_void, ↓reduceIte, mrt10, mrt11, zl2, zl3, zl4, zl8, Bool.false_eq_true, gt_dyes, gt_things, gt_spots, gt_count, gt_lye, gt_year, gt_z, gt_dry, mis_tub, ln_dyes, ln_things, ln_spots, Int32.reduceAdd, Int32.reduceSub, Int32.reduceMul, Int32.reduceLT, zqm0, zqm1, zqm2, zqm3, zqm4, zqm5, zqm6, zqm7, zqm8, zq0m, zq01, zq02, zq03, zq04, zq05, zq06, zq07, zq08, zq1m, zq10, zq12, zq13, zq14, zq15, zq16, zq17, zq18, zq2m, zq20, zq21, zq23, zq24, zq25, zq26, zq27, zq28, zq3m, zq30, zq31, zq32, zq34, zq35, zq36, zq37, zq38, zq4m, zq40, zq41, zq42, zq43, zq45, zq46, zq47, zq48, zq5m, zq50, zq51, zq52, zq53, zq54, zq56, zq57, zq58, zq6m, zq60, zq61, zq62, zq63, zq64, zq65, zq67, zq68, zq7m, zq70, zq71, zq72, zq73, zq74, zq75, zq76, zq78, zq8m, zq80, zq81, zq82, zq83, zq84, zq85, zq86, zq87, e_dyeIn hx isC_0, e_dyeIn hx isC_1, e_dyeIn hx isC_2, Int32.zero_add, dsS]
theorem e_allDyes : Ec 44 [.ref b] a (setTub h b T) = some (some (.int (adS T)), a, setTub h b T) := by
  rw [Ec_go rfl]
  show Rn 44 (0, [some (.ref b), none, none], [], a, setTub h b T) = _
  simp only [r44_0, r44_1, r44_2, r44_3, r44_5, r44_7, r44_10, r44_11, r44_12, r44_13, r44_16, r44_17, r44_18, r44_21, r44_24, r44_25, Nl_none, Nl_int, Nl_ref, Nl_null, Kv_some, Ki_some, Kh_some, Bk_some, Bk_void, ↓reduceIte, mrt10, mrt11, zl2, zl3, zl4, zl8, Bool.false_eq_true]
  have L := lp_up (M := 44) (X := fun k (s : Int32) => (4, [some (.ref b), some (.int s), some (.int (Int32.ofNat k))], [], a, setTub h b T)) (f := adF T) (P := fun _ _ => True) (N := 8) (fun k s hk _ => ⟨by
    show Rn 44 (4, [some (.ref b), some (.int s), some (.int (Int32.ofNat k))], [], a, setTub h b T) = Rn 44 (4, [some (.ref b), some (.int (adF T k s)), some (.int (Int32.ofNat (k + 1)))], [], a, setTub h b T)
    rw [r44_4]
    simp only [r44_0, r44_1, r44_2, r44_3, r44_5, r44_7, r44_10, r44_11, r44_12, r44_13, r44_16, r44_17, r44_18, r44_21, r44_24, r44_25, Nl_none, Nl_int, Nl_ref, Nl_null, Kv_some, Ki_some, Kh_some, Bk_some, Bk_void, ↓reduceIte, mrt10, mrt11, zl2, zl3, zl4, zl8, Bool.false_eq_true, gt_dyes, gt_things, gt_spots, gt_count, gt_lye, gt_year, gt_z, gt_dry, mis_tub, ln_dyes, ln_things, ln_spots, lt8 hk, e_dyesTogether (isL_at hk), of_in, adF], trivial⟩) 8 0 0 (by omega) trivial
  refine L.1.trans ?_
  show Rn 44 (4, [some (.ref b), some (.int (adS T)), some (.int (Int32.ofNat 8))], [], a, setTub h b T) = _
  rw [r44_4]
  simp only [r44_0, r44_1, r44_2, r44_3, r44_5, r44_7, r44_10, r44_11, r44_12, r44_13, r44_16, r44_17, r44_18, r44_21, r44_24, r44_25, Nl_none, Nl_int, Nl_ref, Nl_null, Kv_some, Ki_some, Kh_some, Bk_some, Bk_void, ↓reduceIte, mrt10, mrt11, zl2, zl3, zl4, zl8, Bool.false_eq_true, Int32.reduceAdd, Int32.reduceSub, Int32.reduceMul, Int32.reduceLT, zqm0, zqm1, zqm2, zqm3, zqm4, zqm5, zqm6, zqm7, zqm8, zq0m, zq01, zq02, zq03, zq04, zq05, zq06, zq07, zq08, zq1m, zq10, zq12, zq13, zq14, zq15, zq16, zq17, zq18, zq2m, zq20, zq21, zq23, zq24, zq25, zq26, zq27, zq28, zq3m, zq30, zq31, zq32, zq34, zq35, zq36, zq37, zq38, zq4m, zq40, zq41, zq42, zq43, zq45, zq46, zq47, zq48, zq5m, zq50, zq51, zq52, zq53, zq54, zq56, zq57, zq58, zq6m, zq60, zq61, zq62, zq63, zq64, zq65, zq67, zq68, zq7m, zq70, zq71, zq72, zq73, zq74, zq75, zq76, zq78, zq8m, zq80, zq81, zq82, zq83, zq84, zq85, zq86, zq87, Int32.reduceOfNat]
theorem e_isClear (hx : isL x = true) : Ec 45 [.ref b, .int x] a (setTub h b T) = some (some (.int (b2i (clS x T))), a, setTub h b T) := by
  rw [Ec_go rfl]
  show Rn 45 (0, [some (.ref b), some (.int x)], [], a, setTub h b T) = _
  simp only [r45_0, r45_1, r45_2, r45_5, r45_7, r45_10, r45_11, r45_14, r45_15, Nl_none, Nl_int, Nl_ref, Nl_null, Kv_some, Ki_some, Kh_some, Bk_some, Bk_void, ↓reduceIte, mrt10, mrt11, zl2, zl3, zl4, zl8, Bool.false_eq_true, gt_dyes, gt_things, gt_spots, gt_count, gt_lye, gt_year, gt_z, gt_dry, mis_tub, ln_dyes, ln_things, ln_spots, e_dyesTogether hx]
  by_cases q : 9 < dsS x T
  · simp only [q, clS, b2i, not_true, decide_false, if_true]; rfl
  · simp only [q, clS, b2i, not_false_iff, decide_true, if_true, if_false]
theorem e_clearLayers : Ec 46 [.ref b] a (setTub h b T) = some (some (.int (clA T)), a, setTub h b T) := by
  rw [Ec_go rfl]
  show Rn 46 (0, [some (.ref b), none, none], [], a, setTub h b T) = _
  simp only [r46_0, r46_1, r46_2, r46_3, r46_5, r46_7, r46_10, r46_11, r46_12, r46_15, r46_18, r46_19, r46_20, r46_21, r46_22, r46_23, r46_24, r46_27, r46_30, r46_31, Nl_none, Nl_int, Nl_ref, Nl_null, Kv_some, Ki_some, Kh_some, Bk_some, Bk_void, ↓reduceIte, mrt10, mrt11, zl2, zl3, zl4, zl8, Bool.false_eq_true]
  have L := lp_up (M := 46) (X := fun k (s : Int32) => (4, [some (.ref b), some (.int s), some (.int (Int32.ofNat k))], [], a, setTub h b T)) (f := coF T) (P := fun _ _ => True) (N := 8) (fun k s hk _ => ⟨by
    show Rn 46 (4, [some (.ref b), some (.int s), some (.int (Int32.ofNat k))], [], a, setTub h b T) = Rn 46 (4, [some (.ref b), some (.int (coF T k s)), some (.int (Int32.ofNat (k + 1)))], [], a, setTub h b T)
    rw [r46_4]
    by_cases q : clS (Int32.ofNat k) T = true
    · simp only [r46_0, r46_1, r46_2, r46_3, r46_5, r46_7, r46_10, r46_11, r46_12, r46_15, r46_18, r46_19, r46_20, r46_21, r46_22, r46_23, r46_24, r46_27, r46_30, r46_31, Nl_none, Nl_int, Nl_ref, Nl_null, Kv_some, Ki_some, Kh_some, Bk_some, Bk_void, ↓reduceIte, mrt10, mrt11, zl2, zl3, zl4, zl8, Bool.false_eq_true, gt_dyes, gt_things, gt_spots, gt_count, gt_lye, gt_year, gt_z, gt_dry, mis_tub, ln_dyes, ln_things, ln_spots, Int32.reduceAdd, Int32.reduceSub, Int32.reduceMul, Int32.reduceLT, zqm0, zqm1, zqm2, zqm3, zqm4, zqm5, zqm6, zqm7, zqm8, zq0m, zq01, zq02, zq03, zq04, zq05, zq06, zq07, zq08, zq1m, zq10, zq12, zq13, zq14, zq15, zq16, zq17, zq18, zq2m, zq20, zq21, zq23, zq24, zq25, zq26, zq27, zq28, zq3m, zq30, zq31, zq32, zq34, zq35, zq36, zq37, zq38, zq4m, zq40, zq41, zq42, zq43, zq45, zq46, zq47, zq48, zq5m, zq50, zq51, zq52, zq53, zq54, zq56, zq57, zq58, zq6m, zq60, zq61, zq62, zq63, zq64, zq65, zq67, zq68, zq7m, zq70, zq71, zq72, zq73, zq74, zq75, zq76, zq78, zq8m, zq80, zq81, zq82, zq83, zq84, zq85, zq86, zq87, lt8 hk, e_isClear (isL_at hk), of_in, coF, q, b2i]
    · simp only [r46_0, r46_1, r46_2, r46_3, r46_5, r46_7, r46_10, r46_11, r46_12, r46_15, r46_18, r46_19, r46_20, r46_21, r46_22, r46_23, r46_24, r46_27, r46_30, r46_31, Nl_none, Nl_int, Nl_ref, Nl_null, Kv_some, Ki_some, Kh_some, Bk_some, Bk_void, ↓reduceIte, mrt10, mrt11, zl2, zl3, zl4, zl8, Bool.false_eq_true, gt_dyes, gt_things, gt_spots, gt_count, gt_lye, gt_year, gt_z, gt_dry, mis_tub, ln_dyes, ln_things, ln_spots, Int32.reduceAdd, Int32.reduceSub, Int32.reduceMul, Int32.reduceLT, zqm0, zqm1, zqm2, zqm3, zqm4, zqm5, zqm6, zqm7, zqm8, zq0m, zq01, zq02, zq03, zq04, zq05, zq06, zq07, zq08, zq1m, zq10, zq12, zq13, zq14, zq15, zq16, zq17, zq18, zq2m, zq20, zq21, zq23, zq24, zq25, zq26, zq27, zq28, zq3m, zq30, zq31, zq32, zq34, zq35, zq36, zq37, zq38, zq4m, zq40, zq41, zq42, zq43, zq45, zq46, zq47, zq48, zq5m, zq50, zq51, zq52, zq53, zq54, zq56, zq57, zq58, zq6m, zq60, zq61, zq62, zq63, zq64, zq65, zq67, zq68, zq7m, zq70, zq71, zq72, zq73, zq74, zq75, zq76, zq78, zq8m, zq80, zq81, zq82, zq83, zq84, zq85, zq86, zq87, lt8 hk, e_isClear (isL_at hk), of_in, coF, q, b2i], trivial⟩) 8 0 0 (by omega) trivial
  refine L.1.trans ?_
  show Rn 46 (4, [some (.ref b), some (.int (clA T)), some (.int (Int32.ofNat 8))], [], a, setTub h b T) = _
  rw [r46_4]
  simp only [r46_0, r46_1, r46_2, r46_3, r46_5, r46_7, r46_10, r46_11, r46_12, r46_15, r46_18, r46_19, r46_20, r46_21, r46_22, r46_23, r46_24, r46_27, r46_30, r46_31, Nl_none, Nl_int, Nl_ref, Nl_null, Kv_some, Ki_some, Kh_some, Bk_some, Bk_void, ↓reduceIte, mrt10, mrt11, zl2, zl3, zl4, zl8, Bool.false_eq_true, Int32.reduceAdd, Int32.reduceSub, Int32.reduceMul, Int32.reduceLT, zqm0, zqm1, zqm2, zqm3, zqm4, zqm5, zqm6, zqm7, zqm8, zq0m, zq01, zq02, zq03, zq04, zq05, zq06, zq07, zq08, zq1m, zq10, zq12, zq13, zq14, zq15, zq16, zq17, zq18, zq2m, zq20, zq21, zq23, zq24, zq25, zq26, zq27, zq28, zq3m, zq30, zq31, zq32, zq34, zq35, zq36, zq37, zq38, zq4m, zq40, zq41, zq42, zq43, zq45, zq46, zq47, zq48, zq5m, zq50, zq51, zq52, zq53, zq54, zq56, zq57, zq58, zq6m, zq60, zq61, zq62, zq63, zq64, zq65, zq67, zq68, zq7m, zq70, zq71, zq72, zq73, zq74, zq75, zq76, zq78, zq8m, zq80, zq81, zq82, zq83, zq84, zq85, zq86, zq87, Int32.reduceOfNat]
end
