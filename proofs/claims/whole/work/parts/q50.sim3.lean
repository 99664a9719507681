/-! ===== the calls beside each other: sheets ===== -/
section
variable {T V X S K Y T' V' X' S' K' Y' : TS} {x y z v w x1 x2 x3 x4 x5 : Int32} {n n' k m s i L : Nat} {u u' : Int}
theorem bi_cases (h : biB y = true) : y = 0 ∨ (y = 8 ∨ y = 16 ∨ y = 32) := of_decide_eq_true h
/-- every place of a sheet of the class, of the reference, after a change -/
theorem rh_bits (h : RH X Y) (hs : s < 4) : (X (240 + 50 * s) = 0 ∧ Y (140 + s) < 0) ∨ (¬ X (240 + 50 * s) = 0 ∧ ¬ Y (140 + s) < 0 ∧ Y (140 + s) = X (240 + 50 * s)) := by
  rcases (h s hs).1 with ⟨h1, h2⟩ | ⟨h1, h2⟩
  · exact Or.inl ⟨h1, by rw [h2]; decide⟩
  · refine Or.inr ⟨?_, ?_, h1.symm⟩
    · rw [h1]; rcases h2 with h2 | h2 | h2 <;> rw [h2] <;> decide
    · rcases h2 with h2 | h2 | h2 <;> rw [h2] <;> decide
theorem rh_sh {m : Nat} (h : RH X Y) (hs : s < 4) (hy : biB y = true) (hm : m ≤ 40) (hz : (if y = 0 then 0 else z) = Int32.ofNat m) : RH (shX s y z X) (shY s y z Y) := by
  have xo : ∀ k, (k < 200 + 50 * s ∨ 240 + 50 * s ≤ k) → k ≠ 240 + 50 * s → k ≠ 241 + 50 * s → shX s y z X k = X k := fun k h1 h2 h3 => by
    unfold shX zeX; rw [if_neg (by omega), fu_ne h3, fu_ne h2]
  have yo : ∀ k, (k < 150 + 40 * s ∨ 190 + 40 * s ≤ k) → k ≠ 140 + s → k ≠ 144 + s → shY s y z Y k = Y k := fun k h1 h2 h3 => by
    unfold shY zeY; rw [if_neg (by omega), fu_ne h3, fu_ne h2]
  intro s' hs'
  by_cases e : s' = s
  · subst e
    have x0 : shX s' y z X (240 + 50 * s') = y := by unfold shX zeX; rw [if_neg (by omega), fu_ne (by omega), fu_at]
    have x1 : shX s' y z X (241 + 50 * s') = (if y = 0 then 0 else z) := by unfold shX zeX; rw [if_neg (by omega), fu_at]
    have y0 : shY s' y z Y (140 + s') = (if y = 0 then -1 else y) := by unfold shY zeY; rw [if_neg (by omega), fu_ne (by omega), fu_at]
    have y1 : shY s' y z Y (144 + s') = (if y = 0 then 0 else z) := by unfold shY zeY; rw [if_neg (by omega), fu_at]
    rw [x0, x1, y0, y1]
    refine ⟨?_, m, hm, hz, hz, fun i hi => ?_⟩
    · rcases bi_cases hy with c | c
      · exact Or.inl ⟨c, if_pos c⟩
      · have c0 : ¬ y = 0 := by rcases c with c | c | c <;> rw [c] <;> decide
        rw [if_neg c0]
        exact Or.inr ⟨rfl, c⟩
    · unfold shX zeX shY zeY
      rw [if_pos (by omega), if_pos (by omega)]
  · obtain ⟨h1, m', h2, h3, h4, h5⟩ := h s' hs'
    rw [xo _ (by omega) (by omega) (by omega), xo _ (by omega) (by omega) (by omega), yo _ (by omega) (by omega) (by omega), yo _ (by omega) (by omega) (by omega)]
    refine ⟨h1, m', h2, h3, h4, fun i hi => ?_⟩
    rw [xo _ (by omega) (by omega) (by omega), yo _ (by omega) (by omega) (by omega)]
    exact h5 i hi
theorem s_sheet : Sim 95 215 [.int x, .int y, .int z] := fun u n T V X S K Y hu r => by
  by_cases q : isS x = true ∧ biB y = true
  · by_cases z0 : z < 0
    · have c := cb_sheetC (T := T) (V := V) (X := X) q.1 q.2 (Or.inl z0)
      rw [if_pos z0, if_pos z0] at c
      exact sim_f (by decide) r c (mb_sheet6 q.1 q.2 z0)
    by_cases z40 : 40 < z
    · have c := cb_sheetC (T := T) (V := V) (X := X) q.1 q.2 (Or.inr z40)
      rw [if_neg z0, if_neg z0] at c
      exact sim_f (by decide) r c (mb_sheetB q.1 q.2 z0 z40)
    obtain ⟨s, hs, e⟩ := isS_nat q.1
    have es : iN x = s := by rw [e]; exact iN_of (by omega)
    have c := co_sheet (T := T) (V := V) (X := X) q.1 q.2 z0 z40
    have m := mo_sheet (S := S) (K := K) (Y := Y) q.1 q.2 z0 z40
    rw [es] at c m
    have hz : ∃ m, m ≤ 40 ∧ (if y = 0 then 0 else z) = Int32.ofNat m := by
      by_cases y0 : y = 0
      · rw [if_pos y0]; exact ⟨0, by omega, rfl⟩
      · rw [if_neg y0]
        obtain ⟨m, hm, e⟩ := wi_nat (x := z) 40 (by decide) (decide_eq_true ⟨z0, z40⟩)
        exact ⟨m, by omega, e⟩
    obtain ⟨k, hk, ez⟩ := hz
    refine ⟨_, n, T, V, shX s y z X, S, K, shY s y z Y, c, m, (r.mono (by omega)).rs (fun k hk => ?_) (fun k hk => ?_) (rh_sh r.rh hs q.2 hk ez)⟩
    · unfold shX zeX; rw [if_neg (by omega), fu_ne (by omega), fu_ne (by omega)]
    · unfold shY zeY; rw [if_neg (by omega), fu_ne (by omega), fu_ne (by omega)]
  · exact sim_f (by decide) r (cb_sheet0 q) (mb_sheet0 q)
theorem wnX_0 (hs : s < 4) (h : ¬ X (240 + 50 * s) = 0) : wnX (Int32.ofNat s) X = 0 := by unfold wnX; rw [if_pos (isS_at hs), iN_of (by omega), if_neg h]
theorem wnX_6 (hs : s < 4) (h : X (240 + 50 * s) = 0) : wnX (Int32.ofNat s) X = -1000006 := by unfold wnX; rw [if_pos (isS_at hs), iN_of (by omega), if_pos h]
theorem wnX_1 (h : ¬ isS x = true) : wnX x X = -1000001 := by unfold wnX; rw [if_neg h]
theorem wnY_0 (hs : s < 4) (h : ¬ Y (140 + s) < 0) : wnY (Int32.ofNat s) Y = 0 := by unfold wnY; rw [if_pos (isS_at hs), iN_of (by omega), if_neg h]
theorem wnY_6 (hs : s < 4) (h : Y (140 + s) < 0) : wnY (Int32.ofNat s) Y = -1000006 := by unfold wnY; rw [if_pos (isS_at hs), iN_of (by omega), if_pos h]
theorem wnY_1 (h : ¬ isS x = true) : wnY x Y = -1000001 := by unfold wnY; rw [if_neg h]
theorem rh_wr (h : RH X Y) (hs : s < 4) (hi : i < 40) : RH (mfu X (200 + 50 * s + i) v) (mfu Y (150 + (40 * s + i)) v) := by
  intro s' hs'
  obtain ⟨h1, m', h2, h3, h4, h5⟩ := h s' hs'
  rw [fu_ne (by omega), fu_ne (by omega), fu_ne (by omega), fu_ne (by omega)]
  refine ⟨h1, m', h2, h3, h4, fun j hj => ?_⟩
  by_cases e : s' = s ∧ j = i
  · rw [e.1, e.2, fu_at, fu_at]
  · rw [fu_ne (by omega), fu_ne (by omega)]
    exact h5 j hj
theorem s_write : Sim 96 216 [.int x, .int y, .int v] := fun u n T V X S K Y hu r => by
  by_cases q : isS x = true
  · obtain ⟨s, hs, rfl⟩ := isS_nat q
    rcases rh_bits r.rh hs with ⟨b1, b2⟩ | ⟨b1, b2, b3⟩
    · exact sim_f (by decide) r (cb_write5 (wnX_6 hs b1)) (mb_write5 hs b2)
    · obtain ⟨_, m, hm, h1, h2, _⟩ := r.rh s hs
      by_cases hi : ∃ i, i < m ∧ y = Int32.ofNat i
      · obtain ⟨i, hi, rfl⟩ := hi
        have c := co_write (T := T) (V := V) (v := v) hs (wnX_0 hs b1) h1 hm hi
        have w := mo_write (S := S) (K := K) (v := v) hs b2 h2 hm hi
        rw [b3] at w
        exact ⟨_, n, T, V, _, S, K, _, c, w, (r.mono (by omega)).rs (fun k hk => fu_ne (by omega)) (fun k hk => fu_ne (by omega)) (rh_wr r.rh hs (by omega))⟩
      · exact sim_f (by decide) r (cb_writeB hs (wnX_0 hs b1) h1 hm (fun q => hi (hs_of' q (by omega)))) (mb_writeB hs b2 h2 hm hi)
  · exact sim_f (by decide) r (cb_write0 (wnX_1 q)) (mb_write0 q)
theorem rh_cy {t f o m : Nat} (h : RH X Y) (hs : s < 4) (ht : t < 4) (h1 : f + m ≤ 40) (h2 : o + m ≤ 40) : RH (cyX (50 * s + f) (50 * t + o) m X) (cyY (40 * s + f) (40 * t + o) m Y) := by
  have xo : ∀ k, ¬ (200 + (50 * t + o) ≤ k ∧ k < 200 + (50 * t + o) + m) → cyX (50 * s + f) (50 * t + o) m X k = X k := fun k q => if_neg q
  have yo : ∀ k, ¬ (150 + (40 * t + o) ≤ k ∧ k < 150 + (40 * t + o) + m) → cyY (40 * s + f) (40 * t + o) m Y k = Y k := fun k q => if_neg q
  intro s' hs'
  obtain ⟨h1', m', h2', h3, h4, h5⟩ := h s' hs'
  rw [xo _ (by omega), xo _ (by omega), yo _ (by omega), yo _ (by omega)]
  refine ⟨h1', m', h2', h3, h4, fun i hi => ?_⟩
  by_cases e : s' = t ∧ o ≤ i ∧ i < o + m
  · obtain ⟨rfl, e1, e2⟩ := e
    have a : cyX (50 * s + f) (50 * s' + o) m X (200 + 50 * s' + i) = X (200 + 50 * s + (f + (i - o))) := by
      unfold cyX
      rw [if_pos (by omega)]
      congr 1; omega
    have b : cyY (40 * s + f) (40 * s' + o) m Y (150 + (40 * s' + i)) = Y (150 + (40 * s + (f + (i - o)))) := by
      unfold cyY
      rw [if_pos (by omega)]
      congr 1; omega
    rw [a, b]
    obtain ⟨_, _, _, _, _, h5⟩ := h s hs
    exact h5 _ (by omega)
  · rw [xo _ (by omega), yo _ (by omega)]
    exact h5 i hi
theorem s_copy : Sim 97 217 [.int x1, .int x2, .int x3, .int x4, .int x5] := fun u n T V X S K Y hu r => by
  by_cases q : isS x1 = true ∧ isS x3 = true
  · obtain ⟨s, hs, rfl⟩ := isS_nat q.1
    obtain ⟨t, ht, rfl⟩ := isS_nat q.2
    rcases rh_bits r.rh hs with ⟨b1, b2⟩ | ⟨b1, b2, b3⟩
    · exact sim_f (by decide) r (cb_copy5 hs ht (Or.inl b1)) (mb_copy5 hs ht (Or.inl b2))
    rcases rh_bits r.rh ht with ⟨c1, c2⟩ | ⟨c1, c2, c3⟩
    · exact sim_f (by decide) r (cb_copy5 hs ht (Or.inr c1)) (mb_copy5 hs ht (Or.inr c2))
    by_cases e : X (240 + 50 * s) = X (240 + 50 * t)
    · have e' : Y (140 + s) = Y (140 + t) := by rw [b3, c3]; exact e
      obtain ⟨_, ms, hms, g1, g2, _⟩ := r.rh s hs
      obtain ⟨_, mt, hmt, d1, d2, _⟩ := r.rh t ht
      by_cases hb : hrB x2 x5 ms = true ∧ hrB x4 x5 mt = true
      · obtain ⟨f, m, rfl, rfl, l1⟩ := hr_nat hms hb.1
        obtain ⟨o, m', rfl, em, l2⟩ := hr_nat hmt hb.2
        have em : m = m' := by rw [of_eq (by omega) (by omega)] at em; exact em
        subst em
        exact ⟨_, n, T, V, _, S, K, _, co_copy hs ht b1 c1 e g1 d1 hms hmt l1 l2, mo_copy hs ht b2 c2 e' g2 d2 hms hmt l1 l2, (r.mono (by omega)).rs (fun k hk => if_neg (by omega)) (fun k hk => if_neg (by omega)) (rh_cy r.rh hs ht (by omega) (by omega))⟩
      · refine sim_f (by decide) r (cb_copyB hs ht b1 c1 e g1 d1 hb) (mb_copyB hs ht b2 c2 e' ?_)
        rw [hr_not hms, hr_not hmt] at hb
        rw [g2, d2]
        by_cases p1 : x2 < 0 ∨ x5 < 0 ∨ Int32.ofNat ms - x2 < x5
        · rcases p1 with p | p | p
          · exact Or.inl p
          · exact Or.inr (Or.inr (Or.inl p))
          · exact Or.inr (Or.inr (Or.inr (Or.inl p)))
        · have p2 : x4 < 0 ∨ x5 < 0 ∨ Int32.ofNat mt - x4 < x5 := by
            apply Classical.byContradiction
            intro p2
            exact hb ⟨p1, p2⟩
          rcases p2 with p | p | p
          · exact Or.inr (Or.inl p)
          · exact Or.inr (Or.inr (Or.inl p))
          · exact Or.inr (Or.inr (Or.inr (Or.inr p)))
    · exact sim_f (by decide) r (cb_copy2 hs ht b1 c1 e) (mb_copy2 hs ht b2 c2 (by rw [b3, c3]; exact e))
  · exact sim_f (by decide) r (cb_copy0 q) (mb_copy0 q)
theorem fnd_pre {q : Nat → Bool} (i : Nat) (hi : i < onN (fnd q 0 m) m) : q i = false := by
  have := fnd_all (q := q) (L := m) (Nat.zero_le m) i (Nat.zero_le i)
  exact this hi
theorem onN_m {q : Nat → Bool} : onN (fnd q 0 m) m ≤ m := (onN_le (q := q) (p := 0) (m := m) rfl (by omega)).2
theorem ld_eq {F G : Nat → Int32} (h : ∀ i, i < m → F i = G i) : onN (fnd (ldP F n) 0 m) m = onN (fnd (ldP G n) 0 m) m := by
  rw [fnd_eq (p := ldP F n) (q := ldP G n) (N := m) (fun k hk => by unfold ldP; rw [h k hk]) m 0 (by omega)]
theorem sr_load {F G : Nat → Int32} {j : Nat} (h : SR n T S) (hF : ∀ i, i < j → F i = G i) (hp : ∀ i, i < j → ldP F n i = false) : SR n (lpf (loS F) 0 j T) (lpf (loS G) 0 j S) ∧ lpf (loS F) 0 j T 86 = T 86 ∧ lpf (loS F) 0 j T 1 = T 1 := by
  have h8 := h.1
  refine lpf_rel (f := loS F) (g := loS G) (P := fun _ (a b : TS) => SR n a b ∧ a 86 = T 86 ∧ a 1 = T 1) (N := j) (fun k a b hk p => ?_) j 0 T S (by omega) ⟨h, rfl, rfl⟩
  have q := hp k hk
  unfold ldP at q
  rw [Bool.not_eq_false', Bool.and_eq_true] at q
  have hk : k < n := of_decide_eq_true q.1
  have w := wi_ti q.2
  have e9 : (999 : Int32).toInt = 999 := by decide
  unfold loS
  rw [← hF k (by omega)]
  exact ⟨p.1.up (by omega) (fun _ => bd_holds (by omega) w.1 (by omega)), by rw [fu_ne (by omega)]; exact p.2.1, by rw [fu_ne (by omega)]; exact p.2.2⟩
theorem s_load : Sim 98 219 [.int x] := fun u n T V X S K Y hu r => by
  by_cases q : isS x = true
  · obtain ⟨s, hs, rfl⟩ := isS_nat q
    rcases rh_bits r.rh hs with ⟨b1, b2⟩ | ⟨b1, b2, b3⟩
    · exact sim_f (by decide) r (cb_load5 (wnX_6 hs b1)) (mb_load5 (wnY_6 hs b2))
    · obtain ⟨_, m, hm, h1, h2, h3⟩ := r.rh s hs
      have c := co_load (V := V) r.ok hs (wnX_0 hs b1) h1 hm
      have d := mo_load (K := K) r.okS hs (wnY_0 hs b2) h2 hm
      have hF : ∀ i, i < m → X (200 + 50 * s + i) = Y (150 + (40 * s + i)) := fun i hi => h3 i (by omega)
      rw [← ld_eq (F := fun i => X (200 + 50 * s + i)) (G := fun i => Y (150 + (40 * s + i))) hF] at d
      have l := onN_m (q := ldP (fun i => X (200 + 50 * s + i)) n) (m := m)
      have e := sr_load (F := fun i => X (200 + 50 * s + i)) (G := fun i => Y (150 + (40 * s + i))) (j := onN (fnd (ldP (fun i => X (200 + 50 * s + i)) n) 0 m) m) r.sr (fun i hi => hF i (by omega)) (fun i hi => fnd_pre i hi)
      exact sim_t r c d e.1 (by rw [e.2.1]; exact r.hd) (by rw [e.2.2]; have := r.yT; omega)
  · exact sim_f (by decide) r (cb_load0 (wnX_1 q)) (mb_load0 (wnY_1 q))
theorem s_judge : Sim 99 220 [.int x] := fun u n T V X S K Y hu r => by
  by_cases q : isS x = true
  · obtain ⟨s, hs, rfl⟩ := isS_nat q
    rcases rh_bits r.rh hs with ⟨b1, b2⟩ | ⟨b1, b2, b3⟩
    · exact sim_f (by decide) r (cb_judge5 (wnX_6 hs b1)) (mb_judge5 (wnY_6 hs b2))
    · obtain ⟨_, m, hm, h1, h2, h3⟩ := r.rh s hs
      have c := co_judge (T := T) (V := V) hs (wnX_0 hs b1) h1 hm
      have d := mo_judge (S := S) (K := K) hs (wnY_0 hs b2) h2 hm
      have e : fnd (jdP (fun i => Y (150 + (40 * s + i))) S) 0 m = fnd (jdP (fun i => X (200 + 50 * s + i)) T) 0 m := fnd_eq (N := m) (fun k hk => by
        unfold jdP
        by_cases k8 : k < 8
        · rw [sr_ds r.sr (isL_at k8)]
          show (!(decide (k < 8) && decide (Y (150 + (40 * s + k)) = dsS (Int32.ofNat k) T))) = (!(decide (k < 8) && decide (X (200 + 50 * s + k) = dsS (Int32.ofNat k) T)))
          rw [h3 k (by omega)]
        · rw [decide_eq_false k8, Bool.false_and, Bool.false_and]) m 0 (by omega)
      rw [e] at d
      exact ⟨_, n, T, V, X, S, K, Y, c, d, r.mono (by omega)⟩
  · exact sim_f (by decide) r (cb_judge0 (wnX_1 q)) (mb_judge0 (wnY_1 q))
end
