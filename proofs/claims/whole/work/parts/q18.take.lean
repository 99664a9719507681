/-! ===== one Tub takes over another ===== -/
section
variable {a : MA} {h : MH} {b c : Nat} {T U : TS} {x : Int32} {t n : Nat}
def cpD (U T : TS) : TS := fun k => if 4 ≤ k ∧ k < 28 then U k else T k
def cpP (U T : TS) : TS := fun k => if 76 ≤ k ∧ k < 86 then U k else T k
def cpT (U : TS) (t : Nat) (T : TS) : TS := mfu (mfu (mfu (mfu (mfu (mfu T (28 + 6 * t) (U (28 + 6 * t))) (29 + 6 * t) (U (29 + 6 * t))) (30 + 6 * t) (U (30 + 6 * t))) (31 + 6 * t) (U (31 + 6 * t))) (32 + 6 * t) (U (32 + 6 * t))) (33 + 6 * t) (U (33 + 6 * t))
theorem mcpy_cl {f g : Nat → Int32} {n : Nat} : mcpy (fun i => if i < n then f i else 0) (fun i => if i < n then g i else 0) 0 0 n = fun i => if i < n then f i else 0 := by
  funext k; unfold mcpy
  by_cases e : k < n
  · rw [if_pos (by omega), show 0 + (k - 0) = k by omega]
  · rw [if_neg (by omega)]
    show (if k < n then g k else 0) = if k < n then f k else 0
    rw [if_neg e, if_neg e]
section
variable (dj : b + 12 ≤ c ∨ c + 12 ≤ b)
theorem oc_at {k : Nat} (hk : k < 12) (dj : b + 12 ≤ c ∨ c + 12 ≤ b) : setTub (setTub h c U) b T (c + k) = tubC c U k := by
  rw [st_off _ _ _ _ (by omega), st_at _ _ _ _ hk]
theorem oc_0 (dj : b + 12 ≤ c ∨ c + 12 ≤ b) : setTub (setTub h c U) b T c = tubC c U 0 := oc_at (k := 0) (by omega) dj
theorem oc_th (dj : b + 12 ≤ c ∨ c + 12 ≤ b) (ht : t < 8) : setTub (setTub h c U) b T (c + 4 + t) = tubC c U (t + 4) := by
  rw [st_off _ _ _ _ (by omega), st_thing ht]
theorem og_dyes (dj : b + 12 ≤ c ∨ c + 12 ≤ b) : mgf (setTub (setTub h c U) b T) c 4 0 = some (.ref (c + 1)) := by simp only [mgf, oc_0 dj, tubC]; rfl
theorem og_things (dj : b + 12 ≤ c ∨ c + 12 ≤ b) : mgf (setTub (setTub h c U) b T) c 4 1 = some (.ref (c + 2)) := by simp only [mgf, oc_0 dj, tubC]; rfl
theorem og_spots (dj : b + 12 ≤ c ∨ c + 12 ≤ b) : mgf (setTub (setTub h c U) b T) c 4 2 = some (.ref (c + 3)) := by simp only [mgf, oc_0 dj, tubC]; rfl
theorem og_count (dj : b + 12 ≤ c ∨ c + 12 ≤ b) : mgf (setTub (setTub h c U) b T) c 4 3 = some (.int (U 0)) := by simp only [mgf, oc_0 dj, tubC]; rfl
theorem og_lye (dj : b + 12 ≤ c ∨ c + 12 ≤ b) : mgf (setTub (setTub h c U) b T) c 4 4 = some (.int (U 3)) := by simp only [mgf, oc_0 dj, tubC]; rfl
theorem og_year (dj : b + 12 ≤ c ∨ c + 12 ≤ b) : mgf (setTub (setTub h c U) b T) c 4 5 = some (.int (U 1)) := by simp only [mgf, oc_0 dj, tubC]; rfl
theorem og_z (dj : b + 12 ≤ c ∨ c + 12 ≤ b) : mgf (setTub (setTub h c U) b T) c 4 6 = some (.int (U 2)) := by simp only [mgf, oc_0 dj, tubC]; rfl
theorem ol_thN (dj : b + 12 ≤ c ∨ c + 12 ≤ b) (hk : t < 8) : mald (setTub (setTub h c U) b T) (c + 2) (Int32.ofNat t) = some (.ref (c + 4 + t)) := by
  have e := iN_of (n := t) (by omega)
  have e0 : ¬ Int32.ofNat t < 0 := by rw [of_nn (by omega)]; exact id
  unfold iN at e
  simp only [mald, oc_at (k := 2) (by omega) dj, tubC, if_neg e0, e]
  rw [if_neg (by decide), if_pos hk, if_pos hk]; rfl
theorem og_kind (dj : b + 12 ≤ c ∨ c + 12 ≤ b) (ht : t < 8) : mgf (setTub (setTub h c U) b T) (c + 4 + t) 3 0 = some (.int (U (28 + 6 * t))) := by simp only [mgf, oc_th dj ht, tubC]; rfl
theorem og_layer (dj : b + 12 ≤ c ∨ c + 12 ≤ b) (ht : t < 8) : mgf (setTub (setTub h c U) b T) (c + 4 + t) 3 1 = some (.int (U (29 + 6 * t))) := by simp only [mgf, oc_th dj ht, tubC]; rfl
theorem og_colour (dj : b + 12 ≤ c ∨ c + 12 ≤ b) (ht : t < 8) : mgf (setTub (setTub h c U) b T) (c + 4 + t) 3 2 = some (.int (U (30 + 6 * t))) := by simp only [mgf, oc_th dj ht, tubC]; rfl
theorem og_holds (dj : b + 12 ≤ c ∨ c + 12 ≤ b) (ht : t < 8) : mgf (setTub (setTub h c U) b T) (c + 4 + t) 3 3 = some (.int (U (31 + 6 * t))) := by simp only [mgf, oc_th dj ht, tubC]; rfl
theorem og_soaked (dj : b + 12 ≤ c ∨ c + 12 ≤ b) (ht : t < 8) : mgf (setTub (setTub h c U) b T) (c + 4 + t) 3 4 = some (.int (U (32 + 6 * t))) := by simp only [mgf, oc_th dj ht, tubC]; rfl
theorem og_seen (dj : b + 12 ≤ c ∨ c + 12 ≤ b) (ht : t < 8) : mgf (setTub (setTub h c U) b T) (c + 4 + t) 3 5 = some (.int (U (33 + 6 * t))) := by simp only [mgf, oc_th dj ht, tubC]; rfl
theorem ocp_dyes (dj : b + 12 ≤ c ∨ c + 12 ≤ b) : mcp (setTub (setTub h c U) b T) (c + 1) 0 (b + 1) 0 24 = some (setTub (setTub h c U) b (cpD U T)) := by
  have e1 := oc_at (h := h) (T := T) (U := U) (k := 1) (by omega) dj
  have e2 := st_at (setTub h c U) b T 1 (by omega)
  simp only [mcp, e1, e2, tubC]
  rw [if_neg (by decide)]
  rw [if_pos (by decide)]
  refine congrArg some (st_up _ b T (cpD U T) 1 _ (by omega) ?_ ?_)
  · show tubC b (cpD U T) 1 = .inl (24, mcpy _ _ 0 0 24)
    rw [mcpy_cl]
    exact congrArg (fun z => (.inl (24, z) : MC)) (cl_eq fun k hk => if_pos (by omega))
  · intro j hj h0
    have l : ∀ k, k < 4 ∨ 28 ≤ k → cpD U T k = T k := fun k hk => if_neg (by omega)
    match j, h0 with
    | 0, _ => simp only [tubC]; rw [l 0 (by omega), l 3 (by omega), l 1 (by omega), l 2 (by omega), l 86 (by omega)]
    | 1, h0 => exact absurd rfl h0
    | 2, _ => rfl
    | 3, _ => exact congrArg (fun z => (.inl (10, z) : MC)) (cl_eq fun k hk => l _ (by omega))
    | k + 4, _ => simp only [tubC]; rw [l _ (by omega), l (29 + 6 * k) (by omega), l (30 + 6 * k) (by omega), l (31 + 6 * k) (by omega), l (32 + 6 * k) (by omega), l (33 + 6 * k) (by omega)]
theorem ocp_spots (dj : b + 12 ≤ c ∨ c + 12 ≤ b) : mcp (setTub (setTub h c U) b T) (c + 3) 0 (b + 3) 0 10 = some (setTub (setTub h c U) b (cpP U T)) := by
  have e1 := oc_at (h := h) (T := T) (U := U) (k := 3) (by omega) dj
  have e2 := st_at (setTub h c U) b T 3 (by omega)
  simp only [mcp, e1, e2, tubC]
  rw [if_neg (by decide)]
  rw [if_pos (by decide)]
  have hb : setTub (setTub h c U) b T = setTub (setTub h c U) b T := rfl
  refine congrArg some (st_up _ b T (cpP U T) 3 _ (by omega) ?_ ?_)
  · show tubC b (cpP U T) 3 = .inl (10, mcpy _ _ 0 0 10)
    rw [mcpy_cl]
    exact congrArg (fun z => (.inl (10, z) : MC)) (cl_eq fun k hk => if_pos (by omega))
  · intro j hj h0
    have l : ∀ k, k < 76 ∨ 86 ≤ k → cpP U T k = T k := fun k hk => if_neg (by omega)
    match j, h0 with
    | 0, _ => simp only [tubC]; rw [l 0 (by omega), l 3 (by omega), l 1 (by omega), l 2 (by omega), l 86 (by omega)]
    | 1, _ => exact congrArg (fun z => (.inl (24, z) : MC)) (cl_eq fun k hk => l _ (by omega))
    | 2, _ => rfl
    | 3, h0 => exact absurd rfl h0
    | k + 4, _ => simp only [tubC]; rw [l _ (by omega), l (29 + 6 * k) (by omega), l (30 + 6 * k) (by omega), l (31 + 6 * k) (by omega), l (32 + 6 * k) (by omega), l (33 + 6 * k) (by omega)]
theorem e_thTake (dj : b + 12 ≤ c ∨ c + 12 ≤ b) (ht : t < 8) : Ec 28 [.ref (b + 4 + t), .ref (c + 4 + t)] a (setTub (setTub h c U) b T) = some (none, a, setTub (setTub h c U) b (cpT U t T)) := by
  rw [Ec_go rfl]; show Rn 28 (0, [some (.ref (b + 4 + t)), some (.ref (c + 4 + t))], [], a, setTub (setTub h c U) b T) = _
  simp only [r28_0, r28_1, r28_2, r28_5, r28_8, r28_9, r28_10, r28_13, r28_16, r28_17, r28_18, r28_21, r28_24, r28_25, r28_26, r28_29, r28_32, r28_33, r28_34, r28_37, r28_40, r28_41, r28_42, r28_45, r28_48, Nl_none, Nl_int, Nl_ref, Nl_null, Kv_some, Ki_some, Kh_some, Bk_some, Bk_void, ↓reduceIte, mrt10, mrt11, zl2, zl3, zl4, zl8, Bool.false_eq_true, og_kind dj ht, og_layer dj ht, og_colour dj ht, og_holds dj ht, og_soaked dj ht, og_seen dj ht, pt_kind ht, pt_layer ht, pt_colour ht, pt_holds ht, pt_soaked ht, pt_seen ht, cpT]
theorem cpT_at {k : Nat} : cpT U t T k = if 28 + 6 * t ≤ k ∧ k < 34 + 6 * t then U k else T k := by
  unfold cpT mfu
  by_cases h5 : k = 33 + 6 * t
  · subst h5; rw [if_pos rfl, if_pos (by omega)]
  rw [if_neg h5]
  by_cases h4 : k = 32 + 6 * t
  · subst h4; rw [if_pos rfl, if_pos (by omega)]
  rw [if_neg h4]
  by_cases h3 : k = 31 + 6 * t
  · subst h3; rw [if_pos rfl, if_pos (by omega)]
  rw [if_neg h3]
  by_cases h2 : k = 30 + 6 * t
  · subst h2; rw [if_pos rfl, if_pos (by omega)]
  rw [if_neg h2]
  by_cases h1 : k = 29 + 6 * t
  · subst h1; rw [if_pos rfl, if_pos (by omega)]
  rw [if_neg h1]
  by_cases h0 : k = 28 + 6 * t
  · subst h0; rw [if_pos rfl, if_pos (by omega)]
  rw [if_neg h0, if_neg (by omega)]
theorem cpT_all {s : TS} : ∀ k, lpf (cpT U) 0 n s k = if 28 ≤ k ∧ k < 28 + 6 * n then U k else s k :=
  lpf_inv (P := fun m r => ∀ k, r k = if 28 ≤ k ∧ k < 28 + 6 * m then U k else s k) (fun m r hm p k => by
    rw [cpT_at, p k]
    by_cases e : 28 + 6 * m ≤ k ∧ k < 34 + 6 * m
    · rw [if_pos e, if_pos (by omega)]
    · rw [if_neg e]
      by_cases e2 : 28 ≤ k ∧ k < 28 + 6 * m
      · rw [if_pos e2, if_pos (by omega)]
      · rw [if_neg e2, if_neg (by omega)]) n 0 s (by omega) (fun k => by rw [if_neg (by omega)])
theorem e_takeFrom (dj : b + 12 ≤ c ∨ c + 12 ≤ b) (hn : n ≤ 8) (hU : U 0 = Int32.ofNat n) : Ec 35 [.ref b, .ref c] a (setTub (setTub h c U) b T) = some (none, a, setTub (setTub h c U) b (tkS n U T)) := by
  rw [Ec_go rfl]; show Rn 35 (0, [some (.ref b), some (.ref c), none], [], a, setTub (setTub h c U) b T) = _
  simp only [r35_0, r35_1, r35_4, r35_5, r35_6, r35_9, r35_10, r35_11, r35_14, r35_15, r35_18, r35_19, r35_22, r35_23, r35_24, r35_27, r35_28, r35_29, r35_32, r35_33, r35_36, r35_37, r35_38, r35_41, r35_44, r35_45, r35_47, r35_48, r35_51, r35_54, r35_55, r35_56, r35_59, r35_60, r35_63, r35_64, r35_67, r35_68, r35_69, r35_70, r35_73, r35_74, r35_75, r35_78, r35_81, r35_84, r35_85, r35_86, r35_89, r35_92, r35_93, r35_94, r35_97, r35_100, r35_101, r35_102, r35_105, r35_108, r35_109, r35_110, r35_113, Nl_none, Nl_int, Nl_ref, Nl_null, Kv_some, Ki_some, Kh_some, Bk_some, Bk_void, ↓reduceIte, mrt10, mrt11, zl2, zl3, zl4, zl8, Bool.false_eq_true, gt_dyes, gt_things, gt_spots, gt_count, gt_lye, gt_year, gt_z, gt_dry, mis_tub, ln_dyes, ln_things, ln_spots, og_dyes dj, og_things dj, og_spots dj, og_count dj, ocp_dyes dj, ocp_spots dj, pt_count]
  have L := lp_up (M := 35) (X := fun k (s : TS) => (46, [some (.ref b), some (.ref c), some (.int (Int32.ofNat k))], [], a, setTub (setTub h c U) b s)) (f := cpT U) (P := fun _ s => s 0 = Int32.ofNat n) (N := n) (fun k s hk p => ⟨by
    have k8 : k < 8 := by omega
    have lt := ltT hk (by omega)
    show Rn 35 (46, [some (.ref b), some (.ref c), some (.int (Int32.ofNat k))], [], a, setTub (setTub h c U) b s) = Rn 35 (46, [some (.ref b), some (.ref c), some (.int (Int32.ofNat (k + 1)))], [], a, setTub (setTub h c U) b (cpT U k s))
    rw [r35_46]
    simp only [r35_0, r35_1, r35_4, r35_5, r35_6, r35_9, r35_10, r35_11, r35_14, r35_15, r35_18, r35_19, r35_22, r35_23, r35_24, r35_27, r35_28, r35_29, r35_32, r35_33, r35_36, r35_37, r35_38, r35_41, r35_44, r35_45, r35_47, r35_48, r35_51, r35_54, r35_55, r35_56, r35_59, r35_60, r35_63, r35_64, r35_67, r35_68, r35_69, r35_70, r35_73, r35_74, r35_75, r35_78, r35_81, r35_84, r35_85, r35_86, r35_89, r35_92, r35_93, r35_94, r35_97, r35_100, r35_101, r35_102, r35_105, r35_108, r35_109, r35_110, r35_113, Nl_none, Nl_int, Nl_ref, Nl_null, Kv_some, Ki_some, Kh_some, Bk_some, Bk_void, ↓reduceIte, mrt10, mrt11, zl2, zl3, zl4, zl8, Bool.false_eq_true, gt_dyes, gt_things, gt_spots, gt_count, gt_lye, gt_year, gt_z, gt_dry, mis_tub, ln_dyes, ln_things, ln_spots, p, lt, lt8 k8, ld_thN k8, mis_thing k8, og_things dj, ol_thN dj k8, e_thTake dj k8, of_in], by rw [cpT_at, if_neg (by omega)]; exact p⟩) n 0 (mfu (cpP U (cpD U T)) 0 (U 0)) (by omega) (by rw [fu_at]; exact hU)
  refine L.1.trans ?_
  have p := L.2
  have lf := ltF (Nat.le_refl n) (by omega)
  show Rn 35 (46, [some (.ref b), some (.ref c), some (.int (Int32.ofNat n))], [], a, setTub (setTub h c U) b (lpf (cpT U) 0 n (mfu (cpP U (cpD U T)) 0 (U 0)))) = _
  rw [r35_46]
  simp only [r35_0, r35_1, r35_4, r35_5, r35_6, r35_9, r35_10, r35_11, r35_14, r35_15, r35_18, r35_19, r35_22, r35_23, r35_24, r35_27, r35_28, r35_29, r35_32, r35_33, r35_36, r35_37, r35_38, r35_41, r35_44, r35_45, r35_47, r35_48, r35_51, r35_54, r35_55, r35_56, r35_59, r35_60, r35_63, r35_64, r35_67, r35_68, r35_69, r35_70, r35_73, r35_74, r35_75, r35_78, r35_81, r35_84, r35_85, r35_86, r35_89, r35_92, r35_93, r35_94, r35_97, r35_100, r35_101, r35_102, r35_105, r35_108, r35_109, r35_110, r35_113, Nl_none, Nl_int, Nl_ref, Nl_null, Kv_some, Ki_some, Kh_some, Bk_some, Bk_void, ↓reduceIte, mrt10, mrt11, zl2, zl3, zl4, zl8, Bool.false_eq_true, gt_dyes, gt_things, gt_spots, gt_count, gt_lye, gt_year, gt_z, gt_dry, mis_tub, ln_dyes, ln_things, ln_spots, p, lf, og_lye dj, og_year dj, og_z dj, pt_lye, pt_year, pt_z, pt_dry]
  refine congrArg (fun z => some (none, a, z)) (st_eq fun k hk => ?_)
  unfold tkS
  by_cases h86 : k = 86
  · rw [if_pos h86, h86, fu_at]
  rw [if_neg h86, fu_ne h86]
  by_cases e2 : k = 2
  · subst e2; rw [fu_at, if_pos (by omega)]
  rw [fu_ne e2]
  by_cases e1 : k = 1
  · subst e1; rw [fu_at, if_pos (by omega)]
  rw [fu_ne e1]
  by_cases e3 : k = 3
  · subst e3; rw [fu_at, if_pos (by omega)]
  rw [fu_ne e3, cpT_all]
  by_cases e4 : 28 ≤ k ∧ k < 28 + 6 * n
  · rw [if_pos e4, if_pos (by omega)]
  rw [if_neg e4]
  by_cases e0 : k = 0
  · subst e0; rw [fu_at, if_pos (by omega)]
  rw [fu_ne e0]
  unfold cpP cpD
  by_cases e5 : 76 ≤ k ∧ k < 86
  · rw [if_pos e5, if_pos (by omega)]
  rw [if_neg e5]
  by_cases e6 : 4 ≤ k ∧ k < 28
  · rw [if_pos e6, if_pos (by omega)]
  · rw [if_neg e6, if_neg (by omega)]
end
end
