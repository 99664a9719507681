/-! ===== the reference: years, stirring, sums, what will be ===== -/
section
variable {a : MA} {h : MH} {S K B A Y : TS} {x y z v w out : Int32} {t n k m : Nat}
/-- a year, and it isn't the last that is told -/
theorem yeS_eq (h0 : 0 ≤ x.toInt) (h1 : x.toInt < 99999) : yeS x = x + 1 := by
  have e : (1 : Int32).toInt = 1 := by decide
  have e9 : (99999 : Int32).toInt = 99999 := by decide
  have s : (x + 1).toInt = x.toInt + 1 := by rw [ti_add (by omega) (by omega), e]
  unfold yeS
  rw [if_neg]
  rw [lt_ti, s, e9]; omega
theorem bl_1 {T : TS} (ok : Ok n T) (ht : t < n) : blB out t T 1 = T 1 := by
  have h8 := ok.1
  unfold blB
  split
  · unfold blT
    obtain ⟨j, hj, e⟩ := dyI_rg (sr_isL ok ht) (sr_isC ok ht)
    rw [e, fu_ne (by omega), fu_ne (by omega)]
  · rfl
theorem yr_1 {T : TS} (ok : Ok n T) : riA n (tnA n (skA (blA out n T))) 1 = T 1 := by
  have h8 := ok.1
  have h1 := (lpf_inv (f := blB out) (P := fun _ (s : TS) => Ok n s ∧ s 1 = T 1) (N := n) (fun k s hk p => ⟨sr_blB p.1 hk, (bl_1 p.1 hk).trans p.2⟩) n 0 T (by omega) ⟨ok, rfl⟩).2
  have h2 : skA (blA out n T) 1 = T 1 := lpf_inv (f := fun i => skS (20 - i)) (P := fun _ (s : TS) => s 1 = T 1) (N := 21) (fun k s hk p => by show skS (20 - k) s 1 = _; unfold skS; rw [fu_ne (by omega), fu_ne (by omega)]; exact p) 21 0 _ (by omega) h1
  have h3 : tnA n (skA (blA out n T)) 1 = T 1 := lpf_inv (f := tnT) (P := fun _ (s : TS) => s 1 = T 1) (N := n) (fun k s hk p => by
    unfold tnT
    split
    · rw [fu_ne (by omega), fu_ne (by omega)]; exact p
    · exact p) n 0 _ (by omega) h2
  exact lpf_inv (f := riT) (P := fun _ (s : TS) => s 1 = T 1) (N := n) (fun k s hk p => by
    unfold riT
    rw [fu_ne (by omega), fu_ne (by omega)]
    split
    · rw [fu_ne (by omega)]; exact p
    · exact p) n 0 _ (by omega) h3
theorem yr_yr {T : TS} (ok : Ok n T) : (yrT out n T 1).toInt ≤ (T 1).toInt + 1 := by
  unfold yrT
  rw [fu_at, yr_1 ok]
  exact (yeS_rg (rg_year ok)).2.2
theorem m_yearBut (ok : Ok n S) (hy : (S 1).toInt < 99999) : Ec 157 [.ref 50, .int out] a (mw h S K B A Y) = some (none, a, mw h (yrT out n S) K B A Y) := by
  have h8 := ok.1
  have lf := ltF (Nat.le_refl n) (by omega)
  rw [Ec_go rfl]; show Rn 157 (0, [some (.ref 50), some (.int out), none], [], a, mw h S K B A Y) = _
  simp only [r157_0, r157_1, r157_3, r157_4, r157_7, r157_8, r157_9, r157_12, r157_13, r157_14, r157_15, r157_16, r157_17, r157_20, r157_21, r157_22, r157_25, r157_28, r157_31, r157_32, r157_35, r157_36, r157_38, r157_39, r157_42, r157_43, r157_44, r157_47, r157_48, r157_49, r157_52, r157_55, r157_58, r157_59, r157_61, r157_62, r157_65, r157_66, r157_67, r157_70, r157_71, r157_72, r157_75, r157_78, r157_81, r157_82, r157_85, r157_86, r157_87, r157_88, r157_89, r157_90, r157_91, Nl_none, Nl_int, Nl_ref, Nl_null, Kv_some, Ki_some, Kh_some, Bk_some, Bk_void, ↓reduceIte, mrt10, mrt11, zl2, zl3, zl4, zl8, Bool.false_eq_true, my_s, my_mis, my_kept, my_before, my_aside, my_isKept, my_findings, my_tape, my_taped, my_bitsOf, my_sizes, my_numbers, my_fitting, my_leastFit, my_token, my_from, my_to, my_value, my_faultAt]
  have L1 := lp_up (M := 157) (X := fun k (s : TS) => (2, [some (.ref 50), some (.int out), some (.int (Int32.ofNat k))], [], a, mw h s K B A Y)) (f := blB out) (P := fun _ s => Ok n s) (N := n) (fun k s hk ok => ⟨by
    have lt := ltT hk (by omega)
    show Rn 157 (2, [some (.ref 50), some (.int out), some (.int (Int32.ofNat k))], [], a, mw h s K B A Y) = Rn 157 (2, [some (.ref 50), some (.int out), some (.int (Int32.ofNat (k + 1)))], [], a, mw h (blB out k s) K B A Y)
    rw [r157_2]
    by_cases q : out >>> (Int32.ofNat k &&& 31) &&& 1 = 0
    · simp only [r157_0, r157_1, r157_3, r157_4, r157_7, r157_8, r157_9, r157_12, r157_13, r157_14, r157_15, r157_16, r157_17, r157_20, r157_21, r157_22, r157_25, r157_28, r157_31, r157_32, r157_35, r157_36, r157_38, r157_39, r157_42, r157_43, r157_44, r157_47, r157_48, r157_49, r157_52, r157_55, r157_58, r157_59, r157_61, r157_62, r157_65, r157_66, r157_67, r157_70, r157_71, r157_72, r157_75, r157_78, r157_81, r157_82, r157_85, r157_86, r157_87, r157_88, r157_89, r157_90, r157_91, Nl_none, Nl_int, Nl_ref, Nl_null, Kv_some, Ki_some, Kh_some, Bk_some, Bk_void, ↓reduceIte, mrt10, mrt11, zl2, zl3, zl4, zl8, Bool.false_eq_true, my_s, my_mis, my_kept, my_before, my_aside, my_isKept, my_findings, my_tape, my_taped, my_bitsOf, my_sizes, my_numbers, my_fitting, my_leastFit, my_token, my_from, my_to, my_value, my_faultAt, ml_0, ok.2.1, lt, m_bleedsInto ok hk, of_in, blB, q]
    · simp only [r157_0, r157_1, r157_3, r157_4, r157_7, r157_8, r157_9, r157_12, r157_13, r157_14, r157_15, r157_16, r157_17, r157_20, r157_21, r157_22, r157_25, r157_28, r157_31, r157_32, r157_35, r157_36, r157_38, r157_39, r157_42, r157_43, r157_44, r157_47, r157_48, r157_49, r157_52, r157_55, r157_58, r157_59, r157_61, r157_62, r157_65, r157_66, r157_67, r157_70, r157_71, r157_72, r157_75, r157_78, r157_81, r157_82, r157_85, r157_86, r157_87, r157_88, r157_89, r157_90, r157_91, Nl_none, Nl_int, Nl_ref, Nl_null, Kv_some, Ki_some, Kh_some, Bk_some, Bk_void, ↓reduceIte, mrt10, mrt11, zl2, zl3, zl4, zl8, Bool.false_eq_true, my_s, my_mis, my_kept, my_before, my_aside, my_isKept, my_findings, my_tape, my_taped, my_bitsOf, my_sizes, my_numbers, my_fitting, my_leastFit, my_token, my_from, my_to, my_value, my_faultAt, ml_0, ok.2.1, lt, of_in, blB, q], sr_blB ok hk⟩) n 0 S (by omega) ok
  refine L1.1.trans ?_
  show Rn 157 (2, [some (.ref 50), some (.int out), some (.int (Int32.ofNat n))], [], a, mw h (blA out n S) K B A Y) = _
  have k1 : Ok n (blA out n S) := sr_blA ok
  have k2 : Ok n (skA (blA out n S)) := sr_skA k1
  have k3 : Ok n (tnA n (skA (blA out n S))) := sr_tnA k2
  have k4 : Ok n (riA n (tnA n (skA (blA out n S)))) := sr_riA k3
  rw [r157_2]
  simp only [r157_0, r157_1, r157_3, r157_4, r157_7, r157_8, r157_9, r157_12, r157_13, r157_14, r157_15, r157_16, r157_17, r157_20, r157_21, r157_22, r157_25, r157_28, r157_31, r157_32, r157_35, r157_36, r157_38, r157_39, r157_42, r157_43, r157_44, r157_47, r157_48, r157_49, r157_52, r157_55, r157_58, r157_59, r157_61, r157_62, r157_65, r157_66, r157_67, r157_70, r157_71, r157_72, r157_75, r157_78, r157_81, r157_82, r157_85, r157_86, r157_87, r157_88, r157_89, r157_90, r157_91, Nl_none, Nl_int, Nl_ref, Nl_null, Kv_some, Ki_some, Kh_some, Bk_some, Bk_void, ↓reduceIte, mrt10, mrt11, zl2, zl3, zl4, zl8, Bool.false_eq_true, my_s, my_mis, my_kept, my_before, my_aside, my_isKept, my_findings, my_tape, my_taped, my_bitsOf, my_sizes, my_numbers, my_fitting, my_leastFit, my_token, my_from, my_to, my_value, my_faultAt, ml_0, k1.2.1, lf, m_sinks]
  have L2 := lp_up (M := 157) (X := fun k (s : TS) => (37, [some (.ref 50), some (.int out), some (.int (Int32.ofNat k))], [], a, mw h s K B A Y)) (f := tnT) (P := fun _ s => Ok n s) (N := n) (fun k s hk ok => ⟨by
    have lt := ltT hk (by omega)
    show Rn 157 (37, [some (.ref 50), some (.int out), some (.int (Int32.ofNat k))], [], a, mw h s K B A Y) = Rn 157 (37, [some (.ref 50), some (.int out), some (.int (Int32.ofNat (k + 1)))], [], a, mw h (tnT k s) K B A Y)
    rw [r157_37]
    simp only [r157_0, r157_1, r157_3, r157_4, r157_7, r157_8, r157_9, r157_12, r157_13, r157_14, r157_15, r157_16, r157_17, r157_20, r157_21, r157_22, r157_25, r157_28, r157_31, r157_32, r157_35, r157_36, r157_38, r157_39, r157_42, r157_43, r157_44, r157_47, r157_48, r157_49, r157_52, r157_55, r157_58, r157_59, r157_61, r157_62, r157_65, r157_66, r157_67, r157_70, r157_71, r157_72, r157_75, r157_78, r157_81, r157_82, r157_85, r157_86, r157_87, r157_88, r157_89, r157_90, r157_91, Nl_none, Nl_int, Nl_ref, Nl_null, Kv_some, Ki_some, Kh_some, Bk_some, Bk_void, ↓reduceIte, mrt10, mrt11, zl2, zl3, zl4, zl8, Bool.false_eq_true, my_s, my_mis, my_kept, my_before, my_aside, my_isKept, my_findings, my_tape, my_taped, my_bitsOf, my_sizes, my_numbers, my_fitting, my_leastFit, my_token, my_from, my_to, my_value, my_faultAt, ml_0, ok.2.1, lt, m_takesColour ok hk, of_in], sr_tn ok hk⟩) n 0 _ (by omega) k2
  refine L2.1.trans ?_
  show Rn 157 (37, [some (.ref 50), some (.int out), some (.int (Int32.ofNat n))], [], a, mw h (tnA n (skA (blA out n S))) K B A Y) = _
  rw [r157_37]
  simp only [r157_0, r157_1, r157_3, r157_4, r157_7, r157_8, r157_9, r157_12, r157_13, r157_14, r157_15, r157_16, r157_17, r157_20, r157_21, r157_22, r157_25, r157_28, r157_31, r157_32, r157_35, r157_36, r157_38, r157_39, r157_42, r157_43, r157_44, r157_47, r157_48, r157_49, r157_52, r157_55, r157_58, r157_59, r157_61, r157_62, r157_65, r157_66, r157_67, r157_70, r157_71, r157_72, r157_75, r157_78, r157_81, r157_82, r157_85, r157_86, r157_87, r157_88, r157_89, r157_90, r157_91, Nl_none, Nl_int, Nl_ref, Nl_null, Kv_some, Ki_some, Kh_some, Bk_some, Bk_void, ↓reduceIte, mrt10, mrt11, zl2, zl3, zl4, zl8, Bool.false_eq_true, my_s, my_mis, my_kept, my_before, my_aside, my_isKept, my_findings, my_tape, my_taped, my_bitsOf, my_sizes, my_numbers, my_fitting, my_leastFit, my_token, my_from, my_to, my_value, my_faultAt, ml_0, k3.2.1, lf]
  have L3 := lp_up (M := 157) (X := fun k (s : TS) => (60, [some (.ref 50), some (.int out), some (.int (Int32.ofNat k))], [], a, mw h s K B A Y)) (f := riT) (P := fun _ s => Ok n s) (N := n) (fun k s hk ok => ⟨by
    have lt := ltT hk (by omega)
    show Rn 157 (60, [some (.ref 50), some (.int out), some (.int (Int32.ofNat k))], [], a, mw h s K B A Y) = Rn 157 (60, [some (.ref 50), some (.int out), some (.int (Int32.ofNat (k + 1)))], [], a, mw h (riT k s) K B A Y)
    rw [r157_60]
    simp only [r157_0, r157_1, r157_3, r157_4, r157_7, r157_8, r157_9, r157_12, r157_13, r157_14, r157_15, r157_16, r157_17, r157_20, r157_21, r157_22, r157_25, r157_28, r157_31, r157_32, r157_35, r157_36, r157_38, r157_39, r157_42, r157_43, r157_44, r157_47, r157_48, r157_49, r157_52, r157_55, r157_58, r157_59, r157_61, r157_62, r157_65, r157_66, r157_67, r157_70, r157_71, r157_72, r157_75, r157_78, r157_81, r157_82, r157_85, r157_86, r157_87, r157_88, r157_89, r157_90, r157_91, Nl_none, Nl_int, Nl_ref, Nl_null, Kv_some, Ki_some, Kh_some, Bk_some, Bk_void, ↓reduceIte, mrt10, mrt11, zl2, zl3, zl4, zl8, Bool.false_eq_true, my_s, my_mis, my_kept, my_before, my_aside, my_isKept, my_findings, my_tape, my_taped, my_bitsOf, my_sizes, my_numbers, my_fitting, my_leastFit, my_token, my_from, my_to, my_value, my_faultAt, ml_0, ok.2.1, lt, m_goesUp ok hk, of_in], sr_ri ok hk⟩) n 0 _ (by omega) k3
  refine L3.1.trans ?_
  show Rn 157 (60, [some (.ref 50), some (.int out), some (.int (Int32.ofNat n))], [], a, mw h (riA n (tnA n (skA (blA out n S)))) K B A Y) = _
  have ey : riA n (tnA n (skA (blA out n S))) 1 + 1 = yeS (riA n (tnA n (skA (blA out n S))) 1) := by
    rw [yr_1 ok]; exact (yeS_eq (rg_year ok).1 hy).symm
  rw [r157_60]
  simp only [r157_0, r157_1, r157_3, r157_4, r157_7, r157_8, r157_9, r157_12, r157_13, r157_14, r157_15, r157_16, r157_17, r157_20, r157_21, r157_22, r157_25, r157_28, r157_31, r157_32, r157_35, r157_36, r157_38, r157_39, r157_42, r157_43, r157_44, r157_47, r157_48, r157_49, r157_52, r157_55, r157_58, r157_59, r157_61, r157_62, r157_65, r157_66, r157_67, r157_70, r157_71, r157_72, r157_75, r157_78, r157_81, r157_82, r157_85, r157_86, r157_87, r157_88, r157_89, r157_90, r157_91, Nl_none, Nl_int, Nl_ref, Nl_null, Kv_some, Ki_some, Kh_some, Bk_some, Bk_void, ↓reduceIte, mrt10, mrt11, zl2, zl3, zl4, zl8, Bool.false_eq_true, my_s, my_mis, my_kept, my_before, my_aside, my_isKept, my_findings, my_tape, my_taped, my_bitsOf, my_sizes, my_numbers, my_fitting, my_leastFit, my_token, my_from, my_to, my_value, my_faultAt, ml_0, ml_1, mp_1, k4.2.1, lf, ey, yrT]
theorem m_goes (ok : Ok n S) (hm : m ≤ 1000) (hy : (S 1).toInt + m ≤ 99999) : Ec 158 [.ref 50, .int (Int32.ofNat m)] a (mw h S K B A Y) = some (none, a, mw h (ysT 0 n m S) K B A Y) := by
  have L := lp_up (M := 158) (X := fun k (s : TS) => (2, [some (.ref 50), some (.int (Int32.ofNat m)), some (.int (Int32.ofNat k))], [], a, mw h s K B A Y)) (f := fun _ => yrT 0 n) (P := fun k s => Ok n s ∧ (s 1).toInt ≤ (S 1).toInt + k) (N := m) (fun k s hk p => ⟨by
    have lt := ltT hk (by omega)
    have hy' : (s 1).toInt < 99999 := by have := p.2; omega
    show Rn 158 (2, [some (.ref 50), some (.int (Int32.ofNat m)), some (.int (Int32.ofNat k))], [], a, mw h s K B A Y) = Rn 158 (2, [some (.ref 50), some (.int (Int32.ofNat m)), some (.int (Int32.ofNat (k + 1)))], [], a, mw h (yrT 0 n s) K B A Y)
    rw [r158_2]
    simp only [r158_0, r158_1, r158_3, r158_4, r158_7, r158_8, r158_9, r158_12, r158_15, r158_18, Nl_none, Nl_int, Nl_ref, Nl_null, Kv_some, Ki_some, Kh_some, Bk_some, Bk_void, ↓reduceIte, mrt10, mrt11, zl2, zl3, zl4, zl8, Bool.false_eq_true, my_s, my_mis, my_kept, my_before, my_aside, my_isKept, my_findings, my_tape, my_taped, my_bitsOf, my_sizes, my_numbers, my_fitting, my_leastFit, my_token, my_from, my_to, my_value, my_faultAt, lt, m_yearBut p.1 hy', of_in], sr_yr p.1, by have := yr_yr (out := 0) p.1; have := p.2; omega⟩) m 0 S (by omega) ⟨ok, by omega⟩
  rw [Ec_go rfl]; show Rn 158 (0, [some (.ref 50), some (.int (Int32.ofNat m)), none], [], a, mw h S K B A Y) = _
  simp only [r158_0, r158_1, r158_3, r158_4, r158_7, r158_8, r158_9, r158_12, r158_15, r158_18, Nl_none, Nl_int, Nl_ref, Nl_null, Kv_some, Ki_some, Kh_some, Bk_some, Bk_void, ↓reduceIte, mrt10, mrt11, zl2, zl3, zl4, zl8, Bool.false_eq_true]
  refine L.1.trans ?_
  have lf := ltF (Nat.le_refl m) (by omega)
  show Rn 158 (2, [some (.ref 50), some (.int (Int32.ofNat m)), some (.int (Int32.ofNat m))], [], a, mw h (ysT 0 n m S) K B A Y) = _
  rw [r158_2]
  simp only [r158_0, r158_1, r158_3, r158_4, r158_7, r158_8, r158_9, r158_12, r158_15, r158_18, Nl_none, Nl_int, Nl_ref, Nl_null, Kv_some, Ki_some, Kh_some, Bk_some, Bk_void, ↓reduceIte, mrt10, mrt11, zl2, zl3, zl4, zl8, Bool.false_eq_true, lf]
theorem ys_1 {T : TS} {m : Nat} (ok : Ok n T) : (ysT out n m T 1).toInt ≤ (T 1).toInt + m :=
  (lpf_inv (f := fun _ => yrT out n) (P := fun k (s : TS) => Ok n s ∧ (s 1).toInt ≤ (T 1).toInt + k) (N := m) (fun k s hk p => ⟨sr_yr p.1, by have := yr_yr (out := out) p.1; have := p.2; omega⟩) m 0 T (by omega) ⟨ok, by omega⟩).2
/-! stirring: the reference's order -/
theorem ex_eq {T : TS} {c : Int32} (hx : isL x = true) (hy : isL y = true) (hc : isC c = true) (hxy : ¬ x = y) : mfu (mfu T (dyI y c) (T (dyI x c))) (dyI x c) (T (dyI y c)) = exF x y c T := fu_cm (dyI_ne hy hc hx hc (fun e => hxy e.1.symm))
theorem m_stirs (ok : Ok n S) (hx : isL x = true) (hy : isL y = true) (hxy : ¬ x = y) : Ec 143 [.ref 50, .int x, .int y] a (mw h S K B A Y) = some (none, a, mw h (stS x y n S) K B A Y) := by
  have h8 := ok.1
  have k0 : Ok n (exF x y 0 S) := sr_exF ok hx hy isC_0
  have k1 : Ok n (exF x y 1 (exF x y 0 S)) := sr_exF k0 hx hy isC_1
  have k2 : Ok n (exF x y 2 (exF x y 1 (exF x y 0 S))) := sr_exF k1 hx hy isC_2
  rw [Ec_go rfl]; show Rn 143 (0, [some (.ref 50), some (.int x), some (.int y), none, none], [], a, mw h S K B A Y) = _
  simp only [r143_0, r143_1, r143_2, r143_3, r143_4, r143_7, r143_8, r143_11, r143_12, r143_13, r143_14, r143_15, r143_16, r143_17, r143_18, r143_19, r143_20, r143_21, r143_22, r143_23, r143_24, r143_25, r143_26, r143_27, r143_28, r143_29, r143_32, r143_35, r143_36, r143_39, r143_42, r143_43, r143_45, r143_46, r143_49, r143_50, r143_51, r143_54, r143_55, r143_56, r143_57, r143_60, r143_62, r143_63, r143_66, r143_67, r143_68, r143_71, r143_73, r143_74, r143_77, r143_78, r143_81, r143_83, r143_84, r143_87, r143_88, r143_91, r143_93, r143_94, r143_97, r143_100, Nl_none, Nl_int, Nl_ref, Nl_null, Kv_some, Ki_some, Kh_some, Bk_some, Bk_void, ↓reduceIte, mrt10, mrt11, zl2, zl3, zl4, zl8, Bool.false_eq_true, my_s, my_mis, my_kept, my_before, my_aside, my_isKept, my_findings, my_tape, my_taped, my_bitsOf, my_sizes, my_numbers, my_fitting, my_leastFit, my_token, my_from, my_to, my_value, my_faultAt, Int32.reduceAdd, Int32.reduceSub, Int32.reduceMul, Int32.reduceLT, zqm0, zqm1, zqm2, zqm3, zqm4, zqm5, zqm6, zqm7, zqm8, zq0m, zq01, zq02, zq03, zq04, zq05, zq06, zq07, zq08, zq1m, zq10, zq12, zq13, zq14, zq15, zq16, zq17, zq18, zq2m, zq20, zq21, zq23, zq24, zq25, zq26, zq27, zq28, zq3m, zq30, zq31, zq32, zq34, zq35, zq36, zq37, zq38, zq4m, zq40, zq41, zq42, zq43, zq45, zq46, zq47, zq48, zq5m, zq50, zq51, zq52, zq53, zq54, zq56, zq57, zq58, zq6m, zq60, zq61, zq62, zq63, zq64, zq65, zq67, zq68, zq7m, zq70, zq71, zq72, zq73, zq74, zq75, zq76, zq78, zq8m, zq80, zq81, zq82, zq83, zq84, zq85, zq86, zq87, dy_ix hx isC_0, dy_ix hx isC_1, dy_ix hx isC_2, dy_ix hy isC_0, dy_ix hy isC_1, dy_ix hy isC_2, m_dyeOf hx isC_0, m_dyeOf hx isC_1, m_dyeOf hx isC_2, m_becomes (dy_lt hy isC_0), m_becomes (dy_lt hy isC_1), m_becomes (dy_lt hy isC_2), mp_s (dy_lt hx isC_0), mp_s (dy_lt hx isC_1), mp_s (dy_lt hx isC_2), ex_eq hx hy isC_0 hxy, ex_eq hx hy isC_1 hxy, ex_eq hx hy isC_2 hxy]
  have L := lp_up (M := 143) (X := fun k (s : TS × Option Value) => (44, [some (.ref 50), some (.int x), some (.int y), some (.int (Int32.ofNat k)), s.2], [], a, mw h s.1 K B A Y)) (f := fun k s => (exT x y k s.1, some (.int (s.1 (29 + 6 * k))))) (P := fun _ s => Ok n s.1) (N := n) (fun k s hk ok => ⟨by
    obtain ⟨s, u⟩ := s
    have ok : Ok n s := ok
    have k8 : k < 8 := by omega
    have lt := ltT hk (by omega)
    show Rn 143 (44, [some (.ref 50), some (.int x), some (.int y), some (.int (Int32.ofNat k)), u], [], a, mw h s K B A Y) = Rn 143 (44, [some (.ref 50), some (.int x), some (.int y), some (.int (Int32.ofNat (k + 1))), some (.int (s (29 + 6 * k)))], [], a, mw h (exT x y k s) K B A Y)
    rw [r143_44]
    by_cases q : s (29 + 6 * k) = x
    · simp only [r143_0, r143_1, r143_2, r143_3, r143_4, r143_7, r143_8, r143_11, r143_12, r143_13, r143_14, r143_15, r143_16, r143_17, r143_18, r143_19, r143_20, r143_21, r143_22, r143_23, r143_24, r143_25, r143_26, r143_27, r143_28, r143_29, r143_32, r143_35, r143_36, r143_39, r143_42, r143_43, r143_45, r143_46, r143_49, r143_50, r143_51, r143_54, r143_55, r143_56, r143_57, r143_60, r143_62, r143_63, r143_66, r143_67, r143_68, r143_71, r143_73, r143_74, r143_77, r143_78, r143_81, r143_83, r143_84, r143_87, r143_88, r143_91, r143_93, r143_94, r143_97, r143_100, Nl_none, Nl_int, Nl_ref, Nl_null, Kv_some, Ki_some, Kh_some, Bk_some, Bk_void, ↓reduceIte, mrt10, mrt11, zl2, zl3, zl4, zl8, Bool.false_eq_true, my_s, my_mis, my_kept, my_before, my_aside, my_isKept, my_findings, my_tape, my_taped, my_bitsOf, my_sizes, my_numbers, my_fitting, my_leastFit, my_token, my_from, my_to, my_value, my_faultAt, ml_0, ok.2.1, lt, m_its1 k8, m_at1, mp_th1 k8, of_in, exT, q]
    · by_cases q2 : s (29 + 6 * k) = y
      · simp only [r143_0, r143_1, r143_2, r143_3, r143_4, r143_7, r143_8, r143_11, r143_12, r143_13, r143_14, r143_15, r143_16, r143_17, r143_18, r143_19, r143_20, r143_21, r143_22, r143_23, r143_24, r143_25, r143_26, r143_27, r143_28, r143_29, r143_32, r143_35, r143_36, r143_39, r143_42, r143_43, r143_45, r143_46, r143_49, r143_50, r143_51, r143_54, r143_55, r143_56, r143_57, r143_60, r143_62, r143_63, r143_66, r143_67, r143_68, r143_71, r143_73, r143_74, r143_77, r143_78, r143_81, r143_83, r143_84, r143_87, r143_88, r143_91, r143_93, r143_94, r143_97, r143_100, Nl_none, Nl_int, Nl_ref, Nl_null, Kv_some, Ki_some, Kh_some, Bk_some, Bk_void, ↓reduceIte, mrt10, mrt11, zl2, zl3, zl4, zl8, Bool.false_eq_true, my_s, my_mis, my_kept, my_before, my_aside, my_isKept, my_findings, my_tape, my_taped, my_bitsOf, my_sizes, my_numbers, my_fitting, my_leastFit, my_token, my_from, my_to, my_value, my_faultAt, ml_0, ok.2.1, lt, m_its1 k8, m_at1, mp_th1 k8, of_in, exT, if_neg q, if_pos q2]
      · simp only [r143_0, r143_1, r143_2, r143_3, r143_4, r143_7, r143_8, r143_11, r143_12, r143_13, r143_14, r143_15, r143_16, r143_17, r143_18, r143_19, r143_20, r143_21, r143_22, r143_23, r143_24, r143_25, r143_26, r143_27, r143_28, r143_29, r143_32, r143_35, r143_36, r143_39, r143_42, r143_43, r143_45, r143_46, r143_49, r143_50, r143_51, r143_54, r143_55, r143_56, r143_57, r143_60, r143_62, r143_63, r143_66, r143_67, r143_68, r143_71, r143_73, r143_74, r143_77, r143_78, r143_81, r143_83, r143_84, r143_87, r143_88, r143_91, r143_93, r143_94, r143_97, r143_100, Nl_none, Nl_int, Nl_ref, Nl_null, Kv_some, Ki_some, Kh_some, Bk_some, Bk_void, ↓reduceIte, mrt10, mrt11, zl2, zl3, zl4, zl8, Bool.false_eq_true, my_s, my_mis, my_kept, my_before, my_aside, my_isKept, my_findings, my_tape, my_taped, my_bitsOf, my_sizes, my_numbers, my_fitting, my_leastFit, my_token, my_from, my_to, my_value, my_faultAt, ml_0, ok.2.1, lt, m_its1 k8, m_at1, mp_th1 k8, of_in, exT, q, q2], sr_exT ok hk hx hy⟩) n 0 (exF x y 2 (exF x y 1 (exF x y 0 S)), none) (by omega) k2
  have e1 : ∀ m k (s : TS × Option Value), (lpf (fun k (s : TS × Option Value) => (exT x y k s.1, some (Value.int (s.1 (29 + 6 * k))))) k m s).1 = lpf (exT x y) k m s.1 := by
    intro m
    induction m with
    | zero => intro k s; rfl
    | succ m ih => intro k s; exact ih (k + 1) _
  have e2 := e1 n 0 (exF x y 2 (exF x y 1 (exF x y 0 S)), none)
  generalize hs : lpf (fun k (s : TS × Option Value) => (exT x y k s.1, some (Value.int (s.1 (29 + 6 * k))))) 0 n (exF x y 2 (exF x y 1 (exF x y 0 S)), none) = s' at L e2
  obtain ⟨s, v⟩ := s'
  have e2 : s = stS x y n S := e2
  subst e2
  refine L.1.trans ?_
  show Rn 143 (44, [some (.ref 50), some (.int x), some (.int y), some (.int (Int32.ofNat n)), v], [], a, mw h (stS x y n S) K B A Y) = _
  have ok' : Ok n (stS x y n S) := sr_st ok hx hy
  have lf := ltF (Nat.le_refl n) (by omega)
  rw [r143_44]
  simp only [r143_0, r143_1, r143_2, r143_3, r143_4, r143_7, r143_8, r143_11, r143_12, r143_13, r143_14, r143_15, r143_16, r143_17, r143_18, r143_19, r143_20, r143_21, r143_22, r143_23, r143_24, r143_25, r143_26, r143_27, r143_28, r143_29, r143_32, r143_35, r143_36, r143_39, r143_42, r143_43, r143_45, r143_46, r143_49, r143_50, r143_51, r143_54, r143_55, r143_56, r143_57, r143_60, r143_62, r143_63, r143_66, r143_67, r143_68, r143_71, r143_73, r143_74, r143_77, r143_78, r143_81, r143_83, r143_84, r143_87, r143_88, r143_91, r143_93, r143_94, r143_97, r143_100, Nl_none, Nl_int, Nl_ref, Nl_null, Kv_some, Ki_some, Kh_some, Bk_some, Bk_void, ↓reduceIte, mrt10, mrt11, zl2, zl3, zl4, zl8, Bool.false_eq_true, my_s, my_mis, my_kept, my_before, my_aside, my_isKept, my_findings, my_tape, my_taped, my_bitsOf, my_sizes, my_numbers, my_fitting, my_leastFit, my_token, my_from, my_to, my_value, my_faultAt, ml_0, ok'.2.1, lf]
theorem co_eq {T : TS} : mfu (mfu (mfu (mfu (mfu (mfu (mfu T (28 + 6 * n) x) (29 + 6 * n) y) (30 + 6 * n) 0) (31 + 6 * n) 60) (32 + 6 * n) 0) (33 + 6 * n) 0) 0 (Int32.ofNat (n + 1)) = coS n x y T := rfl
theorem m_comes (ok : Ok n S) (hn : n < 8) : Ec 145 [.ref 50, .int x, .int y] a (mw h S K B A Y) = some (none, a, mw h (coS n x y S) K B A Y) := by
  have e1 : ∀ v1 v2 v3 v4 v5 v6 : Int32, mfu (mfu (mfu (mfu (mfu (mfu S (28 + 6 * n) v1) (29 + 6 * n) v2) (30 + 6 * n) v3) (31 + 6 * n) v4) (32 + 6 * n) v5) (33 + 6 * n) v6 0 = Int32.ofNat n := by
    intro v1 v2 v3 v4 v5 v6
    rw [fu_ne (by omega), fu_ne (by omega), fu_ne (by omega), fu_ne (by omega), fu_ne (by omega), fu_ne (by omega), ok.2.1]
  rw [Ec_go rfl]; show Rn 145 (0, [some (.ref 50), some (.int x), some (.int y), none], [], a, mw h S K B A Y) = _
  simp only [r145_0, r145_1, r145_4, r145_5, r145_6, r145_7, r145_8, r145_11, r145_12, r145_13, r145_16, r145_17, r145_18, r145_19, r145_22, r145_23, r145_24, r145_27, r145_28, r145_29, r145_30, r145_33, r145_34, r145_35, r145_38, r145_39, r145_40, r145_41, r145_44, r145_45, r145_46, r145_49, r145_51, r145_52, r145_53, r145_56, r145_57, r145_58, r145_61, r145_62, r145_63, r145_64, r145_67, r145_68, r145_69, r145_72, r145_73, r145_74, r145_75, r145_78, r145_79, r145_80, r145_81, r145_82, r145_83, r145_84, Nl_none, Nl_int, Nl_ref, Nl_null, Kv_some, Ki_some, Kh_some, Bk_some, Bk_void, ↓reduceIte, mrt10, mrt11, zl2, zl3, zl4, zl8, Bool.false_eq_true, my_s, my_mis, my_kept, my_before, my_aside, my_isKept, my_findings, my_tape, my_taped, my_bitsOf, my_sizes, my_numbers, my_fitting, my_leastFit, my_token, my_from, my_to, my_value, my_faultAt, ml_0, mp_0, ok.2.1, m_at0, m_at1, m_at2, m_at3, m_at4, m_at5, mp_th0 hn, mp_th1 hn, mp_th2 hn, mp_th3 hn, mp_th4 hn, mp_th5 hn, e1, of_in, coS]
end
