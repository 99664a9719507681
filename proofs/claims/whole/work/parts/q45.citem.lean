/-! ===== texts: the class reads words, numbers, items, a text ===== -/
def stW (j : Nat) : List Int32 := sbyt.getD j []
theorem st_dec : ∀ j < 13, (stW j).length ≤ 5 ∧ ∀ i < 5, i < (stW j).length → (((stW j).getD i 0 &&& 255).toUInt32 % 65536).toInt32 = (stW j).getD i 0 ∧ mrt 2 ((stW j).getD i 0) = true := by decide +kernel
theorem sh0 : ∀ k < 8, Int32.ofNat k >>> ((0 : Int32) &&& 31) = Int32.ofNat k := by decide
section
variable {a : MA} {h hh : MH} {T U V X W : TS} {x y z v w tk st ed nu : Int32} {n k m L p s i j : Nat}
theorem cw_st (hst : Hst h) (hj : j < 13) : cw h T U V X (1000 + j) = .inr (.inr (7, [.int 0, .ref (1100 + j)])) := by
  obtain ⟨xs, e⟩ := hst
  rw [cw_off (by omega), e (1000 + j) (by omega)]
  unfold outc
  rw [if_neg (by omega), if_neg (by omega), if_pos (by omega), show 1000 + j + 100 = 1100 + j by omega]
theorem cw_by (hst : Hst h) (hj : j < 13) : cw h T U V X (1100 + j) = .inr (.inr (10, (stW j).map Value.int)) := by
  obtain ⟨xs, e⟩ := hst
  rw [cw_off (by omega), e (1100 + j) (by omega)]
  unfold outc
  rw [if_neg (by omega), if_neg (by omega), if_neg (by omega), if_pos (by omega), show 1100 + j - 1100 = j by omega]
  rfl
theorem ss_coder (hst : Hst h) (hj : j < 13) : mgf (cw h T U V X) (1000 + j) 7 0 = some (.int 0) := by simp only [mgf, cw_st hst hj]; rfl
theorem ss_value (hst : Hst h) (hj : j < 13) : mgf (cw h T U V X) (1000 + j) 7 1 = some (.ref (1100 + j)) := by simp only [mgf, cw_st hst hj]; rfl
theorem ss_mis (hst : Hst h) (hj : j < 13) : mis (cw h T U V X) (1000 + j) 7 = true := by simp only [mis, cw_st hst hj]; rfl
theorem ss_len (hst : Hst h) (hj : j < 13) : mlen (cw h T U V X) (1100 + j) = some (Int32.ofNat (stW j).length) := by
  simp only [mlen, cw_by hst hj, List.length_map]; rfl
theorem ss_ld (hst : Hst h) (hj : j < 13) (hi : i < (stW j).length) : mld (cw h T U V X) (1100 + j) (Int32.ofNat i) true = some ((stW j).getD i 0) := by
  have d := (st_dec j hj).1
  have e := iN_of (n := i) (by omega)
  have e0 : ¬ Int32.ofNat i < 0 := by rw [of_nn (by omega)]; exact id
  unfold iN at e
  simp only [mld, cw_by hst hj, if_neg e0, e]
  rw [if_pos (Or.inr ⟨trivial, trivial⟩)]
  have g : ((stW j).map Value.int)[i]? = some (Value.int ((stW j).getD i 0)) := by
    rw [List.getElem?_map, List.getElem?_eq_getElem hi]
    show some (Value.int _) = _
    rw [List.getD_eq_getElem?_getD, List.getElem?_eq_getElem hi]; rfl
  rw [g]
theorem e_coder (hst : Hst h) (hj : j < 13) : Ec 231 [.ref (1000 + j)] a (cw h T U V X) = some (some (.int 0), a, cw h T U V X) := by
  have m3 : (mrt 3 0 = true) = True := by decide
  rw [Ec_go rfl]; show Rn 231 (0, [some (.ref (1000 + j))], [], a, cw h T U V X) = _
  simp only [r231_0, r231_3, r231_6, r231_7, r231_10, r231_13, r231_14, Nl_none, Nl_int, Nl_ref, Nl_null, Kv_some, Ki_some, Kh_some, Bk_some, Bk_void, ↓reduceIte, mrt10, mrt11, zl2, zl3, zl4, zl8, Bool.false_eq_true, Int32.reduceAdd, Int32.reduceSub, Int32.reduceMul, Int32.reduceLT, zqm0, zqm1, zqm2, zqm3, zqm4, zqm5, zqm6, zqm7, zqm8, zq0m, zq01, zq02, zq03, zq04, zq05, zq06, zq07, zq08, zq1m, zq10, zq12, zq13, zq14, zq15, zq16, zq17, zq18, zq2m, zq20, zq21, zq23, zq24, zq25, zq26, zq27, zq28, zq3m, zq30, zq31, zq32, zq34, zq35, zq36, zq37, zq38, zq4m, zq40, zq41, zq42, zq43, zq45, zq46, zq47, zq48, zq5m, zq50, zq51, zq52, zq53, zq54, zq56, zq57, zq58, zq6m, zq60, zq61, zq62, zq63, zq64, zq65, zq67, zq68, zq7m, zq70, zq71, zq72, zq73, zq74, zq75, zq76, zq78, zq8m, zq80, zq81, zq82, zq83, zq84, zq85, zq86, zq87, ss_coder hst hj, m3]
theorem e_isLatin1 (hst : Hst h) (hj : j < 13) : Ec 232 [.ref (1000 + j)] a (cw h T U V X) = some (some (.int 1), a, cw h T U V X) := by
  rw [Ec_go rfl]; show Rn 232 (0, [some (.ref (1000 + j))], [], a, cw h T U V X) = _
  simp only [r232_0, r232_3, r232_6, r232_7, r232_10, r232_13, r232_14, r232_17, r232_18, Nl_none, Nl_int, Nl_ref, Nl_null, Kv_some, Ki_some, Kh_some, Bk_some, Bk_void, ↓reduceIte, mrt10, mrt11, zl2, zl3, zl4, zl8, Bool.false_eq_true, Int32.reduceAdd, Int32.reduceSub, Int32.reduceMul, Int32.reduceLT, zqm0, zqm1, zqm2, zqm3, zqm4, zqm5, zqm6, zqm7, zqm8, zq0m, zq01, zq02, zq03, zq04, zq05, zq06, zq07, zq08, zq1m, zq10, zq12, zq13, zq14, zq15, zq16, zq17, zq18, zq2m, zq20, zq21, zq23, zq24, zq25, zq26, zq27, zq28, zq3m, zq30, zq31, zq32, zq34, zq35, zq36, zq37, zq38, zq4m, zq40, zq41, zq42, zq43, zq45, zq46, zq47, zq48, zq5m, zq50, zq51, zq52, zq53, zq54, zq56, zq57, zq58, zq6m, zq60, zq61, zq62, zq63, zq64, zq65, zq67, zq68, zq7m, zq70, zq71, zq72, zq73, zq74, zq75, zq76, zq78, zq8m, zq80, zq81, zq82, zq83, zq84, zq85, zq86, zq87, ss_coder hst hj]
theorem e_strLen (hst : Hst h) (hj : j < 13) : Ec 229 [.ref (1000 + j)] a (cw h T U V X) = some (some (.int (Int32.ofNat (stW j).length)), a, cw h T U V X) := by
  have d := (st_dec j hj).1
  rw [Ec_go rfl]; show Rn 229 (0, [some (.ref (1000 + j))], [], a, cw h T U V X) = _
  simp only [r229_0, r229_1, r229_4, r229_5, r229_6, r229_9, r229_10, Nl_none, Nl_int, Nl_ref, Nl_null, Kv_some, Ki_some, Kh_some, Bk_some, Bk_void, ↓reduceIte, mrt10, mrt11, zl2, zl3, zl4, zl8, Bool.false_eq_true, Int32.reduceAdd, Int32.reduceSub, Int32.reduceMul, Int32.reduceLT, zqm0, zqm1, zqm2, zqm3, zqm4, zqm5, zqm6, zqm7, zqm8, zq0m, zq01, zq02, zq03, zq04, zq05, zq06, zq07, zq08, zq1m, zq10, zq12, zq13, zq14, zq15, zq16, zq17, zq18, zq2m, zq20, zq21, zq23, zq24, zq25, zq26, zq27, zq28, zq3m, zq30, zq31, zq32, zq34, zq35, zq36, zq37, zq38, zq4m, zq40, zq41, zq42, zq43, zq45, zq46, zq47, zq48, zq5m, zq50, zq51, zq52, zq53, zq54, zq56, zq57, zq58, zq6m, zq60, zq61, zq62, zq63, zq64, zq65, zq67, zq68, zq7m, zq70, zq71, zq72, zq73, zq74, zq75, zq76, zq78, zq8m, zq80, zq81, zq82, zq83, zq84, zq85, zq86, zq87, ss_value hst hj, ss_len hst hj, ss_mis hst hj, e_coder hst hj, sh0 (stW j).length (by omega)]
theorem e_check3 (hi : i < k) (hk : k < 1000) : Ec 235 [.int (Int32.ofNat i), .int (Int32.ofNat k), .retAddr 0] a hh = some (some (.int (Int32.ofNat i)), a, hh) := by
  have n0 : (Int32.ofNat i < 0) = False := of_nn (by omega)
  have lt := ltT hi (by omega)
  rw [Ec_go rfl]; show Rn 235 (0, [some (.int (Int32.ofNat i)), some (.int (Int32.ofNat k)), some (.retAddr 0)], [], a, hh) = _
  simp only [r235_0, r235_1, r235_4, r235_5, r235_6, r235_9, r235_10, r235_11, r235_16, r235_17, Nl_none, Nl_int, Nl_ref, Nl_null, Kv_some, Ki_some, Kh_some, Bk_some, Bk_void, ↓reduceIte, mrt10, mrt11, zl2, zl3, zl4, zl8, Bool.false_eq_true, n0, lt]
theorem e_check2 (hi : i < k) (hk : k < 1000) : Ec 233 [.int (Int32.ofNat i), .int (Int32.ofNat k)] a hh = some (none, a, hh) := by
  rw [Ec_go rfl]; show Rn 233 (0, [some (.int (Int32.ofNat i)), some (.int (Int32.ofNat k))], [], a, hh) = _
  simp only [r233_0, r233_1, r233_2, r233_5, r233_8, r233_9, Nl_none, Nl_int, Nl_ref, Nl_null, Kv_some, Ki_some, Kh_some, Bk_some, Bk_void, ↓reduceIte, mrt10, mrt11, zl2, zl3, zl4, zl8, Bool.false_eq_true, e_check3 hi hk]
theorem e_latinAt (hst : Hst h) (hj : j < 13) (hi : i < (stW j).length) : Ec 234 [.ref (1100 + j), .int (Int32.ofNat i)] a (cw h T U V X) = some (some (.int ((stW j).getD i 0)), a, cw h T U V X) := by
  have d := st_dec j hj
  have d2 := d.2 i (by have := d.1; omega) hi
  have d3 := eq_true d2.2
  rw [Ec_go rfl]; show Rn 234 (0, [some (.ref (1100 + j)), some (.int (Int32.ofNat i))], [], a, cw h T U V X) = _
  simp only [r234_0, r234_1, r234_2, r234_3, r234_6, r234_7, r234_8, r234_9, r234_12, r234_13, r234_14, Nl_none, Nl_int, Nl_ref, Nl_null, Kv_some, Ki_some, Kh_some, Bk_some, Bk_void, ↓reduceIte, mrt10, mrt11, zl2, zl3, zl4, zl8, Bool.false_eq_true, ss_len hst hj, e_check2 hi (show (stW j).length < 1000 by omega), ss_ld hst hj hi, d2.1, d3]
theorem e_charAt (hst : Hst h) (hj : j < 13) (hi : i < (stW j).length) : Ec 230 [.ref (1000 + j), .int (Int32.ofNat i)] a (cw h T U V X) = some (some (.int ((stW j).getD i 0)), a, cw h T U V X) := by
  have d := st_dec j hj
  have d2 := d.2 i (by have := d.1; omega) hi
  have d3 := eq_true d2.2
  rw [Ec_go rfl]; show Rn 230 (0, [some (.ref (1000 + j)), some (.int (Int32.ofNat i))], [], a, cw h T U V X) = _
  simp only [r230_0, r230_1, r230_4, r230_7, r230_8, r230_11, r230_12, r230_15, r230_16, r230_17, r230_20, Nl_none, Nl_int, Nl_ref, Nl_null, Kv_some, Ki_some, Kh_some, Bk_some, Bk_void, ↓reduceIte, mrt10, mrt11, zl2, zl3, zl4, zl8, Bool.false_eq_true, Int32.reduceAdd, Int32.reduceSub, Int32.reduceMul, Int32.reduceLT, zqm0, zqm1, zqm2, zqm3, zqm4, zqm5, zqm6, zqm7, zqm8, zq0m, zq01, zq02, zq03, zq04, zq05, zq06, zq07, zq08, zq1m, zq10, zq12, zq13, zq14, zq15, zq16, zq17, zq18, zq2m, zq20, zq21, zq23, zq24, zq25, zq26, zq27, zq28, zq3m, zq30, zq31, zq32, zq34, zq35, zq36, zq37, zq38, zq4m, zq40, zq41, zq42, zq43, zq45, zq46, zq47, zq48, zq5m, zq50, zq51, zq52, zq53, zq54, zq56, zq57, zq58, zq6m, zq60, zq61, zq62, zq63, zq64, zq65, zq67, zq68, zq7m, zq70, zq71, zq72, zq73, zq74, zq75, zq76, zq78, zq8m, zq80, zq81, zq82, zq83, zq84, zq85, zq86, zq87, ss_mis hst hj, e_isLatin1 hst hj, ss_value hst hj, e_latinAt hst hj hi, d3]
theorem kcC_0 {g : Nat → Int32} : (kcC g s = 0) = (kc g s = 1) := by
  unfold kcC
  by_cases q0 : kc g s = 0
  · rw [if_pos q0, q0]; decide
  by_cases q1 : kc g s = 1
  · rw [if_neg q0, if_pos q1]; simp only [q1]
  by_cases q2 : kc g s = 2
  · rw [if_neg q0, if_neg q1, if_pos q2, q2]; decide
  by_cases q3 : kc g s = 3
  · rw [if_neg q0, if_neg q1, if_neg q2, if_pos q3, q3]; decide
  · rw [if_neg q0, if_neg q1, if_neg q2, if_neg q3]; simp only [q1]; decide
theorem kcC_1 {g : Nat → Int32} : (kcC g s = 1) = (kc g s = 2) := by
  unfold kcC
  by_cases q0 : kc g s = 0
  · rw [if_pos q0, q0]; decide
  by_cases q1 : kc g s = 1
  · rw [if_neg q0, if_pos q1, q1]; decide
  by_cases q2 : kc g s = 2
  · rw [if_neg q0, if_neg q1, if_pos q2]; simp only [q2]
  by_cases q3 : kc g s = 3
  · rw [if_neg q0, if_neg q1, if_neg q2, if_pos q3, q3]; decide
  · rw [if_neg q0, if_neg q1, if_neg q2, if_neg q3]; simp only [q2]; decide
theorem kcC_2 {g : Nat → Int32} : (kcC g s = 2) = (kc g s = 3) := by
  unfold kcC
  by_cases q0 : kc g s = 0
  · rw [if_pos q0, q0]; decide
  by_cases q1 : kc g s = 1
  · rw [if_neg q0, if_pos q1, q1]; decide
  by_cases q2 : kc g s = 2
  · rw [if_neg q0, if_neg q1, if_pos q2, q2]; decide
  by_cases q3 : kc g s = 3
  · rw [if_neg q0, if_neg q1, if_neg q2, if_pos q3]; simp only [q3]
  · rw [if_neg q0, if_neg q1, if_neg q2, if_neg q3]; simp only [q3]; decide
theorem kcC_3 {g : Nat → Int32} : (kcC g s = 3) = (kc g s = 0) := by
  unfold kcC
  by_cases q0 : kc g s = 0
  · rw [if_pos q0]; simp only [q0]
  by_cases q1 : kc g s = 1
  · rw [if_neg q0, if_pos q1, q1]; decide
  by_cases q2 : kc g s = 2
  · rw [if_neg q0, if_neg q1, if_pos q2, q2]; decide
  by_cases q3 : kc g s = 3
  · rw [if_neg q0, if_neg q1, if_neg q2, if_pos q3, q3]; decide
  · rw [if_neg q0, if_neg q1, if_neg q2, if_neg q3]; simp only [q0]; decide
theorem e_tapeX (hL : X 1 = Int32.ofNat L) (h120 : L ≤ 120) (hk : k < 2147483648) : Ec 10 [.ref 38, .int (Int32.ofNat k)] a (cw h T U V (rX (bA L X) L X s nu)) = some (some (.int (bA L X k)), a, cw h T U V (rX (bA L X) L X s nu)) := e_tapeAt hL h120 hk
theorem mt_drop {g : Nat → Int32} : ∀ (w : List Int32) (i s : Nat), i < w.length → mtB g s (w.drop i) = (decide (g s = w.getD i 0) && mtB g (s + 1) (w.drop (i + 1))) := by
  intro w i s hi
  rw [List.drop_eq_getElem_cons hi]
  show (decide (g s = w[i]) && mtB g (s + 1) (w.drop (i + 1))) = _
  rw [List.getD_eq_getElem?_getD, List.getElem?_eq_getElem hi]; rfl
theorem e_isWordL (hst : Hst h) (hj : j < 13) (hL : X 1 = Int32.ofNat L) (h120 : L ≤ 120) (hs : s ≤ L) : ∀ d i, i + d = (stW j).length → Rn 22 (27, [some (.ref 37), some (.ref (1000 + j)), some (.int (Int32.ofNat i))], [], a, cw h T U V (rX (bA L X) L X s nu)) = some (some (.int (b2i (mtB (bA L X) (s + i) ((stW j).drop i)))), a, cw h T U V (rX (bA L X) L X s nu)) := by
  have d5 := (st_dec j hj).1
  intro d
  induction d with
  | zero =>
    intro i hi
    have lf := ltF (Nat.le_refl (stW j).length) (by omega)
    obtain rfl : i = (stW j).length := by omega
    rw [List.drop_length, r22_27]
    simp only [r22_0, r22_1, r22_4, r22_7, r22_8, r22_11, r22_12, r22_15, r22_16, r22_17, r22_20, r22_23, r22_24, r22_25, r22_26, r22_28, r22_29, r22_32, r22_35, r22_36, r22_39, r22_40, r22_43, r22_44, r22_45, r22_48, r22_49, r22_50, r22_53, r22_56, r22_57, r22_58, r22_61, r22_64, r22_65, Nl_none, Nl_int, Nl_ref, Nl_null, Kv_some, Ki_some, Kh_some, Bk_some, Bk_void, ↓reduceIte, mrt10, mrt11, zl2, zl3, zl4, zl8, Bool.false_eq_true, Int32.reduceAdd, Int32.reduceSub, Int32.reduceMul, Int32.reduceLT, zqm0, zqm1, zqm2, zqm3, zqm4, zqm5, zqm6, zqm7, zqm8, zq0m, zq01, zq02, zq03, zq04, zq05, zq06, zq07, zq08, zq1m, zq10, zq12, zq13, zq14, zq15, zq16, zq17, zq18, zq2m, zq20, zq21, zq23, zq24, zq25, zq26, zq27, zq28, zq3m, zq30, zq31, zq32, zq34, zq35, zq36, zq37, zq38, zq4m, zq40, zq41, zq42, zq43, zq45, zq46, zq47, zq48, zq5m, zq50, zq51, zq52, zq53, zq54, zq56, zq57, zq58, zq6m, zq60, zq61, zq62, zq63, zq64, zq65, zq67, zq68, zq7m, zq70, zq71, zq72, zq73, zq74, zq75, zq76, zq78, zq8m, zq80, zq81, zq82, zq83, zq84, zq85, zq86, zq87, ss_mis hst hj, e_strLen hst hj, lf, mtB, b2i]
  | succ d ih =>
    intro i hi
    have hi' : i < (stW j).length := by omega
    have lt := ltT hi' (by omega)
    have f3 : rX (bA L X) L X s nu 3 = Int32.ofNat s := rfl
    have tb := e_tapeX (a := a) (h := h) (T := T) (U := U) (V := V) (s := s) (nu := nu) (k := s + i) hL h120 (by omega)
    rw [mt_drop _ _ _ hi', r22_27]
    by_cases q : bA L X (s + i) = (stW j).getD i 0
    · rw [q] at tb
      rw [decide_eq_true q, Bool.true_and]
      simp only [r22_0, r22_1, r22_4, r22_7, r22_8, r22_11, r22_12, r22_15, r22_16, r22_17, r22_20, r22_23, r22_24, r22_25, r22_26, r22_28, r22_29, r22_32, r22_35, r22_36, r22_39, r22_40, r22_43, r22_44, r22_45, r22_48, r22_49, r22_50, r22_53, r22_56, r22_57, r22_58, r22_61, r22_64, r22_65, Nl_none, Nl_int, Nl_ref, Nl_null, Kv_some, Ki_some, Kh_some, Bk_some, Bk_void, ↓reduceIte, mrt10, mrt11, zl2, zl3, zl4, zl8, Bool.false_eq_true, cx_tub, cx_trial, cx_kept, cx_isKept, cx_tape, cx_reader, cx_sheets, cx_findings, cx_mis, cx_mis37, cx_mis38, cx_bytes, cx_tlen, cx_rtape, cx_token, cx_start, cx_end, cx_number, cx_lnBytes, cx_lnSheets, cx_lnFind, Int32.reduceAdd, Int32.reduceSub, Int32.reduceMul, Int32.reduceLT, zqm0, zqm1, zqm2, zqm3, zqm4, zqm5, zqm6, zqm7, zqm8, zq0m, zq01, zq02, zq03, zq04, zq05, zq06, zq07, zq08, zq1m, zq10, zq12, zq13, zq14, zq15, zq16, zq17, zq18, zq2m, zq20, zq21, zq23, zq24, zq25, zq26, zq27, zq28, zq3m, zq30, zq31, zq32, zq34, zq35, zq36, zq37, zq38, zq4m, zq40, zq41, zq42, zq43, zq45, zq46, zq47, zq48, zq5m, zq50, zq51, zq52, zq53, zq54, zq56, zq57, zq58, zq6m, zq60, zq61, zq62, zq63, zq64, zq65, zq67, zq68, zq7m, zq70, zq71, zq72, zq73, zq74, zq75, zq76, zq78, zq8m, zq80, zq81, zq82, zq83, zq84, zq85, zq86, zq87, ss_mis hst hj, e_strLen hst hj, lt, f3, of_add, tb, e_charAt hst hj hi', of_in]
      rw [ih (i + 1) (by omega), show s + (i + 1) = s + i + 1 by omega]
    · rw [decide_eq_false q, Bool.false_and]
      simp only [r22_0, r22_1, r22_4, r22_7, r22_8, r22_11, r22_12, r22_15, r22_16, r22_17, r22_20, r22_23, r22_24, r22_25, r22_26, r22_28, r22_29, r22_32, r22_35, r22_36, r22_39, r22_40, r22_43, r22_44, r22_45, r22_48, r22_49, r22_50, r22_53, r22_56, r22_57, r22_58, r22_61, r22_64, r22_65, Nl_none, Nl_int, Nl_ref, Nl_null, Kv_some, Ki_some, Kh_some, Bk_some, Bk_void, ↓reduceIte, mrt10, mrt11, zl2, zl3, zl4, zl8, Bool.false_eq_true, cx_tub, cx_trial, cx_kept, cx_isKept, cx_tape, cx_reader, cx_sheets, cx_findings, cx_mis, cx_mis37, cx_mis38, cx_bytes, cx_tlen, cx_rtape, cx_token, cx_start, cx_end, cx_number, cx_lnBytes, cx_lnSheets, cx_lnFind, Int32.reduceAdd, Int32.reduceSub, Int32.reduceMul, Int32.reduceLT, zqm0, zqm1, zqm2, zqm3, zqm4, zqm5, zqm6, zqm7, zqm8, zq0m, zq01, zq02, zq03, zq04, zq05, zq06, zq07, zq08, zq1m, zq10, zq12, zq13, zq14, zq15, zq16, zq17, zq18, zq2m, zq20, zq21, zq23, zq24, zq25, zq26, zq27, zq28, zq3m, zq30, zq31, zq32, zq34, zq35, zq36, zq37, zq38, zq4m, zq40, zq41, zq42, zq43, zq45, zq46, zq47, zq48, zq5m, zq50, zq51, zq52, zq53, zq54, zq56, zq57, zq58, zq6m, zq60, zq61, zq62, zq63, zq64, zq65, zq67, zq68, zq7m, zq70, zq71, zq72, zq73, zq74, zq75, zq76, zq78, zq8m, zq80, zq81, zq82, zq83, zq84, zq85, zq86, zq87, ss_mis hst hj, e_strLen hst hj, lt, f3, of_add, tb, e_charAt hst hj hi', q, b2i]
theorem e_isWordJ (hst : Hst h) (hj : j < 13) (hL : X 1 = Int32.ofNat L) (h120 : L ≤ 120) (hs : s ≤ L) : Ec 22 [.ref 37, .ref (1000 + j)] a (cw h T U V (rX (bA L X) L X s nu)) = some (some (.int (b2i (wdB (bA L X) L s (stW j)))), a, cw h T U V (rX (bA L X) L X s nu)) := by
  have d5 := (st_dec j hj).1
  have e := en_le (g := bA L X) bA_hi hs
  have es : Int32.ofNat (en (bA L X) L s) - Int32.ofNat s = Int32.ofNat (en (bA L X) L s - s) := of_sub _ _ e.1
  have eq : (Int32.ofNat (en (bA L X) L s - s) = Int32.ofNat (stW j).length) = (en (bA L X) L s = s + (stW j).length) := by
    rw [of_eq (by omega) (by omega)]
    apply propext
    omega
  have f2 : rX (bA L X) L X s nu 2 = kcC (bA L X) s := rfl
  have f3 : rX (bA L X) L X s nu 3 = Int32.ofNat s := rfl
  have f4 : rX (bA L X) L X s nu 4 = Int32.ofNat (en (bA L X) L s) := rfl
  have wl := e_isWordL (a := a) (h := h) (T := T) (U := U) (V := V) (nu := nu) hst hj hL h120 hs (stW j).length 0 (by omega)
  have wl : Rn 22 (27, [some (.ref 37), some (.ref (1000 + j)), some (.int 0)], [], a, cw h T U V (rX (bA L X) L X s nu)) = some (some (.int (b2i (mtB (bA L X) s (stW j)))), a, cw h T U V (rX (bA L X) L X s nu)) := wl
  unfold wdB
  rw [Ec_go rfl]; show Rn 22 (0, [some (.ref 37), some (.ref (1000 + j)), none], [], a, cw h T U V (rX (bA L X) L X s nu)) = _
  by_cases q1 : kc (bA L X) s = 1
  · by_cases q2 : en (bA L X) L s = s + (stW j).length
    · rw [decide_eq_true q1, decide_eq_true q2, Bool.true_and, Bool.true_and]
      simp only [r22_0, r22_1, r22_4, r22_7, r22_8, r22_11, r22_12, r22_15, r22_16, r22_17, r22_20, r22_23, r22_24, r22_25, r22_26, r22_28, r22_29, r22_32, r22_35, r22_36, r22_39, r22_40, r22_43, r22_44, r22_45, r22_48, r22_49, r22_50, r22_53, r22_56, r22_57, r22_58, r22_61, r22_64, r22_65, Nl_none, Nl_int, Nl_ref, Nl_null, Kv_some, Ki_some, Kh_some, Bk_some, Bk_void, ↓reduceIte, mrt10, mrt11, zl2, zl3, zl4, zl8, Bool.false_eq_true, cx_tub, cx_trial, cx_kept, cx_isKept, cx_tape, cx_reader, cx_sheets, cx_findings, cx_mis, cx_mis37, cx_mis38, cx_bytes, cx_tlen, cx_rtape, cx_token, cx_start, cx_end, cx_number, cx_lnBytes, cx_lnSheets, cx_lnFind, Int32.reduceAdd, Int32.reduceSub, Int32.reduceMul, Int32.reduceLT, zqm0, zqm1, zqm2, zqm3, zqm4, zqm5, zqm6, zqm7, zqm8, zq0m, zq01, zq02, zq03, zq04, zq05, zq06, zq07, zq08, zq1m, zq10, zq12, zq13, zq14, zq15, zq16, zq17, zq18, zq2m, zq20, zq21, zq23, zq24, zq25, zq26, zq27, zq28, zq3m, zq30, zq31, zq32, zq34, zq35, zq36, zq37, zq38, zq4m, zq40, zq41, zq42, zq43, zq45, zq46, zq47, zq48, zq5m, zq50, zq51, zq52, zq53, zq54, zq56, zq57, zq58, zq6m, zq60, zq61, zq62, zq63, zq64, zq65, zq67, zq68, zq7m, zq70, zq71, zq72, zq73, zq74, zq75, zq76, zq78, zq8m, zq80, zq81, zq82, zq83, zq84, zq85, zq86, zq87, f2, f3, f4, kcC_0, q1, ss_mis hst hj, e_strLen hst hj, es, eq, if_pos q2]
      exact wl
    · rw [decide_eq_false q2, Bool.false_and, Bool.and_false]
      simp only [r22_0, r22_1, r22_4, r22_7, r22_8, r22_11, r22_12, r22_15, r22_16, r22_17, r22_20, r22_23, r22_24, r22_25, r22_26, r22_28, r22_29, r22_32, r22_35, r22_36, r22_39, r22_40, r22_43, r22_44, r22_45, r22_48, r22_49, r22_50, r22_53, r22_56, r22_57, r22_58, r22_61, r22_64, r22_65, Nl_none, Nl_int, Nl_ref, Nl_null, Kv_some, Ki_some, Kh_some, Bk_some, Bk_void, ↓reduceIte, mrt10, mrt11, zl2, zl3, zl4, zl8, Bool.false_eq_true, cx_tub, cx_trial, cx_kept, cx_isKept, cx_tape, cx_reader, cx_sheets, cx_findings, cx_mis, cx_mis37, cx_mis38, cx_bytes, cx_tlen, cx_rtape, cx_token, cx_start, cx_end, cx_number, cx_lnBytes, cx_lnSheets, cx_lnFind, Int32.reduceAdd, Int32.reduceSub, Int32.reduceMul, Int32.reduceLT, zqm0, zqm1, zqm2, zqm3, zqm4, zqm5, zqm6, zqm7, zqm8, zq0m, zq01, zq02, zq03, zq04, zq05, zq06, zq07, zq08, zq1m, zq10, zq12, zq13, zq14, zq15, zq16, zq17, zq18, zq2m, zq20, zq21, zq23, zq24, zq25, zq26, zq27, zq28, zq3m, zq30, zq31, zq32, zq34, zq35, zq36, zq37, zq38, zq4m, zq40, zq41, zq42, zq43, zq45, zq46, zq47, zq48, zq5m, zq50, zq51, zq52, zq53, zq54, zq56, zq57, zq58, zq6m, zq60, zq61, zq62, zq63, zq64, zq65, zq67, zq68, zq7m, zq70, zq71, zq72, zq73, zq74, zq75, zq76, zq78, zq8m, zq80, zq81, zq82, zq83, zq84, zq85, zq86, zq87, f2, f3, f4, kcC_0, q1, ss_mis hst hj, e_strLen hst hj, es, eq, if_neg q2, b2i]
  · rw [decide_eq_false q1, Bool.false_and]
    simp only [r22_0, r22_1, r22_4, r22_7, r22_8, r22_11, r22_12, r22_15, r22_16, r22_17, r22_20, r22_23, r22_24, r22_25, r22_26, r22_28, r22_29, r22_32, r22_35, r22_36, r22_39, r22_40, r22_43, r22_44, r22_45, r22_48, r22_49, r22_50, r22_53, r22_56, r22_57, r22_58, r22_61, r22_64, r22_65, Nl_none, Nl_int, Nl_ref, Nl_null, Kv_some, Ki_some, Kh_some, Bk_some, Bk_void, ↓reduceIte, mrt10, mrt11, zl2, zl3, zl4, zl8, Bool.false_eq_true, cx_tub, cx_trial, cx_kept, cx_isKept, cx_tape, cx_reader, cx_sheets, cx_findings, cx_mis, cx_mis37, cx_mis38, cx_bytes, cx_tlen, cx_rtape, cx_token, cx_start, cx_end, cx_number, cx_lnBytes, cx_lnSheets, cx_lnFind, Int32.reduceAdd, Int32.reduceSub, Int32.reduceMul, Int32.reduceLT, zqm0, zqm1, zqm2, zqm3, zqm4, zqm5, zqm6, zqm7, zqm8, zq0m, zq01, zq02, zq03, zq04, zq05, zq06, zq07, zq08, zq1m, zq10, zq12, zq13, zq14, zq15, zq16, zq17, zq18, zq2m, zq20, zq21, zq23, zq24, zq25, zq26, zq27, zq28, zq3m, zq30, zq31, zq32, zq34, zq35, zq36, zq37, zq38, zq4m, zq40, zq41, zq42, zq43, zq45, zq46, zq47, zq48, zq5m, zq50, zq51, zq52, zq53, zq54, zq56, zq57, zq58, zq6m, zq60, zq61, zq62, zq63, zq64, zq65, zq67, zq68, zq7m, zq70, zq71, zq72, zq73, zq74, zq75, zq76, zq78, zq8m, zq80, zq81, zq82, zq83, zq84, zq85, zq86, zq87, f2, kcC_0, q1, b2i]
theorem e_takeWord (hst : Hst h) (hj : j < 13) (hL : X 1 = Int32.ofNat L) (h120 : L ≤ 120) (hb : byB L X) (hs : s ≤ L) : Ec 19 [.ref 37, .ref (1000 + j)] a (cw h T U V (rX (bA L X) L X s nu)) = if wdB (bA L X) L s (stW j) = true then some (some (.int 1), a, cw h T U V (rX (bA L X) L X (nxT (bA L X) L s) (nuN (bA L X) L (nxT (bA L X) L s) nu))) else some (some (.int 0), a, cw h T U V (rX (bA L X) L X s nu)) := by
  rw [Ec_go rfl]; show Rn 19 (0, [some (.ref 37), some (.ref (1000 + j))], [], a, cw h T U V (rX (bA L X) L X s nu)) = _
  by_cases q : wdB (bA L X) L s (stW j) = true
  · simp only [r19_0, r19_1, r19_2, r19_5, r19_8, r19_9, r19_10, r19_11, r19_14, r19_15, Nl_none, Nl_int, Nl_ref, Nl_null, Kv_some, Ki_some, Kh_some, Bk_some, Bk_void, ↓reduceIte, mrt10, mrt11, zl2, zl3, zl4, zl8, Bool.false_eq_true, cx_tub, cx_trial, cx_kept, cx_isKept, cx_tape, cx_reader, cx_sheets, cx_findings, cx_mis, cx_mis37, cx_mis38, cx_bytes, cx_tlen, cx_rtape, cx_token, cx_start, cx_end, cx_number, cx_lnBytes, cx_lnSheets, cx_lnFind, Int32.reduceAdd, Int32.reduceSub, Int32.reduceMul, Int32.reduceLT, zqm0, zqm1, zqm2, zqm3, zqm4, zqm5, zqm6, zqm7, zqm8, zq0m, zq01, zq02, zq03, zq04, zq05, zq06, zq07, zq08, zq1m, zq10, zq12, zq13, zq14, zq15, zq16, zq17, zq18, zq2m, zq20, zq21, zq23, zq24, zq25, zq26, zq27, zq28, zq3m, zq30, zq31, zq32, zq34, zq35, zq36, zq37, zq38, zq4m, zq40, zq41, zq42, zq43, zq45, zq46, zq47, zq48, zq5m, zq50, zq51, zq52, zq53, zq54, zq56, zq57, zq58, zq6m, zq60, zq61, zq62, zq63, zq64, zq65, zq67, zq68, zq7m, zq70, zq71, zq72, zq73, zq74, zq75, zq76, zq78, zq8m, zq80, zq81, zq82, zq83, zq84, zq85, zq86, zq87, e_isWordJ hst hj hL h120 hs, q, b2i, c_next hL h120 hb hs]
  · simp only [r19_0, r19_1, r19_2, r19_5, r19_8, r19_9, r19_10, r19_11, r19_14, r19_15, Nl_none, Nl_int, Nl_ref, Nl_null, Kv_some, Ki_some, Kh_some, Bk_some, Bk_void, ↓reduceIte, mrt10, mrt11, zl2, zl3, zl4, zl8, Bool.false_eq_true, cx_tub, cx_trial, cx_kept, cx_isKept, cx_tape, cx_reader, cx_sheets, cx_findings, cx_mis, cx_mis37, cx_mis38, cx_bytes, cx_tlen, cx_rtape, cx_token, cx_start, cx_end, cx_number, cx_lnBytes, cx_lnSheets, cx_lnFind, Int32.reduceAdd, Int32.reduceSub, Int32.reduceMul, Int32.reduceLT, zqm0, zqm1, zqm2, zqm3, zqm4, zqm5, zqm6, zqm7, zqm8, zq0m, zq01, zq02, zq03, zq04, zq05, zq06, zq07, zq08, zq1m, zq10, zq12, zq13, zq14, zq15, zq16, zq17, zq18, zq2m, zq20, zq21, zq23, zq24, zq25, zq26, zq27, zq28, zq3m, zq30, zq31, zq32, zq34, zq35, zq36, zq37, zq38, zq4m, zq40, zq41, zq42, zq43, zq45, zq46, zq47, zq48, zq5m, zq50, zq51, zq52, zq53, zq54, zq56, zq57, zq58, zq6m, zq60, zq61, zq62, zq63, zq64, zq65, zq67, zq68, zq7m, zq70, zq71, zq72, zq73, zq74, zq75, zq76, zq78, zq8m, zq80, zq81, zq82, zq83, zq84, zq85, zq86, zq87, e_isWordJ hst hj hL h120 hs, q, b2i]
/-! numbers: the class's, capped at 1000, and the reference's -/
theorem fnd_all {q : Nat → Bool} {L p : Nat} (hp : p ≤ L) : ∀ i, p ≤ i → i < onN (fnd q p (L - p)) L → q i = false := by
  have key : ∀ m k i, k ≤ i → i < onN (fnd q k m) (k + m) → q i = false := by
    intro m
    induction m with
    | zero => intro k i h1 h2; have h2 : i < k + 0 := h2; omega
    | succ m ih =>
      intro k i h1 h2
      have h2 : i < onN (if q k = true then some k else fnd q (k + 1) m) (k + (m + 1)) := h2
      by_cases c : q k = true
      · rw [if_pos c] at h2; have h2 : i < k := h2; omega
      · rw [if_neg c] at h2
        by_cases e : i = k
        · rw [e]; simpa using c
        · exact ih (k + 1) i (by omega) (by rw [show k + 1 + m = k + (m + 1) by omega]; exact h2)
  intro i h1 h2
  exact key (L - p) p i h1 (by rw [show p + (L - p) = L by omega]; exact h2)
theorem nv_rel {g : Nat → Int32} (hs : s ≤ L) : 0 ≤ (lpf (vF g) s (enD g L s - s) 0).toInt ∧ ((lpf (vF g) s (enD g L s - s) 0).toInt ≤ 999 ∧ nvl g L s = lpf (vF g) s (enD g L s - s) 0 ∨ 999 < (lpf (vF g) s (enD g L s - s) 0).toInt ∧ nvl g L s = 1000) := by
  have le := enD_le (g := g) hs
  have dg := fnd_all (q := fun i => !wi (g i) 48 57) (p := s) hs
  have r := lpf_rel (f := vF g) (g := cF g) (P := fun k v c => s ≤ k ∧ 0 ≤ v.toInt ∧ v.toInt ≤ 9999 ∧ (v.toInt ≤ 999 ∧ c = v ∨ 999 < v.toInt ∧ c = 1000)) (N := enD g L s) (fun k v c hk ⟨hsk, h0, h9, hc⟩ => by
    have w := dg k hsk hk
    have w : wi (g k) 48 57 = true := by simpa only [Bool.not_eq_false'] using w
    have w := of_decide_eq_true w
    have e48 : (48 : Int32).toInt = 48 := by decide
    have e57 : (57 : Int32).toInt = 57 := by decide
    have e10 : (10 : Int32).toInt = 10 := by decide
    have e999 : (999 : Int32).toInt = 999 := by decide
    have e1000 : (1000 : Int32).toInt = 1000 := by decide
    rw [lt_ti, lt_ti, e48, e57] at w
    refine ⟨by omega, ?_⟩
    unfold vF cF
    rcases hc with ⟨hv, rfl⟩ | ⟨hv, rfl⟩
    · have n9 : ¬ 999 < c := by rw [lt_ti, e999]; omega
      have m1 : (10 * c).toInt = 10 * c.toInt := by rw [ti_mul (by rw [e10]; omega) (by rw [e10]; omega), e10]
      have m2 : (10 * c + g k).toInt = 10 * c.toInt + (g k).toInt := by rw [ti_add (by rw [m1]; omega) (by rw [m1]; omega), m1]
      have m3 : (10 * c + g k - 48).toInt = 10 * c.toInt + (g k).toInt - 48 := by rw [ti_sub (by rw [m2, e48]; omega) (by rw [m2, e48]; omega), m2, e48]
      rw [if_neg n9, Int32.mul_comm c 10]
      refine ⟨by rw [m3]; omega, by rw [m3]; omega, ?_⟩
      by_cases q : 1000 < 10 * c + g k - 48
      · rw [if_pos q]
        rw [lt_ti, e1000, m3] at q
        exact Or.inr ⟨by rw [m3]; omega, rfl⟩
      · rw [if_neg q]
        rw [lt_ti, e1000, m3] at q
        by_cases q2 : (10 * c + g k - 48).toInt ≤ 999
        · exact Or.inl ⟨q2, rfl⟩
        · refine Or.inr ⟨by omega, ?_⟩
          rw [eq_ti, e1000, m3]
          rw [m3] at q2
          omega
    · have n9 : 999 < v := by rw [lt_ti, e999]; omega
      have m1 : ((1000 : Int32) * 10).toInt = 10000 := by decide
      have m2 : ((1000 : Int32) * 10 + g k).toInt = 10000 + (g k).toInt := by rw [ti_add (by rw [m1]; omega) (by rw [m1]; omega), m1]
      have m3 : ((1000 : Int32) * 10 + g k - 48).toInt = 10000 + (g k).toInt - 48 := by rw [ti_sub (by rw [m2, e48]; omega) (by rw [m2, e48]; omega), m2, e48]
      have q : (1000 : Int32) < 1000 * 10 + g k - 48 := by rw [lt_ti, e1000, m3]; omega
      rw [if_pos n9, if_pos q]
      exact ⟨h0, h9, Or.inr ⟨hv, rfl⟩⟩) (enD g L s - s) s 0 0 (by omega) ⟨Nat.le_refl s, by decide, by decide, Or.inl ⟨by decide, rfl⟩⟩
  exact ⟨r.2.1, r.2.2.2⟩
theorem nm_eq {g : Nat → Int32} {hi : Int32} (hs : s ≤ L) (h9 : hi.toInt ≤ 999) (hk : kc g s = 2) : (hi < nvl g L s) = ¬ nmB g L hi s = true := by
  have r := nv_rel (g := g) hs
  have ev : vl g L s = lpf (vF g) s (enD g L s - s) 0 := if_pos hk
  have e0 : (0 : Int32).toInt = 0 := by decide
  have e1000 : (1000 : Int32).toInt = 1000 := by decide
  unfold nmB wi
  rw [decide_eq_true hk, Bool.true_and, decide_eq_true_eq, ev, lt_ti, lt_ti, lt_ti, e0]
  apply propext
  rcases r.2 with ⟨h1, h2⟩ | ⟨h1, h2⟩
  · rw [h2]; constructor
    · intro z q; omega
    · intro z; exact Decidable.byContradiction (fun q => z ⟨by omega, by omega⟩)
  · rw [h2, e1000]; constructor
    · intro z q; omega
    · intro z; omega
theorem nm_vl {g : Nat → Int32} {hi : Int32} (hs : s ≤ L) (h9 : hi.toInt ≤ 999) (hn : nmB g L hi s = true) : kc g s = 2 ∧ nvl g L s = vl g L s := by
  have hk : kc g s = 2 := by
    unfold nmB at hn
    rw [Bool.and_eq_true] at hn
    exact of_decide_eq_true hn.1
  have r := nv_rel (g := g) hs
  have ev : vl g L s = lpf (vF g) s (enD g L s - s) 0 := if_pos hk
  have n := nm_rg hn
  refine ⟨hk, ?_⟩
  rw [ev] at n ⊢
  rcases r.2 with ⟨h1, h2⟩ | ⟨h1, h2⟩
  · exact h2
  · omega
theorem e_takeNumber (hL : X 1 = Int32.ofNat L) (h120 : L ≤ 120) (hb : byB L X) (hs : s ≤ L) (gn : GN (bA L X) L s nu) (h9 : x.toInt ≤ 999) : Ec 20 [.ref 37, .int x] a (cw h T U V (rX (bA L X) L X s nu)) = if nmB (bA L X) L x s = true then some (some (.int (vl (bA L X) L s)), a, cw h T U V (rX (bA L X) L X (nxT (bA L X) L s) (nuN (bA L X) L (nxT (bA L X) L s) nu))) else some (some (.int (-1)), a, cw h T U V (rX (bA L X) L X s nu)) := by
  have f2 : rX (bA L X) L X s nu 2 = kcC (bA L X) s := rfl
  have f5 : rX (bA L X) L X s nu 5 = nu := rfl
  rw [Ec_go rfl]; show Rn 20 (0, [some (.ref 37), some (.int x), none], [], a, cw h T U V (rX (bA L X) L X s nu)) = _
  by_cases q : kc (bA L X) s = 2
  · have en := gn q
    have eq := nm_eq (hi := x) hs h9 q
    by_cases q2 : nmB (bA L X) L x s = true
    · have v := (nm_vl hs h9 q2).2
      have eq : (x < nu) = False := by rw [en, eq]; exact eq_false (fun z => z q2)
      have ev : nu = vl (bA L X) L s := en.trans v
      rw [if_pos q2]
      simp only [r20_0, r20_1, r20_4, r20_5, r20_8, r20_9, r20_12, r20_13, r20_16, r20_17, r20_18, r20_19, r20_22, r20_23, r20_24, r20_27, r20_28, Nl_none, Nl_int, Nl_ref, Nl_null, Kv_some, Ki_some, Kh_some, Bk_some, Bk_void, ↓reduceIte, mrt10, mrt11, zl2, zl3, zl4, zl8, Bool.false_eq_true, cx_tub, cx_trial, cx_kept, cx_isKept, cx_tape, cx_reader, cx_sheets, cx_findings, cx_mis, cx_mis37, cx_mis38, cx_bytes, cx_tlen, cx_rtape, cx_token, cx_start, cx_end, cx_number, cx_lnBytes, cx_lnSheets, cx_lnFind, Int32.reduceAdd, Int32.reduceSub, Int32.reduceMul, Int32.reduceLT, zqm0, zqm1, zqm2, zqm3, zqm4, zqm5, zqm6, zqm7, zqm8, zq0m, zq01, zq02, zq03, zq04, zq05, zq06, zq07, zq08, zq1m, zq10, zq12, zq13, zq14, zq15, zq16, zq17, zq18, zq2m, zq20, zq21, zq23, zq24, zq25, zq26, zq27, zq28, zq3m, zq30, zq31, zq32, zq34, zq35, zq36, zq37, zq38, zq4m, zq40, zq41, zq42, zq43, zq45, zq46, zq47, zq48, zq5m, zq50, zq51, zq52, zq53, zq54, zq56, zq57, zq58, zq6m, zq60, zq61, zq62, zq63, zq64, zq65, zq67, zq68, zq7m, zq70, zq71, zq72, zq73, zq74, zq75, zq76, zq78, zq8m, zq80, zq81, zq82, zq83, zq84, zq85, zq86, zq87, f2, f5, kcC_1, q, eq, c_next hL h120 hb hs]
      rw [← ev]
    · have eq : (x < nu) = True := by rw [en, eq]; exact eq_true q2
      rw [if_neg q2]
      simp only [r20_0, r20_1, r20_4, r20_5, r20_8, r20_9, r20_12, r20_13, r20_16, r20_17, r20_18, r20_19, r20_22, r20_23, r20_24, r20_27, r20_28, Nl_none, Nl_int, Nl_ref, Nl_null, Kv_some, Ki_some, Kh_some, Bk_some, Bk_void, ↓reduceIte, mrt10, mrt11, zl2, zl3, zl4, zl8, Bool.false_eq_true, cx_tub, cx_trial, cx_kept, cx_isKept, cx_tape, cx_reader, cx_sheets, cx_findings, cx_mis, cx_mis37, cx_mis38, cx_bytes, cx_tlen, cx_rtape, cx_token, cx_start, cx_end, cx_number, cx_lnBytes, cx_lnSheets, cx_lnFind, Int32.reduceAdd, Int32.reduceSub, Int32.reduceMul, Int32.reduceLT, zqm0, zqm1, zqm2, zqm3, zqm4, zqm5, zqm6, zqm7, zqm8, zq0m, zq01, zq02, zq03, zq04, zq05, zq06, zq07, zq08, zq1m, zq10, zq12, zq13, zq14, zq15, zq16, zq17, zq18, zq2m, zq20, zq21, zq23, zq24, zq25, zq26, zq27, zq28, zq3m, zq30, zq31, zq32, zq34, zq35, zq36, zq37, zq38, zq4m, zq40, zq41, zq42, zq43, zq45, zq46, zq47, zq48, zq5m, zq50, zq51, zq52, zq53, zq54, zq56, zq57, zq58, zq6m, zq60, zq61, zq62, zq63, zq64, zq65, zq67, zq68, zq7m, zq70, zq71, zq72, zq73, zq74, zq75, zq76, zq78, zq8m, zq80, zq81, zq82, zq83, zq84, zq85, zq86, zq87, f2, f5, kcC_1, q, eq]
  · have q2 : ¬ nmB (bA L X) L x s = true := fun z => q (by
      unfold nmB at z
      rw [Bool.and_eq_true] at z
      exact of_decide_eq_true z.1)
    rw [if_neg q2]
    simp only [r20_0, r20_1, r20_4, r20_5, r20_8, r20_9, r20_12, r20_13, r20_16, r20_17, r20_18, r20_19, r20_22, r20_23, r20_24, r20_27, r20_28, Nl_none, Nl_int, Nl_ref, Nl_null, Kv_some, Ki_some, Kh_some, Bk_some, Bk_void, ↓reduceIte, mrt10, mrt11, zl2, zl3, zl4, zl8, Bool.false_eq_true, cx_tub, cx_trial, cx_kept, cx_isKept, cx_tape, cx_reader, cx_sheets, cx_findings, cx_mis, cx_mis37, cx_mis38, cx_bytes, cx_tlen, cx_rtape, cx_token, cx_start, cx_end, cx_number, cx_lnBytes, cx_lnSheets, cx_lnFind, Int32.reduceAdd, Int32.reduceSub, Int32.reduceMul, Int32.reduceLT, zqm0, zqm1, zqm2, zqm3, zqm4, zqm5, zqm6, zqm7, zqm8, zq0m, zq01, zq02, zq03, zq04, zq05, zq06, zq07, zq08, zq1m, zq10, zq12, zq13, zq14, zq15, zq16, zq17, zq18, zq2m, zq20, zq21, zq23, zq24, zq25, zq26, zq27, zq28, zq3m, zq30, zq31, zq32, zq34, zq35, zq36, zq37, zq38, zq4m, zq40, zq41, zq42, zq43, zq45, zq46, zq47, zq48, zq5m, zq50, zq51, zq52, zq53, zq54, zq56, zq57, zq58, zq6m, zq60, zq61, zq62, zq63, zq64, zq65, zq67, zq68, zq7m, zq70, zq71, zq72, zq73, zq74, zq75, zq76, zq78, zq8m, zq80, zq81, zq82, zq83, zq84, zq85, zq86, zq87, f2, kcC_1, q]
theorem e_kindOfWord (hst : Hst h) (hL : X 1 = Int32.ofNat L) (h120 : L ≤ 120) (hs : s ≤ L) : Ec 21 [.ref 37] a (cw h T U V (rX (bA L X) L X s nu)) = some (some (.int (kwS (bA L X) L s)), a, cw h T U V (rX (bA L X) L X s nu)) := by
  have w := fun j (hj : j < 13) => e_isWordJ (a := a) (h := h) (T := T) (U := U) (V := V) (nu := nu) (j := j) hst hj hL h120 hs
  have w0 : Ec 22 [.ref 37, .ref 1000] a (cw h T U V (rX (bA L X) L X s nu)) = some (some (.int (b2i (wdB (bA L X) L s wThing))), a, cw h T U V (rX (bA L X) L X s nu)) := w 0 (by decide)
  have w1 : Ec 22 [.ref 37, .ref 1001] a (cw h T U V (rX (bA L X) L X s nu)) = some (some (.int (b2i (wdB (bA L X) L s wGlove))), a, cw h T U V (rX (bA L X) L X s nu)) := w 1 (by decide)
  have w2 : Ec 22 [.ref 37, .ref 1002] a (cw h T U V (rX (bA L X) L X s nu)) = some (some (.int (b2i (wdB (bA L X) L s wVeil))), a, cw h T U V (rX (bA L X) L X s nu)) := w 2 (by decide)
  have w3 : Ec 22 [.ref 37, .ref 1003] a (cw h T U V (rX (bA L X) L X s nu)) = some (some (.int (b2i (wdB (bA L X) L s wDress))), a, cw h T U V (rX (bA L X) L X s nu)) := w 3 (by decide)
  have w4 : Ec 22 [.ref 37, .ref 1004] a (cw h T U V (rX (bA L X) L X s nu)) = some (some (.int (b2i (wdB (bA L X) L s wDance))), a, cw h T U V (rX (bA L X) L X s nu)) := w 4 (by decide)
  have w5 : Ec 22 [.ref 37, .ref 1005] a (cw h T U V (rX (bA L X) L X s nu)) = some (some (.int (b2i (wdB (bA L X) L s wStone))), a, cw h T U V (rX (bA L X) L X s nu)) := w 5 (by decide)
  have w6 : Ec 22 [.ref 37, .ref 1006] a (cw h T U V (rX (bA L X) L X s nu)) = some (some (.int (b2i (wdB (bA L X) L s wMedal))), a, cw h T U V (rX (bA L X) L X s nu)) := w 6 (by decide)
  unfold kwS
  rw [Ec_go rfl]; show Rn 21 (0, [some (.ref 37)], [], a, cw h T U V (rX (bA L X) L X s nu)) = _
  by_cases h0 : wdB (bA L X) L s wThing = true
  · simp only [r21_0, r21_1, r21_3, r21_6, r21_9, r21_10, r21_11, r21_12, r21_14, r21_17, r21_20, r21_21, r21_22, r21_23, r21_25, r21_28, r21_31, r21_32, r21_33, r21_34, r21_36, r21_39, r21_42, r21_43, r21_44, r21_45, r21_47, r21_50, r21_53, r21_54, r21_55, r21_56, r21_58, r21_61, r21_64, r21_65, r21_66, r21_67, r21_69, r21_72, r21_75, r21_77, r21_80, r21_81, Nl_none, Nl_int, Nl_ref, Nl_null, Kv_some, Ki_some, Kh_some, Bk_some, Bk_void, ↓reduceIte, mrt10, mrt11, zl2, zl3, zl4, zl8, Bool.false_eq_true, cx_tub, cx_trial, cx_kept, cx_isKept, cx_tape, cx_reader, cx_sheets, cx_findings, cx_mis, cx_mis37, cx_mis38, cx_bytes, cx_tlen, cx_rtape, cx_token, cx_start, cx_end, cx_number, cx_lnBytes, cx_lnSheets, cx_lnFind, Int32.reduceAdd, Int32.reduceSub, Int32.reduceMul, Int32.reduceLT, zqm0, zqm1, zqm2, zqm3, zqm4, zqm5, zqm6, zqm7, zqm8, zq0m, zq01, zq02, zq03, zq04, zq05, zq06, zq07, zq08, zq1m, zq10, zq12, zq13, zq14, zq15, zq16, zq17, zq18, zq2m, zq20, zq21, zq23, zq24, zq25, zq26, zq27, zq28, zq3m, zq30, zq31, zq32, zq34, zq35, zq36, zq37, zq38, zq4m, zq40, zq41, zq42, zq43, zq45, zq46, zq47, zq48, zq5m, zq50, zq51, zq52, zq53, zq54, zq56, zq57, zq58, zq6m, zq60, zq61, zq62, zq63, zq64, zq65, zq67, zq68, zq7m, zq70, zq71, zq72, zq73, zq74, zq75, zq76, zq78, zq8m, zq80, zq81, zq82, zq83, zq84, zq85, zq86, zq87, w0, w1, w2, w3, w4, w5, w6, b2i, h0]
  by_cases h1 : wdB (bA L X) L s wGlove = true
  · simp only [r21_0, r21_1, r21_3, r21_6, r21_9, r21_10, r21_11, r21_12, r21_14, r21_17, r21_20, r21_21, r21_22, r21_23, r21_25, r21_28, r21_31, r21_32, r21_33, r21_34, r21_36, r21_39, r21_42, r21_43, r21_44, r21_45, r21_47, r21_50, r21_53, r21_54, r21_55, r21_56, r21_58, r21_61, r21_64, r21_65, r21_66, r21_67, r21_69, r21_72, r21_75, r21_77, r21_80, r21_81, Nl_none, Nl_int, Nl_ref, Nl_null, Kv_some, Ki_some, Kh_some, Bk_some, Bk_void, ↓reduceIte, mrt10, mrt11, zl2, zl3, zl4, zl8, Bool.false_eq_true, cx_tub, cx_trial, cx_kept, cx_isKept, cx_tape, cx_reader, cx_sheets, cx_findings, cx_mis, cx_mis37, cx_mis38, cx_bytes, cx_tlen, cx_rtape, cx_token, cx_start, cx_end, cx_number, cx_lnBytes, cx_lnSheets, cx_lnFind, Int32.reduceAdd, Int32.reduceSub, Int32.reduceMul, Int32.reduceLT, zqm0, zqm1, zqm2, zqm3, zqm4, zqm5, zqm6, zqm7, zqm8, zq0m, zq01, zq02, zq03, zq04, zq05, zq06, zq07, zq08, zq1m, zq10, zq12, zq13, zq14, zq15, zq16, zq17, zq18, zq2m, zq20, zq21, zq23, zq24, zq25, zq26, zq27, zq28, zq3m, zq30, zq31, zq32, zq34, zq35, zq36, zq37, zq38, zq4m, zq40, zq41, zq42, zq43, zq45, zq46, zq47, zq48, zq5m, zq50, zq51, zq52, zq53, zq54, zq56, zq57, zq58, zq6m, zq60, zq61, zq62, zq63, zq64, zq65, zq67, zq68, zq7m, zq70, zq71, zq72, zq73, zq74, zq75, zq76, zq78, zq8m, zq80, zq81, zq82, zq83, zq84, zq85, zq86, zq87, w0, w1, w2, w3, w4, w5, w6, b2i, h0, h1]
  by_cases h2 : wdB (bA L X) L s wVeil = true
  · simp only [r21_0, r21_1, r21_3, r21_6, r21_9, r21_10, r21_11, r21_12, r21_14, r21_17, r21_20, r21_21, r21_22, r21_23, r21_25, r21_28, r21_31, r21_32, r21_33, r21_34, r21_36, r21_39, r21_42, r21_43, r21_44, r21_45, r21_47, r21_50, r21_53, r21_54, r21_55, r21_56, r21_58, r21_61, r21_64, r21_65, r21_66, r21_67, r21_69, r21_72, r21_75, r21_77, r21_80, r21_81, Nl_none, Nl_int, Nl_ref, Nl_null, Kv_some, Ki_some, Kh_some, Bk_some, Bk_void, ↓reduceIte, mrt10, mrt11, zl2, zl3, zl4, zl8, Bool.false_eq_true, cx_tub, cx_trial, cx_kept, cx_isKept, cx_tape, cx_reader, cx_sheets, cx_findings, cx_mis, cx_mis37, cx_mis38, cx_bytes, cx_tlen, cx_rtape, cx_token, cx_start, cx_end, cx_number, cx_lnBytes, cx_lnSheets, cx_lnFind, Int32.reduceAdd, Int32.reduceSub, Int32.reduceMul, Int32.reduceLT, zqm0, zqm1, zqm2, zqm3, zqm4, zqm5, zqm6, zqm7, zqm8, zq0m, zq01, zq02, zq03, zq04, zq05, zq06, zq07, zq08, zq1m, zq10, zq12, zq13, zq14, zq15, zq16, zq17, zq18, zq2m, zq20, zq21, zq23, zq24, zq25, zq26, zq27, zq28, zq3m, zq30, zq31, zq32, zq34, zq35, zq36, zq37, zq38, zq4m, zq40, zq41, zq42, zq43, zq45, zq46, zq47, zq48, zq5m, zq50, zq51, zq52, zq53, zq54, zq56, zq57, zq58, zq6m, zq60, zq61, zq62, zq63, zq64, zq65, zq67, zq68, zq7m, zq70, zq71, zq72, zq73, zq74, zq75, zq76, zq78, zq8m, zq80, zq81, zq82, zq83, zq84, zq85, zq86, zq87, w0, w1, w2, w3, w4, w5, w6, b2i, h0, h1, h2]
  by_cases h3 : wdB (bA L X) L s wDress = true
  · simp only [r21_0, r21_1, r21_3, r21_6, r21_9, r21_10, r21_11, r21_12, r21_14, r21_17, r21_20, r21_21, r21_22, r21_23, r21_25, r21_28, r21_31, r21_32, r21_33, r21_34, r21_36, r21_39, r21_42, r21_43, r21_44, r21_45, r21_47, r21_50, r21_53, r21_54, r21_55, r21_56, r21_58, r21_61, r21_64, r21_65, r21_66, r21_67, r21_69, r21_72, r21_75, r21_77, r21_80, r21_81, Nl_none, Nl_int, Nl_ref, Nl_null, Kv_some, Ki_some, Kh_some, Bk_some, Bk_void, ↓reduceIte, mrt10, mrt11, zl2, zl3, zl4, zl8, Bool.false_eq_true, cx_tub, cx_trial, cx_kept, cx_isKept, cx_tape, cx_reader, cx_sheets, cx_findings, cx_mis, cx_mis37, cx_mis38, cx_bytes, cx_tlen, cx_rtape, cx_token, cx_start, cx_end, cx_number, cx_lnBytes, cx_lnSheets, cx_lnFind, Int32.reduceAdd, Int32.reduceSub, Int32.reduceMul, Int32.reduceLT, zqm0, zqm1, zqm2, zqm3, zqm4, zqm5, zqm6, zqm7, zqm8, zq0m, zq01, zq02, zq03, zq04, zq05, zq06, zq07, zq08, zq1m, zq10, zq12, zq13, zq14, zq15, zq16, zq17, zq18, zq2m, zq20, zq21, zq23, zq24, zq25, zq26, zq27, zq28, zq3m, zq30, zq31, zq32, zq34, zq35, zq36, zq37, zq38, zq4m, zq40, zq41, zq42, zq43, zq45, zq46, zq47, zq48, zq5m, zq50, zq51, zq52, zq53, zq54, zq56, zq57, zq58, zq6m, zq60, zq61, zq62, zq63, zq64, zq65, zq67, zq68, zq7m, zq70, zq71, zq72, zq73, zq74, zq75, zq76, zq78, zq8m, zq80, zq81, zq82, zq83, zq84, zq85, zq86, zq87, w0, w1, w2, w3, w4, w5, w6, b2i, h0, h1, h2, h3]
  by_cases h4 : wdB (bA L X) L s wDance = true
  · simp only [r21_0, r21_1, r21_3, r21_6, r21_9, r21_10, r21_11, r21_12, r21_14, r21_17, r21_20, r21_21, r21_22, r21_23, r21_25, r21_28, r21_31, r21_32, r21_33, r21_34, r21_36, r21_39, r21_42, r21_43, r21_44, r21_45, r21_47, r21_50, r21_53, r21_54, r21_55, r21_56, r21_58, r21_61, r21_64, r21_65, r21_66, r21_67, r21_69, r21_72, r21_75, r21_77, r21_80, r21_81, Nl_none, Nl_int, Nl_ref, Nl_null, Kv_some, Ki_some, Kh_some, Bk_some, Bk_void, ↓reduceIte, mrt10, mrt11, zl2, zl3, zl4, zl8, Bool.false_eq_true, cx_tub, cx_trial, cx_kept, cx_isKept, cx_tape, cx_reader, cx_sheets, cx_findings, cx_mis, cx_mis37, cx_mis38, cx_bytes, cx_tlen, cx_rtape, cx_token, cx_start, cx_end, cx_number, cx_lnBytes, cx_lnSheets, cx_lnFind, Int32.reduceAdd, Int32.reduceSub, Int32.reduceMul, Int32.reduceLT, zqm0, zqm1, zqm2, zqm3, zqm4, zqm5, zqm6, zqm7, zqm8, zq0m, zq01, zq02, zq03, zq04, zq05, zq06, zq07, zq08, zq1m, zq10, zq12, zq13, zq14, zq15, zq16, zq17, zq18, zq2m, zq20, zq21, zq23, zq24, zq25, zq26, zq27, zq28, zq3m, zq30, zq31, zq32, zq34, zq35, zq36, zq37, zq38, zq4m, zq40, zq41, zq42, zq43, zq45, zq46, zq47, zq48, zq5m, zq50, zq51, zq52, zq53, zq54, zq56, zq57, zq58, zq6m, zq60, zq61, zq62, zq63, zq64, zq65, zq67, zq68, zq7m, zq70, zq71, zq72, zq73, zq74, zq75, zq76, zq78, zq8m, zq80, zq81, zq82, zq83, zq84, zq85, zq86, zq87, w0, w1, w2, w3, w4, w5, w6, b2i, h0, h1, h2, h3, h4]
  by_cases h5 : wdB (bA L X) L s wStone = true
  · simp only [r21_0, r21_1, r21_3, r21_6, r21_9, r21_10, r21_11, r21_12, r21_14, r21_17, r21_20, r21_21, r21_22, r21_23, r21_25, r21_28, r21_31, r21_32, r21_33, r21_34, r21_36, r21_39, r21_42, r21_43, r21_44, r21_45, r21_47, r21_50, r21_53, r21_54, r21_55, r21_56, r21_58, r21_61, r21_64, r21_65, r21_66, r21_67, r21_69, r21_72, r21_75, r21_77, r21_80, r21_81, Nl_none, Nl_int, Nl_ref, Nl_null, Kv_some, Ki_some, Kh_some, Bk_some, Bk_void, ↓reduceIte, mrt10, mrt11, zl2, zl3, zl4, zl8, Bool.false_eq_true, cx_tub, cx_trial, cx_kept, cx_isKept, cx_tape, cx_reader, cx_sheets, cx_findings, cx_mis, cx_mis37, cx_mis38, cx_bytes, cx_tlen, cx_rtape, cx_token, cx_start, cx_end, cx_number, cx_lnBytes, cx_lnSheets, cx_lnFind, Int32.reduceAdd, Int32.reduceSub, Int32.reduceMul, Int32.reduceLT, zqm0, zqm1, zqm2, zqm3, zqm4, zqm5, zqm6, zqm7, zqm8, zq0m, zq01, zq02, zq03, zq04, zq05, zq06, zq07, zq08, zq1m, zq10, zq12, zq13, zq14, zq15, zq16, zq17, zq18, zq2m, zq20, zq21, zq23, zq24, zq25, zq26, zq27, zq28, zq3m, zq30, zq31, zq32, zq34, zq35, zq36, zq37, zq38, zq4m, zq40, zq41, zq42, zq43, zq45, zq46, zq47, zq48, zq5m, zq50, zq51, zq52, zq53, zq54, zq56, zq57, zq58, zq6m, zq60, zq61, zq62, zq63, zq64, zq65, zq67, zq68, zq7m, zq70, zq71, zq72, zq73, zq74, zq75, zq76, zq78, zq8m, zq80, zq81, zq82, zq83, zq84, zq85, zq86, zq87, w0, w1, w2, w3, w4, w5, w6, b2i, h0, h1, h2, h3, h4, h5]
  by_cases h6 : wdB (bA L X) L s wMedal = true
  · simp only [r21_0, r21_1, r21_3, r21_6, r21_9, r21_10, r21_11, r21_12, r21_14, r21_17, r21_20, r21_21, r21_22, r21_23, r21_25, r21_28, r21_31, r21_32, r21_33, r21_34, r21_36, r21_39, r21_42, r21_43, r21_44, r21_45, r21_47, r21_50, r21_53, r21_54, r21_55, r21_56, r21_58, r21_61, r21_64, r21_65, r21_66, r21_67, r21_69, r21_72, r21_75, r21_77, r21_80, r21_81, Nl_none, Nl_int, Nl_ref, Nl_null, Kv_some, Ki_some, Kh_some, Bk_some, Bk_void, ↓reduceIte, mrt10, mrt11, zl2, zl3, zl4, zl8, Bool.false_eq_true, cx_tub, cx_trial, cx_kept, cx_isKept, cx_tape, cx_reader, cx_sheets, cx_findings, cx_mis, cx_mis37, cx_mis38, cx_bytes, cx_tlen, cx_rtape, cx_token, cx_start, cx_end, cx_number, cx_lnBytes, cx_lnSheets, cx_lnFind, Int32.reduceAdd, Int32.reduceSub, Int32.reduceMul, Int32.reduceLT, zqm0, zqm1, zqm2, zqm3, zqm4, zqm5, zqm6, zqm7, zqm8, zq0m, zq01, zq02, zq03, zq04, zq05, zq06, zq07, zq08, zq1m, zq10, zq12, zq13, zq14, zq15, zq16, zq17, zq18, zq2m, zq20, zq21, zq23, zq24, zq25, zq26, zq27, zq28, zq3m, zq30, zq31, zq32, zq34, zq35, zq36, zq37, zq38, zq4m, zq40, zq41, zq42, zq43, zq45, zq46, zq47, zq48, zq5m, zq50, zq51, zq52, zq53, zq54, zq56, zq57, zq58, zq6m, zq60, zq61, zq62, zq63, zq64, zq65, zq67, zq68, zq7m, zq70, zq71, zq72, zq73, zq74, zq75, zq76, zq78, zq8m, zq80, zq81, zq82, zq83, zq84, zq85, zq86, zq87, w0, w1, w2, w3, w4, w5, w6, b2i, h0, h1, h2, h3, h4, h5, h6]
  · simp only [r21_0, r21_1, r21_3, r21_6, r21_9, r21_10, r21_11, r21_12, r21_14, r21_17, r21_20, r21_21, r21_22, r21_23, r21_25, r21_28, r21_31, r21_32, r21_33, r21_34, r21_36, r21_39, r21_42, r21_43, r21_44, r21_45, r21_47, r21_50, r21_53, r21_54, r21_55, r21_56, r21_58, r21_61, r21_64, r21_65, r21_66, r21_67, r21_69, r21_72, r21_75, r21_77, r21_80, r21_81, Nl_none, Nl_int, Nl_ref, Nl_null, Kv_some, Ki_some, Kh_some, Bk_some, Bk_void, ↓reduceIte, mrt10, mrt11, zl2, zl3, zl4, zl8, Bool.false_eq_true, cx_tub, cx_trial, cx_kept, cx_isKept, cx_tape, cx_reader, cx_sheets, cx_findings, cx_mis, cx_mis37, cx_mis38, cx_bytes, cx_tlen, cx_rtape, cx_token, cx_start, cx_end, cx_number, cx_lnBytes, cx_lnSheets, cx_lnFind, Int32.reduceAdd, Int32.reduceSub, Int32.reduceMul, Int32.reduceLT, zqm0, zqm1, zqm2, zqm3, zqm4, zqm5, zqm6, zqm7, zqm8, zq0m, zq01, zq02, zq03, zq04, zq05, zq06, zq07, zq08, zq1m, zq10, zq12, zq13, zq14, zq15, zq16, zq17, zq18, zq2m, zq20, zq21, zq23, zq24, zq25, zq26, zq27, zq28, zq3m, zq30, zq31, zq32, zq34, zq35, zq36, zq37, zq38, zq4m, zq40, zq41, zq42, zq43, zq45, zq46, zq47, zq48, zq5m, zq50, zq51, zq52, zq53, zq54, zq56, zq57, zq58, zq6m, zq60, zq61, zq62, zq63, zq64, zq65, zq67, zq68, zq7m, zq70, zq71, zq72, zq73, zq74, zq75, zq76, zq78, zq8m, zq80, zq81, zq82, zq83, zq84, zq85, zq86, zq87, w0, w1, w2, w3, w4, w5, w6, b2i, h0, h1, h2, h3, h4, h5, h6]
end
