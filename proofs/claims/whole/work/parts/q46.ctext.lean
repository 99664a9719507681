/-! ===== texts: the class reads items, a text ===== -/
def RPc (g : Nat → Int32) (L : Nat) (X : TS) (a : MA) (h : MH) (T V : TS) (r : PR) (o : Option MR) : Prop := match r with
  | .inl e => ∃ W nu, o = some (some (.int 0), a, cw h T W V (rX g L X e nu))
  | .inr (W, s) => ∃ nu, GN g L s nu ∧ o = some (some (.int 1), a, cw h T W V (rX g L X s nu))
section
variable {a : MA} {h hh : MH} {T U V X W : TS} {x y z v w tk st ed nu : Int32} {n k m L p s t i j : Nat}
theorem e_max0 (hv : ¬ x < 0) : Ec 227 [.int x, .int 0] a hh = some (some (.int x), a, hh) := by rw [e_max, if_neg hv]
theorem e_maxm : Ec 227 [.int (-1), .int 0] a hh = some (some (.int 0), a, hh) := by rw [e_max, if_pos (by decide)]
theorem nm_nn {g : Nat → Int32} {hi : Int32} (q : nmB g L hi s = true) : (vl g L s < 0) = False := by
  have := (nm_rg q).1
  rw [lt_ti]; have e0 : (0 : Int32).toInt = 0 := by decide
  rw [e0]; exact eq_false (by omega)
theorem e_mostL1 : Ec 111 [.int 1] a hh = some (some (.int 7), a, hh) := e_mostOf
theorem c_readPart1 (hst : Hst h) (hj : j < 13) (hL : X 1 = Int32.ofNat L) (h120 : L ≤ 120) (hb : byB L X) (hs : s ≤ L) (ok : Ok n W) (ht : t < n) (gn : GN (bA L X) L s nu) : RPc (bA L X) L X a h T V (prP (bA L X) L (wdB (bA L X) L s (stW j)) (29 + 6 * t) 7 W s) (Ec 15 [.ref 37, .ref 13, .int (Int32.ofNat t), .ref (1000 + j), .int 1] a (cw h T W V (rX (bA L X) L X s nu))) := by
  have a1 := nx_le (g := bA L X) bA_hi hs
  have m1 : (0 : Int32) < 0 ↔ False := by decide
  have mm : ((-1 : Int32) < 0) = True := by decide
  have tw := e_takeWord (a := a) (h := h) (T := T) (U := W) (V := V) (nu := nu) hst hj hL h120 hb hs
  unfold prP
  by_cases q : wdB (bA L X) L s (stW j) = true
  · rw [if_pos q] at tw ⊢
    have tn := e_takeNumber (a := a) (h := h) (T := T) (U := W) (V := V) (x := 7) hL h120 hb a1.2 (gn_n (nu := nu)) (by decide)
    by_cases q2 : nmB (bA L X) L 7 (nxT (bA L X) L s) = true
    · rw [if_pos q2] at tn ⊢
      refine ⟨(nuN (bA L X) L (nxT (bA L X) L (nxT (bA L X) L s)) (nuN (bA L X) L (nxT (bA L X) L s) nu)), gn_n, ?_⟩
      have bb : beS t 1 (vl (bA L X) L (nxT (bA L X) L s)) W = mfu W (29 + 6 * t) (vl (bA L X) L (nxT (bA L X) L s)) := rfl
      rw [Ec_go rfl]; show Rn 15 (0, [some (.ref 37), some (.ref 13), some (.int (Int32.ofNat t)), some (.ref (1000 + j)), some (.int 1), none], [], a, cw h T W V (rX (bA L X) L X s nu)) = _
      simp only [r15_0, r15_1, r15_2, r15_5, r15_8, r15_9, r15_10, r15_11, r15_13, r15_16, r15_19, r15_21, r15_22, r15_23, r15_25, r15_27, r15_28, r15_31, r15_34, r15_36, r15_39, r15_40, r15_43, r15_44, Nl_none, Nl_int, Nl_ref, Nl_null, Kv_some, Ki_some, Kh_some, Bk_some, Bk_void, ↓reduceIte, mrt10, mrt11, zl2, zl3, zl4, zl8, Bool.false_eq_true, cx_tub, cx_trial, cx_kept, cx_isKept, cx_tape, cx_reader, cx_sheets, cx_findings, cx_mis, cx_mis37, cx_mis38, cx_bytes, cx_tlen, cx_rtape, cx_token, cx_start, cx_end, cx_number, cx_lnBytes, cx_lnSheets, cx_lnFind, Int32.reduceAdd, Int32.reduceSub, Int32.reduceMul, Int32.reduceLT, zqm0, zqm1, zqm2, zqm3, zqm4, zqm5, zqm6, zqm7, zqm8, zq0m, zq01, zq02, zq03, zq04, zq05, zq06, zq07, zq08, zq1m, zq10, zq12, zq13, zq14, zq15, zq16, zq17, zq18, zq2m, zq20, zq21, zq23, zq24, zq25, zq26, zq27, zq28, zq3m, zq30, zq31, zq32, zq34, zq35, zq36, zq37, zq38, zq4m, zq40, zq41, zq42, zq43, zq45, zq46, zq47, zq48, zq5m, zq50, zq51, zq52, zq53, zq54, zq56, zq57, zq58, zq6m, zq60, zq61, zq62, zq63, zq64, zq65, zq67, zq68, zq7m, zq70, zq71, zq72, zq73, zq74, zq75, zq76, zq78, zq8m, zq80, zq81, zq82, zq83, zq84, zq85, zq86, zq87, mis_13, tw, e_mostL1, tn, e_max0 (of_eq_false (nm_nn q2)), e_become13 ok ht, bb, nm_nn q2]
    · rw [if_neg q2] at tn ⊢
      refine ⟨beS t 1 0 W, nuN (bA L X) L (nxT (bA L X) L s) nu, ?_⟩
      rw [Ec_go rfl]; show Rn 15 (0, [some (.ref 37), some (.ref 13), some (.int (Int32.ofNat t)), some (.ref (1000 + j)), some (.int 1), none], [], a, cw h T W V (rX (bA L X) L X s nu)) = _
      simp only [r15_0, r15_1, r15_2, r15_5, r15_8, r15_9, r15_10, r15_11, r15_13, r15_16, r15_19, r15_21, r15_22, r15_23, r15_25, r15_27, r15_28, r15_31, r15_34, r15_36, r15_39, r15_40, r15_43, r15_44, Nl_none, Nl_int, Nl_ref, Nl_null, Kv_some, Ki_some, Kh_some, Bk_some, Bk_void, ↓reduceIte, mrt10, mrt11, zl2, zl3, zl4, zl8, Bool.false_eq_true, cx_tub, cx_trial, cx_kept, cx_isKept, cx_tape, cx_reader, cx_sheets, cx_findings, cx_mis, cx_mis37, cx_mis38, cx_bytes, cx_tlen, cx_rtape, cx_token, cx_start, cx_end, cx_number, cx_lnBytes, cx_lnSheets, cx_lnFind, Int32.reduceAdd, Int32.reduceSub, Int32.reduceMul, Int32.reduceLT, zqm0, zqm1, zqm2, zqm3, zqm4, zqm5, zqm6, zqm7, zqm8, zq0m, zq01, zq02, zq03, zq04, zq05, zq06, zq07, zq08, zq1m, zq10, zq12, zq13, zq14, zq15, zq16, zq17, zq18, zq2m, zq20, zq21, zq23, zq24, zq25, zq26, zq27, zq28, zq3m, zq30, zq31, zq32, zq34, zq35, zq36, zq37, zq38, zq4m, zq40, zq41, zq42, zq43, zq45, zq46, zq47, zq48, zq5m, zq50, zq51, zq52, zq53, zq54, zq56, zq57, zq58, zq6m, zq60, zq61, zq62, zq63, zq64, zq65, zq67, zq68, zq7m, zq70, zq71, zq72, zq73, zq74, zq75, zq76, zq78, zq8m, zq80, zq81, zq82, zq83, zq84, zq85, zq86, zq87, mis_13, tw, e_mostL1, tn, e_maxm, e_become13 ok ht, mm]
  · rw [if_neg q] at tw ⊢
    refine ⟨nu, gn, ?_⟩
    rw [Ec_go rfl]; show Rn 15 (0, [some (.ref 37), some (.ref 13), some (.int (Int32.ofNat t)), some (.ref (1000 + j)), some (.int 1), none], [], a, cw h T W V (rX (bA L X) L X s nu)) = _
    simp only [r15_0, r15_1, r15_2, r15_5, r15_8, r15_9, r15_10, r15_11, r15_13, r15_16, r15_19, r15_21, r15_22, r15_23, r15_25, r15_27, r15_28, r15_31, r15_34, r15_36, r15_39, r15_40, r15_43, r15_44, Nl_none, Nl_int, Nl_ref, Nl_null, Kv_some, Ki_some, Kh_some, Bk_some, Bk_void, ↓reduceIte, mrt10, mrt11, zl2, zl3, zl4, zl8, Bool.false_eq_true, cx_tub, cx_trial, cx_kept, cx_isKept, cx_tape, cx_reader, cx_sheets, cx_findings, cx_mis, cx_mis37, cx_mis38, cx_bytes, cx_tlen, cx_rtape, cx_token, cx_start, cx_end, cx_number, cx_lnBytes, cx_lnSheets, cx_lnFind, Int32.reduceAdd, Int32.reduceSub, Int32.reduceMul, Int32.reduceLT, zqm0, zqm1, zqm2, zqm3, zqm4, zqm5, zqm6, zqm7, zqm8, zq0m, zq01, zq02, zq03, zq04, zq05, zq06, zq07, zq08, zq1m, zq10, zq12, zq13, zq14, zq15, zq16, zq17, zq18, zq2m, zq20, zq21, zq23, zq24, zq25, zq26, zq27, zq28, zq3m, zq30, zq31, zq32, zq34, zq35, zq36, zq37, zq38, zq4m, zq40, zq41, zq42, zq43, zq45, zq46, zq47, zq48, zq5m, zq50, zq51, zq52, zq53, zq54, zq56, zq57, zq58, zq6m, zq60, zq61, zq62, zq63, zq64, zq65, zq67, zq68, zq7m, zq70, zq71, zq72, zq73, zq74, zq75, zq76, zq78, zq8m, zq80, zq81, zq82, zq83, zq84, zq85, zq86, zq87, tw]
theorem e_mostL2 : Ec 111 [.int 2] a hh = some (some (.int 2), a, hh) := e_mostOf
theorem c_readPart2 (hst : Hst h) (hj : j < 13) (hL : X 1 = Int32.ofNat L) (h120 : L ≤ 120) (hb : byB L X) (hs : s ≤ L) (ok : Ok n W) (ht : t < n) (gn : GN (bA L X) L s nu) : RPc (bA L X) L X a h T V (prP (bA L X) L (wdB (bA L X) L s (stW j)) (30 + 6 * t) 2 W s) (Ec 15 [.ref 37, .ref 13, .int (Int32.ofNat t), .ref (1000 + j), .int 2] a (cw h T W V (rX (bA L X) L X s nu))) := by
  have a1 := nx_le (g := bA L X) bA_hi hs
  have m1 : (0 : Int32) < 0 ↔ False := by decide
  have mm : ((-1 : Int32) < 0) = True := by decide
  have tw := e_takeWord (a := a) (h := h) (T := T) (U := W) (V := V) (nu := nu) hst hj hL h120 hb hs
  unfold prP
  by_cases q : wdB (bA L X) L s (stW j) = true
  · rw [if_pos q] at tw ⊢
    have tn := e_takeNumber (a := a) (h := h) (T := T) (U := W) (V := V) (x := 2) hL h120 hb a1.2 (gn_n (nu := nu)) (by decide)
    by_cases q2 : nmB (bA L X) L 2 (nxT (bA L X) L s) = true
    · rw [if_pos q2] at tn ⊢
      refine ⟨(nuN (bA L X) L (nxT (bA L X) L (nxT (bA L X) L s)) (nuN (bA L X) L (nxT (bA L X) L s) nu)), gn_n, ?_⟩
      have bb : beS t 2 (vl (bA L X) L (nxT (bA L X) L s)) W = mfu W (30 + 6 * t) (vl (bA L X) L (nxT (bA L X) L s)) := rfl
      rw [Ec_go rfl]; show Rn 15 (0, [some (.ref 37), some (.ref 13), some (.int (Int32.ofNat t)), some (.ref (1000 + j)), some (.int 2), none], [], a, cw h T W V (rX (bA L X) L X s nu)) = _
      simp only [r15_0, r15_1, r15_2, r15_5, r15_8, r15_9, r15_10, r15_11, r15_13, r15_16, r15_19, r15_21, r15_22, r15_23, r15_25, r15_27, r15_28, r15_31, r15_34, r15_36, r15_39, r15_40, r15_43, r15_44, Nl_none, Nl_int, Nl_ref, Nl_null, Kv_some, Ki_some, Kh_some, Bk_some, Bk_void, ↓reduceIte, mrt10, mrt11, zl2, zl3, zl4, zl8, Bool.false_eq_true, cx_tub, cx_trial, cx_kept, cx_isKept, cx_tape, cx_reader, cx_sheets, cx_findings, cx_mis, cx_mis37, cx_mis38, cx_bytes, cx_tlen, cx_rtape, cx_token, cx_start, cx_end, cx_number, cx_lnBytes, cx_lnSheets, cx_lnFind, Int32.reduceAdd, Int32.reduceSub, Int32.reduceMul, Int32.reduceLT, zqm0, zqm1, zqm2, zqm3, zqm4, zqm5, zqm6, zqm7, zqm8, zq0m, zq01, zq02, zq03, zq04, zq05, zq06, zq07, zq08, zq1m, zq10, zq12, zq13, zq14, zq15, zq16, zq17, zq18, zq2m, zq20, zq21, zq23, zq24, zq25, zq26, zq27, zq28, zq3m, zq30, zq31, zq32, zq34, zq35, zq36, zq37, zq38, zq4m, zq40, zq41, zq42, zq43, zq45, zq46, zq47, zq48, zq5m, zq50, zq51, zq52, zq53, zq54, zq56, zq57, zq58, zq6m, zq60, zq61, zq62, zq63, zq64, zq65, zq67, zq68, zq7m, zq70, zq71, zq72, zq73, zq74, zq75, zq76, zq78, zq8m, zq80, zq81, zq82, zq83, zq84, zq85, zq86, zq87, mis_13, tw, e_mostL2, tn, e_max0 (of_eq_false (nm_nn q2)), e_become13 ok ht, bb, nm_nn q2]
    · rw [if_neg q2] at tn ⊢
      refine ⟨beS t 2 0 W, nuN (bA L X) L (nxT (bA L X) L s) nu, ?_⟩
      rw [Ec_go rfl]; show Rn 15 (0, [some (.ref 37), some (.ref 13), some (.int (Int32.ofNat t)), some (.ref (1000 + j)), some (.int 2), none], [], a, cw h T W V (rX (bA L X) L X s nu)) = _
      simp only [r15_0, r15_1, r15_2, r15_5, r15_8, r15_9, r15_10, r15_11, r15_13, r15_16, r15_19, r15_21, r15_22, r15_23, r15_25, r15_27, r15_28, r15_31, r15_34, r15_36, r15_39, r15_40, r15_43, r15_44, Nl_none, Nl_int, Nl_ref, Nl_null, Kv_some, Ki_some, Kh_some, Bk_some, Bk_void, ↓reduceIte, mrt10, mrt11, zl2, zl3, zl4, zl8, Bool.false_eq_true, cx_tub, cx_trial, cx_kept, cx_isKept, cx_tape, cx_reader, cx_sheets, cx_findings, cx_mis, cx_mis37, cx_mis38, cx_bytes, cx_tlen, cx_rtape, cx_token, cx_start, cx_end, cx_number, cx_lnBytes, cx_lnSheets, cx_lnFind, Int32.reduceAdd, Int32.reduceSub, Int32.reduceMul, Int32.reduceLT, zqm0, zqm1, zqm2, zqm3, zqm4, zqm5, zqm6, zqm7, zqm8, zq0m, zq01, zq02, zq03, zq04, zq05, zq06, zq07, zq08, zq1m, zq10, zq12, zq13, zq14, zq15, zq16, zq17, zq18, zq2m, zq20, zq21, zq23, zq24, zq25, zq26, zq27, zq28, zq3m, zq30, zq31, zq32, zq34, zq35, zq36, zq37, zq38, zq4m, zq40, zq41, zq42, zq43, zq45, zq46, zq47, zq48, zq5m, zq50, zq51, zq52, zq53, zq54, zq56, zq57, zq58, zq6m, zq60, zq61, zq62, zq63, zq64, zq65, zq67, zq68, zq7m, zq70, zq71, zq72, zq73, zq74, zq75, zq76, zq78, zq8m, zq80, zq81, zq82, zq83, zq84, zq85, zq86, zq87, mis_13, tw, e_mostL2, tn, e_maxm, e_become13 ok ht, mm]
  · rw [if_neg q] at tw ⊢
    refine ⟨nu, gn, ?_⟩
    rw [Ec_go rfl]; show Rn 15 (0, [some (.ref 37), some (.ref 13), some (.int (Int32.ofNat t)), some (.ref (1000 + j)), some (.int 2), none], [], a, cw h T W V (rX (bA L X) L X s nu)) = _
    simp only [r15_0, r15_1, r15_2, r15_5, r15_8, r15_9, r15_10, r15_11, r15_13, r15_16, r15_19, r15_21, r15_22, r15_23, r15_25, r15_27, r15_28, r15_31, r15_34, r15_36, r15_39, r15_40, r15_43, r15_44, Nl_none, Nl_int, Nl_ref, Nl_null, Kv_some, Ki_some, Kh_some, Bk_some, Bk_void, ↓reduceIte, mrt10, mrt11, zl2, zl3, zl4, zl8, Bool.false_eq_true, cx_tub, cx_trial, cx_kept, cx_isKept, cx_tape, cx_reader, cx_sheets, cx_findings, cx_mis, cx_mis37, cx_mis38, cx_bytes, cx_tlen, cx_rtape, cx_token, cx_start, cx_end, cx_number, cx_lnBytes, cx_lnSheets, cx_lnFind, Int32.reduceAdd, Int32.reduceSub, Int32.reduceMul, Int32.reduceLT, zqm0, zqm1, zqm2, zqm3, zqm4, zqm5, zqm6, zqm7, zqm8, zq0m, zq01, zq02, zq03, zq04, zq05, zq06, zq07, zq08, zq1m, zq10, zq12, zq13, zq14, zq15, zq16, zq17, zq18, zq2m, zq20, zq21, zq23, zq24, zq25, zq26, zq27, zq28, zq3m, zq30, zq31, zq32, zq34, zq35, zq36, zq37, zq38, zq4m, zq40, zq41, zq42, zq43, zq45, zq46, zq47, zq48, zq5m, zq50, zq51, zq52, zq53, zq54, zq56, zq57, zq58, zq6m, zq60, zq61, zq62, zq63, zq64, zq65, zq67, zq68, zq7m, zq70, zq71, zq72, zq73, zq74, zq75, zq76, zq78, zq8m, zq80, zq81, zq82, zq83, zq84, zq85, zq86, zq87, tw]
theorem e_mostL3 : Ec 111 [.int 3] a hh = some (some (.int 999), a, hh) := e_mostOf
theorem c_readPart3 (hst : Hst h) (hj : j < 13) (hL : X 1 = Int32.ofNat L) (h120 : L ≤ 120) (hb : byB L X) (hs : s ≤ L) (ok : Ok n W) (ht : t < n) (gn : GN (bA L X) L s nu) : RPc (bA L X) L X a h T V (prP (bA L X) L (wdB (bA L X) L s (stW j)) (31 + 6 * t) 999 W s) (Ec 15 [.ref 37, .ref 13, .int (Int32.ofNat t), .ref (1000 + j), .int 3] a (cw h T W V (rX (bA L X) L X s nu))) := by
  have a1 := nx_le (g := bA L X) bA_hi hs
  have m1 : (0 : Int32) < 0 ↔ False := by decide
  have mm : ((-1 : Int32) < 0) = True := by decide
  have tw := e_takeWord (a := a) (h := h) (T := T) (U := W) (V := V) (nu := nu) hst hj hL h120 hb hs
  unfold prP
  by_cases q : wdB (bA L X) L s (stW j) = true
  · rw [if_pos q] at tw ⊢
    have tn := e_takeNumber (a := a) (h := h) (T := T) (U := W) (V := V) (x := 999) hL h120 hb a1.2 (gn_n (nu := nu)) (by decide)
    by_cases q2 : nmB (bA L X) L 999 (nxT (bA L X) L s) = true
    · rw [if_pos q2] at tn ⊢
      refine ⟨(nuN (bA L X) L (nxT (bA L X) L (nxT (bA L X) L s)) (nuN (bA L X) L (nxT (bA L X) L s) nu)), gn_n, ?_⟩
      have bb : beS t 3 (vl (bA L X) L (nxT (bA L X) L s)) W = mfu W (31 + 6 * t) (vl (bA L X) L (nxT (bA L X) L s)) := rfl
      rw [Ec_go rfl]; show Rn 15 (0, [some (.ref 37), some (.ref 13), some (.int (Int32.ofNat t)), some (.ref (1000 + j)), some (.int 3), none], [], a, cw h T W V (rX (bA L X) L X s nu)) = _
      simp only [r15_0, r15_1, r15_2, r15_5, r15_8, r15_9, r15_10, r15_11, r15_13, r15_16, r15_19, r15_21, r15_22, r15_23, r15_25, r15_27, r15_28, r15_31, r15_34, r15_36, r15_39, r15_40, r15_43, r15_44, Nl_none, Nl_int, Nl_ref, Nl_null, Kv_some, Ki_some, Kh_some, Bk_some, Bk_void, ↓reduceIte, mrt10, mrt11, zl2, zl3, zl4, zl8, Bool.false_eq_true, cx_tub, cx_trial, cx_kept, cx_isKept, cx_tape, cx_reader, cx_sheets, cx_findings, cx_mis, cx_mis37, cx_mis38, cx_bytes, cx_tlen, cx_rtape, cx_token, cx_start, cx_end, cx_number, cx_lnBytes, cx_lnSheets, cx_lnFind, Int32.reduceAdd, Int32.reduceSub, Int32.reduceMul, Int32.reduceLT, zqm0, zqm1, zqm2, zqm3, zqm4, zqm5, zqm6, zqm7, zqm8, zq0m, zq01, zq02, zq03, zq04, zq05, zq06, zq07, zq08, zq1m, zq10, zq12, zq13, zq14, zq15, zq16, zq17, zq18, zq2m, zq20, zq21, zq23, zq24, zq25, zq26, zq27, zq28, zq3m, zq30, zq31, zq32, zq34, zq35, zq36, zq37, zq38, zq4m, zq40, zq41, zq42, zq43, zq45, zq46, zq47, zq48, zq5m, zq50, zq51, zq52, zq53, zq54, zq56, zq57, zq58, zq6m, zq60, zq61, zq62, zq63, zq64, zq65, zq67, zq68, zq7m, zq70, zq71, zq72, zq73, zq74, zq75, zq76, zq78, zq8m, zq80, zq81, zq82, zq83, zq84, zq85, zq86, zq87, mis_13, tw, e_mostL3, tn, e_max0 (of_eq_false (nm_nn q2)), e_become13 ok ht, bb, nm_nn q2]
    · rw [if_neg q2] at tn ⊢
      refine ⟨beS t 3 0 W, nuN (bA L X) L (nxT (bA L X) L s) nu, ?_⟩
      rw [Ec_go rfl]; show Rn 15 (0, [some (.ref 37), some (.ref 13), some (.int (Int32.ofNat t)), some (.ref (1000 + j)), some (.int 3), none], [], a, cw h T W V (rX (bA L X) L X s nu)) = _
      simp only [r15_0, r15_1, r15_2, r15_5, r15_8, r15_9, r15_10, r15_11, r15_13, r15_16, r15_19, r15_21, r15_22, r15_23, r15_25, r15_27, r15_28, r15_31, r15_34, r15_36, r15_39, r15_40, r15_43, r15_44, Nl_none, Nl_int, Nl_ref, Nl_null, Kv_some, Ki_some, Kh_some, Bk_some, Bk_void, ↓reduceIte, mrt10, mrt11, zl2, zl3, zl4, zl8, Bool.false_eq_true, cx_tub, cx_trial, cx_kept, cx_isKept, cx_tape, cx_reader, cx_sheets, cx_findings, cx_mis, cx_mis37, cx_mis38, cx_bytes, cx_tlen, cx_rtape, cx_token, cx_start, cx_end, cx_number, cx_lnBytes, cx_lnSheets, cx_lnFind, Int32.reduceAdd, Int32.reduceSub, Int32.reduceMul, Int32.reduceLT, zqm0, zqm1, zqm2, zqm3, zqm4, zqm5, zqm6, zqm7, zqm8, zq0m, zq01, zq02, zq03, zq04, zq05, zq06, zq07, zq08, zq1m, zq10, zq12, zq13, zq14, zq15, zq16, zq17, zq18, zq2m, zq20, zq21, zq23, zq24, zq25, zq26, zq27, zq28, zq3m, zq30, zq31, zq32, zq34, zq35, zq36, zq37, zq38, zq4m, zq40, zq41, zq42, zq43, zq45, zq46, zq47, zq48, zq5m, zq50, zq51, zq52, zq53, zq54, zq56, zq57, zq58, zq6m, zq60, zq61, zq62, zq63, zq64, zq65, zq67, zq68, zq7m, zq70, zq71, zq72, zq73, zq74, zq75, zq76, zq78, zq8m, zq80, zq81, zq82, zq83, zq84, zq85, zq86, zq87, mis_13, tw, e_mostL3, tn, e_maxm, e_become13 ok ht, mm]
  · rw [if_neg q] at tw ⊢
    refine ⟨nu, gn, ?_⟩
    rw [Ec_go rfl]; show Rn 15 (0, [some (.ref 37), some (.ref 13), some (.int (Int32.ofNat t)), some (.ref (1000 + j)), some (.int 3), none], [], a, cw h T W V (rX (bA L X) L X s nu)) = _
    simp only [r15_0, r15_1, r15_2, r15_5, r15_8, r15_9, r15_10, r15_11, r15_13, r15_16, r15_19, r15_21, r15_22, r15_23, r15_25, r15_27, r15_28, r15_31, r15_34, r15_36, r15_39, r15_40, r15_43, r15_44, Nl_none, Nl_int, Nl_ref, Nl_null, Kv_some, Ki_some, Kh_some, Bk_some, Bk_void, ↓reduceIte, mrt10, mrt11, zl2, zl3, zl4, zl8, Bool.false_eq_true, cx_tub, cx_trial, cx_kept, cx_isKept, cx_tape, cx_reader, cx_sheets, cx_findings, cx_mis, cx_mis37, cx_mis38, cx_bytes, cx_tlen, cx_rtape, cx_token, cx_start, cx_end, cx_number, cx_lnBytes, cx_lnSheets, cx_lnFind, Int32.reduceAdd, Int32.reduceSub, Int32.reduceMul, Int32.reduceLT, zqm0, zqm1, zqm2, zqm3, zqm4, zqm5, zqm6, zqm7, zqm8, zq0m, zq01, zq02, zq03, zq04, zq05, zq06, zq07, zq08, zq1m, zq10, zq12, zq13, zq14, zq15, zq16, zq17, zq18, zq2m, zq20, zq21, zq23, zq24, zq25, zq26, zq27, zq28, zq3m, zq30, zq31, zq32, zq34, zq35, zq36, zq37, zq38, zq4m, zq40, zq41, zq42, zq43, zq45, zq46, zq47, zq48, zq5m, zq50, zq51, zq52, zq53, zq54, zq56, zq57, zq58, zq6m, zq60, zq61, zq62, zq63, zq64, zq65, zq67, zq68, zq7m, zq70, zq71, zq72, zq73, zq74, zq75, zq76, zq78, zq8m, zq80, zq81, zq82, zq83, zq84, zq85, zq86, zq87, tw]
theorem c_readThing (hst : Hst h) (hL : X 1 = Int32.ofNat L) (h120 : L ≤ 120) (hb : byB L X) (hs : s ≤ L) (ok : Ok n W) (hk : 0 ≤ x.toInt ∧ x.toInt ≤ 6) : RPc (bA L X) L X a h T V (thP (bA L X) L n x W s) (Ec 14 [.ref 37, .ref 13, .int x] a (cw h T W V (rX (bA L X) L X s nu))) := by
  have a1 := nx_le (g := bA L X) bA_hi hs
  unfold thP
  by_cases hn : n < 8
  · rw [if_pos hn]
    have ef : decide (¬ n < 8) = false := decide_eq_false (fun q => q hn)
    have k0 : Ok (n + 1) (coS n x 0 W) := sr_co ok hn hk isL_0
    have nt : n < n + 1 := by omega
    have p1 := c_readPart1 (a := a) (h := h) (T := T) (V := V) (j := 7) hst (by decide) hL h120 hb a1.2 k0 nt (gn_n (nu := nu))
    have p1 : RPc (bA L X) L X a h T V (prP (bA L X) L (wdB (bA L X) L (nxT (bA L X) L s) wIn) (29 + 6 * n) 7 (coS n x 0 W) (nxT (bA L X) L s)) (Ec 15 [.ref 37, .ref 13, .int (Int32.ofNat n), .ref 1007, .int 1] a (cw h T (coS n x 0 W) V (rX (bA L X) L X (nxT (bA L X) L s) (nuN (bA L X) L (nxT (bA L X) L s) nu)))) := p1
    have o1 := sr_pr (g := bA L X) (c := wdB (bA L X) L (nxT (bA L X) L s) wIn) (p := 29 + 6 * n) (hi := 7) bA_hi a1.2 k0 (by omega) (hb_layer hn)
    unfold th1 bdP
    cases c1 : prP (bA L X) L (wdB (bA L X) L (nxT (bA L X) L s) wIn) (29 + 6 * n) 7 (coS n x 0 W) (nxT (bA L X) L s) with
    | inl e =>
      rw [c1] at p1
      obtain ⟨W', nu', p1⟩ := p1
      refine ⟨W', nu', ?_⟩
      rw [Ec_go rfl]; show Rn 14 (0, [some (.ref 37), some (.ref 13), some (.int x), none], [], a, cw h T W V (rX (bA L X) L X s nu)) = _
      simp only [r14_0, r14_1, r14_4, r14_7, r14_8, r14_9, r14_10, r14_13, r14_14, r14_17, r14_18, r14_19, r14_20, r14_21, r14_24, r14_25, r14_26, r14_27, r14_29, r14_30, r14_33, r14_36, r14_37, r14_38, r14_39, r14_41, r14_42, r14_45, r14_48, r14_49, r14_50, r14_51, r14_53, r14_54, r14_57, r14_60, r14_61, r14_64, r14_65, Nl_none, Nl_int, Nl_ref, Nl_null, Kv_some, Ki_some, Kh_some, Bk_some, Bk_void, ↓reduceIte, mrt10, mrt11, zl2, zl3, zl4, zl8, Bool.false_eq_true, cx_tub, cx_trial, cx_kept, cx_isKept, cx_tape, cx_reader, cx_sheets, cx_findings, cx_mis, cx_mis37, cx_mis38, cx_bytes, cx_tlen, cx_rtape, cx_token, cx_start, cx_end, cx_number, cx_lnBytes, cx_lnSheets, cx_lnFind, Int32.reduceAdd, Int32.reduceSub, Int32.reduceMul, Int32.reduceLT, zqm0, zqm1, zqm2, zqm3, zqm4, zqm5, zqm6, zqm7, zqm8, zq0m, zq01, zq02, zq03, zq04, zq05, zq06, zq07, zq08, zq1m, zq10, zq12, zq13, zq14, zq15, zq16, zq17, zq18, zq2m, zq20, zq21, zq23, zq24, zq25, zq26, zq27, zq28, zq3m, zq30, zq31, zq32, zq34, zq35, zq36, zq37, zq38, zq4m, zq40, zq41, zq42, zq43, zq45, zq46, zq47, zq48, zq5m, zq50, zq51, zq52, zq53, zq54, zq56, zq57, zq58, zq6m, zq60, zq61, zq62, zq63, zq64, zq65, zq67, zq68, zq7m, zq70, zq71, zq72, zq73, zq74, zq75, zq76, zq78, zq8m, zq80, zq81, zq82, zq83, zq84, zq85, zq86, zq87, mis_13, e_isFull13 ok, ef, b2i, c_next hL h120 hb hs, gt_count13, ok.2.1, e_add13 ok hn, p1]
    | inr r1 =>
      obtain ⟨T1, s1⟩ := r1
      rw [c1] at p1 o1
      obtain ⟨nu1, gn1, p1⟩ := p1
      have o1 : s1 = s1 ∧ SR (n + 1) T1 T1 ∧ nxT (bA L X) L s ≤ s1 ∧ s1 ≤ L := o1
      have k1 : Ok (n + 1) T1 := o1.2.1
      show RPc _ _ _ _ _ _ _ (th2 (bA L X) L n T1 s1) _
      have p2 := c_readPart2 (a := a) (h := h) (T := T) (V := V) (j := 8) hst (by decide) hL h120 hb o1.2.2.2 k1 nt gn1
      have p2 : RPc (bA L X) L X a h T V (prP (bA L X) L (wdB (bA L X) L s1 wOf) (30 + 6 * n) 2 T1 s1) (Ec 15 [.ref 37, .ref 13, .int (Int32.ofNat n), .ref 1008, .int 2] a (cw h T T1 V (rX (bA L X) L X s1 nu1))) := p2
      have o2 := sr_pr (g := bA L X) (c := wdB (bA L X) L s1 wOf) (p := 30 + 6 * n) (hi := 2) bA_hi o1.2.2.2 k1 (by omega) (hb_colour hn)
      unfold th2 bdP
      cases c2 : prP (bA L X) L (wdB (bA L X) L s1 wOf) (30 + 6 * n) 2 T1 s1 with
      | inl e =>
        rw [c2] at p2
        obtain ⟨W', nu', p2⟩ := p2
        refine ⟨W', nu', ?_⟩
        rw [Ec_go rfl]; show Rn 14 (0, [some (.ref 37), some (.ref 13), some (.int x), none], [], a, cw h T W V (rX (bA L X) L X s nu)) = _
        simp only [r14_0, r14_1, r14_4, r14_7, r14_8, r14_9, r14_10, r14_13, r14_14, r14_17, r14_18, r14_19, r14_20, r14_21, r14_24, r14_25, r14_26, r14_27, r14_29, r14_30, r14_33, r14_36, r14_37, r14_38, r14_39, r14_41, r14_42, r14_45, r14_48, r14_49, r14_50, r14_51, r14_53, r14_54, r14_57, r14_60, r14_61, r14_64, r14_65, Nl_none, Nl_int, Nl_ref, Nl_null, Kv_some, Ki_some, Kh_some, Bk_some, Bk_void, ↓reduceIte, mrt10, mrt11, zl2, zl3, zl4, zl8, Bool.false_eq_true, cx_tub, cx_trial, cx_kept, cx_isKept, cx_tape, cx_reader, cx_sheets, cx_findings, cx_mis, cx_mis37, cx_mis38, cx_bytes, cx_tlen, cx_rtape, cx_token, cx_start, cx_end, cx_number, cx_lnBytes, cx_lnSheets, cx_lnFind, Int32.reduceAdd, Int32.reduceSub, Int32.reduceMul, Int32.reduceLT, zqm0, zqm1, zqm2, zqm3, zqm4, zqm5, zqm6, zqm7, zqm8, zq0m, zq01, zq02, zq03, zq04, zq05, zq06, zq07, zq08, zq1m, zq10, zq12, zq13, zq14, zq15, zq16, zq17, zq18, zq2m, zq20, zq21, zq23, zq24, zq25, zq26, zq27, zq28, zq3m, zq30, zq31, zq32, zq34, zq35, zq36, zq37, zq38, zq4m, zq40, zq41, zq42, zq43, zq45, zq46, zq47, zq48, zq5m, zq50, zq51, zq52, zq53, zq54, zq56, zq57, zq58, zq6m, zq60, zq61, zq62, zq63, zq64, zq65, zq67, zq68, zq7m, zq70, zq71, zq72, zq73, zq74, zq75, zq76, zq78, zq8m, zq80, zq81, zq82, zq83, zq84, zq85, zq86, zq87, mis_13, e_isFull13 ok, ef, b2i, c_next hL h120 hb hs, gt_count13, ok.2.1, e_add13 ok hn, p1, p2]
      | inr r2 =>
        obtain ⟨T2, s2⟩ := r2
        rw [c2] at p2 o2
        obtain ⟨nu2, gn2, p2⟩ := p2
        have o2 : s2 = s2 ∧ SR (n + 1) T2 T2 ∧ s1 ≤ s2 ∧ s2 ≤ L := o2
        have k2 : Ok (n + 1) T2 := o2.2.1
        show RPc _ _ _ _ _ _ _ (th3 (bA L X) L n T2 s2) _
        have p3 := c_readPart3 (a := a) (h := h) (T := T) (V := V) (j := 9) hst (by decide) hL h120 hb o2.2.2.2 k2 nt gn2
        have p3 : RPc (bA L X) L X a h T V (prP (bA L X) L (wdB (bA L X) L s2 wHolds) (31 + 6 * n) 999 T2 s2) (Ec 15 [.ref 37, .ref 13, .int (Int32.ofNat n), .ref 1009, .int 3] a (cw h T T2 V (rX (bA L X) L X s2 nu2))) := p3
        unfold th3
        cases c3 : prP (bA L X) L (wdB (bA L X) L s2 wHolds) (31 + 6 * n) 999 T2 s2 with
        | inl e =>
          rw [c3] at p3
          obtain ⟨W', nu', p3⟩ := p3
          refine ⟨W', nu', ?_⟩
          rw [Ec_go rfl]; show Rn 14 (0, [some (.ref 37), some (.ref 13), some (.int x), none], [], a, cw h T W V (rX (bA L X) L X s nu)) = _
          simp only [r14_0, r14_1, r14_4, r14_7, r14_8, r14_9, r14_10, r14_13, r14_14, r14_17, r14_18, r14_19, r14_20, r14_21, r14_24, r14_25, r14_26, r14_27, r14_29, r14_30, r14_33, r14_36, r14_37, r14_38, r14_39, r14_41, r14_42, r14_45, r14_48, r14_49, r14_50, r14_51, r14_53, r14_54, r14_57, r14_60, r14_61, r14_64, r14_65, Nl_none, Nl_int, Nl_ref, Nl_null, Kv_some, Ki_some, Kh_some, Bk_some, Bk_void, ↓reduceIte, mrt10, mrt11, zl2, zl3, zl4, zl8, Bool.false_eq_true, cx_tub, cx_trial, cx_kept, cx_isKept, cx_tape, cx_reader, cx_sheets, cx_findings, cx_mis, cx_mis37, cx_mis38, cx_bytes, cx_tlen, cx_rtape, cx_token, cx_start, cx_end, cx_number, cx_lnBytes, cx_lnSheets, cx_lnFind, Int32.reduceAdd, Int32.reduceSub, Int32.reduceMul, Int32.reduceLT, zqm0, zqm1, zqm2, zqm3, zqm4, zqm5, zqm6, zqm7, zqm8, zq0m, zq01, zq02, zq03, zq04, zq05, zq06, zq07, zq08, zq1m, zq10, zq12, zq13, zq14, zq15, zq16, zq17, zq18, zq2m, zq20, zq21, zq23, zq24, zq25, zq26, zq27, zq28, zq3m, zq30, zq31, zq32, zq34, zq35, zq36, zq37, zq38, zq4m, zq40, zq41, zq42, zq43, zq45, zq46, zq47, zq48, zq5m, zq50, zq51, zq52, zq53, zq54, zq56, zq57, zq58, zq6m, zq60, zq61, zq62, zq63, zq64, zq65, zq67, zq68, zq7m, zq70, zq71, zq72, zq73, zq74, zq75, zq76, zq78, zq8m, zq80, zq81, zq82, zq83, zq84, zq85, zq86, zq87, mis_13, e_isFull13 ok, ef, b2i, c_next hL h120 hb hs, gt_count13, ok.2.1, e_add13 ok hn, p1, p2, p3]
        | inr r3 =>
          obtain ⟨T3, s3⟩ := r3
          rw [c3] at p3
          obtain ⟨nu3, gn3, p3⟩ := p3
          refine ⟨nu3, gn3, ?_⟩
          rw [Ec_go rfl]; show Rn 14 (0, [some (.ref 37), some (.ref 13), some (.int x), none], [], a, cw h T W V (rX (bA L X) L X s nu)) = _
          simp only [r14_0, r14_1, r14_4, r14_7, r14_8, r14_9, r14_10, r14_13, r14_14, r14_17, r14_18, r14_19, r14_20, r14_21, r14_24, r14_25, r14_26, r14_27, r14_29, r14_30, r14_33, r14_36, r14_37, r14_38, r14_39, r14_41, r14_42, r14_45, r14_48, r14_49, r14_50, r14_51, r14_53, r14_54, r14_57, r14_60, r14_61, r14_64, r14_65, Nl_none, Nl_int, Nl_ref, Nl_null, Kv_some, Ki_some, Kh_some, Bk_some, Bk_void, ↓reduceIte, mrt10, mrt11, zl2, zl3, zl4, zl8, Bool.false_eq_true, cx_tub, cx_trial, cx_kept, cx_isKept, cx_tape, cx_reader, cx_sheets, cx_findings, cx_mis, cx_mis37, cx_mis38, cx_bytes, cx_tlen, cx_rtape, cx_token, cx_start, cx_end, cx_number, cx_lnBytes, cx_lnSheets, cx_lnFind, Int32.reduceAdd, Int32.reduceSub, Int32.reduceMul, Int32.reduceLT, zqm0, zqm1, zqm2, zqm3, zqm4, zqm5, zqm6, zqm7, zqm8, zq0m, zq01, zq02, zq03, zq04, zq05, zq06, zq07, zq08, zq1m, zq10, zq12, zq13, zq14, zq15, zq16, zq17, zq18, zq2m, zq20, zq21, zq23, zq24, zq25, zq26, zq27, zq28, zq3m, zq30, zq31, zq32, zq34, zq35, zq36, zq37, zq38, zq4m, zq40, zq41, zq42, zq43, zq45, zq46, zq47, zq48, zq5m, zq50, zq51, zq52, zq53, zq54, zq56, zq57, zq58, zq6m, zq60, zq61, zq62, zq63, zq64, zq65, zq67, zq68, zq7m, zq70, zq71, zq72, zq73, zq74, zq75, zq76, zq78, zq8m, zq80, zq81, zq82, zq83, zq84, zq85, zq86, zq87, mis_13, e_isFull13 ok, ef, b2i, c_next hL h120 hb hs, gt_count13, ok.2.1, e_add13 ok hn, p1, p2, p3]
  · rw [if_neg hn]
    have ef : decide (¬ n < 8) = true := decide_eq_true hn
    refine ⟨W, nu, ?_⟩
    rw [Ec_go rfl]; show Rn 14 (0, [some (.ref 37), some (.ref 13), some (.int x), none], [], a, cw h T W V (rX (bA L X) L X s nu)) = _
    simp only [r14_0, r14_1, r14_4, r14_7, r14_8, r14_9, r14_10, r14_13, r14_14, r14_17, r14_18, r14_19, r14_20, r14_21, r14_24, r14_25, r14_26, r14_27, r14_29, r14_30, r14_33, r14_36, r14_37, r14_38, r14_39, r14_41, r14_42, r14_45, r14_48, r14_49, r14_50, r14_51, r14_53, r14_54, r14_57, r14_60, r14_61, r14_64, r14_65, Nl_none, Nl_int, Nl_ref, Nl_null, Kv_some, Ki_some, Kh_some, Bk_some, Bk_void, ↓reduceIte, mrt10, mrt11, zl2, zl3, zl4, zl8, Bool.false_eq_true, cx_tub, cx_trial, cx_kept, cx_isKept, cx_tape, cx_reader, cx_sheets, cx_findings, cx_mis, cx_mis37, cx_mis38, cx_bytes, cx_tlen, cx_rtape, cx_token, cx_start, cx_end, cx_number, cx_lnBytes, cx_lnSheets, cx_lnFind, Int32.reduceAdd, Int32.reduceSub, Int32.reduceMul, Int32.reduceLT, zqm0, zqm1, zqm2, zqm3, zqm4, zqm5, zqm6, zqm7, zqm8, zq0m, zq01, zq02, zq03, zq04, zq05, zq06, zq07, zq08, zq1m, zq10, zq12, zq13, zq14, zq15, zq16, zq17, zq18, zq2m, zq20, zq21, zq23, zq24, zq25, zq26, zq27, zq28, zq3m, zq30, zq31, zq32, zq34, zq35, zq36, zq37, zq38, zq4m, zq40, zq41, zq42, zq43, zq45, zq46, zq47, zq48, zq5m, zq50, zq51, zq52, zq53, zq54, zq56, zq57, zq58, zq6m, zq60, zq61, zq62, zq63, zq64, zq65, zq67, zq68, zq7m, zq70, zq71, zq72, zq73, zq74, zq75, zq76, zq78, zq8m, zq80, zq81, zq82, zq83, zq84, zq85, zq86, zq87, mis_13, e_isFull13 ok, ef, b2i]
theorem c_readDye (hL : X 1 = Int32.ofNat L) (h120 : L ≤ 120) (hb : byB L X) (hs : s ≤ L) (gn : GN (bA L X) L (nxT (bA L X) L s) nu) : RPc (bA L X) L X a h T V (dyP (bA L X) L W s) (Ec 16 [.ref 37, .ref 13] a (cw h T W V (rX (bA L X) L X (nxT (bA L X) L s) nu))) := by
  have a1 := nx_le (g := bA L X) bA_hi hs
  have a2 := nx_le (g := bA L X) bA_hi a1.2
  have a3 := nx_le (g := bA L X) bA_hi a2.2
  have mm : ((-1 : Int32) < 0) = True := by decide
  have t1 := e_takeNumber (a := a) (h := h) (T := T) (U := W) (V := V) (x := 7) hL h120 hb a1.2 gn (by decide)
  unfold dyP
  by_cases q1 : nmB (bA L X) L 7 (nxT (bA L X) L s) = true
  · rw [if_pos q1] at t1 ⊢
    have t2 := e_takeNumber (a := a) (h := h) (T := T) (U := W) (V := V) (x := 2) hL h120 hb a2.2 (gn_n (nu := nu)) (by decide)
    by_cases q2 : nmB (bA L X) L 2 (nxT (bA L X) L (nxT (bA L X) L s)) = true
    · rw [if_pos q2] at t2 ⊢
      have t3 := e_takeNumber (a := a) (h := h) (T := T) (U := W) (V := V) (x := 999) hL h120 hb a3.2 (gn_n (nu := nuN (bA L X) L (nxT (bA L X) L (nxT (bA L X) L s)) nu)) (by decide)
      unfold prP
      rw [if_pos rfl]
      by_cases q3 : nmB (bA L X) L 999 (nxT (bA L X) L (nxT (bA L X) L (nxT (bA L X) L s))) = true
      · rw [if_pos q3] at t3 ⊢
        refine ⟨(nuN (bA L X) L (nxT (bA L X) L (nxT (bA L X) L (nxT (bA L X) L (nxT (bA L X) L s)))) (nuN (bA L X) L (nxT (bA L X) L (nxT (bA L X) L (nxT (bA L X) L s))) (nuN (bA L X) L (nxT (bA L X) L (nxT (bA L X) L s)) nu))), gn_n, ?_⟩
        have ec : cap (vl (bA L X) L (nxT (bA L X) L (nxT (bA L X) L (nxT (bA L X) L s)))) = vl (bA L X) L (nxT (bA L X) L (nxT (bA L X) L (nxT (bA L X) L s))) := cap_id (nm_rg q3).2
        rw [Ec_go rfl]; show Rn 16 (0, [some (.ref 37), some (.ref 13), none, none, none], [], a, cw h T W V (rX (bA L X) L X (nxT (bA L X) L s) nu)) = _
        simp only [r16_0, r16_1, r16_3, r16_6, r16_7, r16_8, r16_11, r16_12, r16_15, r16_16, r16_17, r16_20, r16_21, r16_22, r16_25, r16_26, r16_29, r16_30, r16_33, r16_36, r16_38, r16_40, r16_43, r16_44, r16_45, r16_46, r16_47, r16_48, r16_50, r16_53, r16_54, Nl_none, Nl_int, Nl_ref, Nl_null, Kv_some, Ki_some, Kh_some, Bk_some, Bk_void, ↓reduceIte, mrt10, mrt11, zl2, zl3, zl4, zl8, Bool.false_eq_true, cx_tub, cx_trial, cx_kept, cx_isKept, cx_tape, cx_reader, cx_sheets, cx_findings, cx_mis, cx_mis37, cx_mis38, cx_bytes, cx_tlen, cx_rtape, cx_token, cx_start, cx_end, cx_number, cx_lnBytes, cx_lnSheets, cx_lnFind, Int32.reduceAdd, Int32.reduceSub, Int32.reduceMul, Int32.reduceLT, zqm0, zqm1, zqm2, zqm3, zqm4, zqm5, zqm6, zqm7, zqm8, zq0m, zq01, zq02, zq03, zq04, zq05, zq06, zq07, zq08, zq1m, zq10, zq12, zq13, zq14, zq15, zq16, zq17, zq18, zq2m, zq20, zq21, zq23, zq24, zq25, zq26, zq27, zq28, zq3m, zq30, zq31, zq32, zq34, zq35, zq36, zq37, zq38, zq4m, zq40, zq41, zq42, zq43, zq45, zq46, zq47, zq48, zq5m, zq50, zq51, zq52, zq53, zq54, zq56, zq57, zq58, zq6m, zq60, zq61, zq62, zq63, zq64, zq65, zq67, zq68, zq7m, zq70, zq71, zq72, zq73, zq74, zq75, zq76, zq78, zq8m, zq80, zq81, zq82, zq83, zq84, zq85, zq86, zq87, mis_13, t1, t2, t3, nm_nn q1, nm_nn q2, nm_nn q3, e_setDye13 (isL_nm q1) (isC_nm q2), ec]
      · rw [if_neg q3] at t3 ⊢
        refine ⟨W, (nuN (bA L X) L (nxT (bA L X) L (nxT (bA L X) L (nxT (bA L X) L s))) (nuN (bA L X) L (nxT (bA L X) L (nxT (bA L X) L s)) nu)), ?_⟩
        rw [Ec_go rfl]; show Rn 16 (0, [some (.ref 37), some (.ref 13), none, none, none], [], a, cw h T W V (rX (bA L X) L X (nxT (bA L X) L s) nu)) = _
        simp only [r16_0, r16_1, r16_3, r16_6, r16_7, r16_8, r16_11, r16_12, r16_15, r16_16, r16_17, r16_20, r16_21, r16_22, r16_25, r16_26, r16_29, r16_30, r16_33, r16_36, r16_38, r16_40, r16_43, r16_44, r16_45, r16_46, r16_47, r16_48, r16_50, r16_53, r16_54, Nl_none, Nl_int, Nl_ref, Nl_null, Kv_some, Ki_some, Kh_some, Bk_some, Bk_void, ↓reduceIte, mrt10, mrt11, zl2, zl3, zl4, zl8, Bool.false_eq_true, cx_tub, cx_trial, cx_kept, cx_isKept, cx_tape, cx_reader, cx_sheets, cx_findings, cx_mis, cx_mis37, cx_mis38, cx_bytes, cx_tlen, cx_rtape, cx_token, cx_start, cx_end, cx_number, cx_lnBytes, cx_lnSheets, cx_lnFind, Int32.reduceAdd, Int32.reduceSub, Int32.reduceMul, Int32.reduceLT, zqm0, zqm1, zqm2, zqm3, zqm4, zqm5, zqm6, zqm7, zqm8, zq0m, zq01, zq02, zq03, zq04, zq05, zq06, zq07, zq08, zq1m, zq10, zq12, zq13, zq14, zq15, zq16, zq17, zq18, zq2m, zq20, zq21, zq23, zq24, zq25, zq26, zq27, zq28, zq3m, zq30, zq31, zq32, zq34, zq35, zq36, zq37, zq38, zq4m, zq40, zq41, zq42, zq43, zq45, zq46, zq47, zq48, zq5m, zq50, zq51, zq52, zq53, zq54, zq56, zq57, zq58, zq6m, zq60, zq61, zq62, zq63, zq64, zq65, zq67, zq68, zq7m, zq70, zq71, zq72, zq73, zq74, zq75, zq76, zq78, zq8m, zq80, zq81, zq82, zq83, zq84, zq85, zq86, zq87, mis_13, t1, t2, t3, nm_nn q1, nm_nn q2, mm]
    · rw [if_neg q2] at t2 ⊢
      refine ⟨W, (nuN (bA L X) L (nxT (bA L X) L (nxT (bA L X) L s)) nu), ?_⟩
      rw [Ec_go rfl]; show Rn 16 (0, [some (.ref 37), some (.ref 13), none, none, none], [], a, cw h T W V (rX (bA L X) L X (nxT (bA L X) L s) nu)) = _
      simp only [r16_0, r16_1, r16_3, r16_6, r16_7, r16_8, r16_11, r16_12, r16_15, r16_16, r16_17, r16_20, r16_21, r16_22, r16_25, r16_26, r16_29, r16_30, r16_33, r16_36, r16_38, r16_40, r16_43, r16_44, r16_45, r16_46, r16_47, r16_48, r16_50, r16_53, r16_54, Nl_none, Nl_int, Nl_ref, Nl_null, Kv_some, Ki_some, Kh_some, Bk_some, Bk_void, ↓reduceIte, mrt10, mrt11, zl2, zl3, zl4, zl8, Bool.false_eq_true, cx_tub, cx_trial, cx_kept, cx_isKept, cx_tape, cx_reader, cx_sheets, cx_findings, cx_mis, cx_mis37, cx_mis38, cx_bytes, cx_tlen, cx_rtape, cx_token, cx_start, cx_end, cx_number, cx_lnBytes, cx_lnSheets, cx_lnFind, Int32.reduceAdd, Int32.reduceSub, Int32.reduceMul, Int32.reduceLT, zqm0, zqm1, zqm2, zqm3, zqm4, zqm5, zqm6, zqm7, zqm8, zq0m, zq01, zq02, zq03, zq04, zq05, zq06, zq07, zq08, zq1m, zq10, zq12, zq13, zq14, zq15, zq16, zq17, zq18, zq2m, zq20, zq21, zq23, zq24, zq25, zq26, zq27, zq28, zq3m, zq30, zq31, zq32, zq34, zq35, zq36, zq37, zq38, zq4m, zq40, zq41, zq42, zq43, zq45, zq46, zq47, zq48, zq5m, zq50, zq51, zq52, zq53, zq54, zq56, zq57, zq58, zq6m, zq60, zq61, zq62, zq63, zq64, zq65, zq67, zq68, zq7m, zq70, zq71, zq72, zq73, zq74, zq75, zq76, zq78, zq8m, zq80, zq81, zq82, zq83, zq84, zq85, zq86, zq87, mis_13, t1, t2, nm_nn q1, mm]
  · rw [if_neg q1] at t1 ⊢
    refine ⟨W, nu, ?_⟩
    rw [Ec_go rfl]; show Rn 16 (0, [some (.ref 37), some (.ref 13), none, none, none], [], a, cw h T W V (rX (bA L X) L X (nxT (bA L X) L s) nu)) = _
    simp only [r16_0, r16_1, r16_3, r16_6, r16_7, r16_8, r16_11, r16_12, r16_15, r16_16, r16_17, r16_20, r16_21, r16_22, r16_25, r16_26, r16_29, r16_30, r16_33, r16_36, r16_38, r16_40, r16_43, r16_44, r16_45, r16_46, r16_47, r16_48, r16_50, r16_53, r16_54, Nl_none, Nl_int, Nl_ref, Nl_null, Kv_some, Ki_some, Kh_some, Bk_some, Bk_void, ↓reduceIte, mrt10, mrt11, zl2, zl3, zl4, zl8, Bool.false_eq_true, cx_tub, cx_trial, cx_kept, cx_isKept, cx_tape, cx_reader, cx_sheets, cx_findings, cx_mis, cx_mis37, cx_mis38, cx_bytes, cx_tlen, cx_rtape, cx_token, cx_start, cx_end, cx_number, cx_lnBytes, cx_lnSheets, cx_lnFind, Int32.reduceAdd, Int32.reduceSub, Int32.reduceMul, Int32.reduceLT, zqm0, zqm1, zqm2, zqm3, zqm4, zqm5, zqm6, zqm7, zqm8, zq0m, zq01, zq02, zq03, zq04, zq05, zq06, zq07, zq08, zq1m, zq10, zq12, zq13, zq14, zq15, zq16, zq17, zq18, zq2m, zq20, zq21, zq23, zq24, zq25, zq26, zq27, zq28, zq3m, zq30, zq31, zq32, zq34, zq35, zq36, zq37, zq38, zq4m, zq40, zq41, zq42, zq43, zq45, zq46, zq47, zq48, zq5m, zq50, zq51, zq52, zq53, zq54, zq56, zq57, zq58, zq6m, zq60, zq61, zq62, zq63, zq64, zq65, zq67, zq68, zq7m, zq70, zq71, zq72, zq73, zq74, zq75, zq76, zq78, zq8m, zq80, zq81, zq82, zq83, zq84, zq85, zq86, zq87, mis_13, t1, mm]
theorem c_readLye (hL : X 1 = Int32.ofNat L) (h120 : L ≤ 120) (hb : byB L X) (hs : s ≤ L) (gn : GN (bA L X) L (nxT (bA L X) L s) nu) : RPc (bA L X) L X a h T V (prP (bA L X) L true 3 9 W s) (Ec 17 [.ref 37, .ref 13] a (cw h T W V (rX (bA L X) L X (nxT (bA L X) L s) nu))) := by
  have a1 := nx_le (g := bA L X) bA_hi hs
  have mm : ((-1 : Int32) < 0) = True := by decide
  have t1 := e_takeNumber (a := a) (h := h) (T := T) (U := W) (V := V) (x := 9) hL h120 hb a1.2 gn (by decide)
  unfold prP
  rw [if_pos rfl]
  by_cases q1 : nmB (bA L X) L 9 (nxT (bA L X) L s) = true
  · rw [if_pos q1] at t1 ⊢
    refine ⟨(nuN (bA L X) L (nxT (bA L X) L (nxT (bA L X) L s)) nu), gn_n, ?_⟩
    rw [Ec_go rfl]; show Rn 17 (0, [some (.ref 37), some (.ref 13), none], [], a, cw h T W V (rX (bA L X) L X (nxT (bA L X) L s) nu)) = _
    simp only [r17_0, r17_1, r17_3, r17_6, r17_7, r17_8, r17_11, r17_12, r17_13, r17_14, r17_15, r17_18, r17_19, Nl_none, Nl_int, Nl_ref, Nl_null, Kv_some, Ki_some, Kh_some, Bk_some, Bk_void, ↓reduceIte, mrt10, mrt11, zl2, zl3, zl4, zl8, Bool.false_eq_true, cx_tub, cx_trial, cx_kept, cx_isKept, cx_tape, cx_reader, cx_sheets, cx_findings, cx_mis, cx_mis37, cx_mis38, cx_bytes, cx_tlen, cx_rtape, cx_token, cx_start, cx_end, cx_number, cx_lnBytes, cx_lnSheets, cx_lnFind, Int32.reduceAdd, Int32.reduceSub, Int32.reduceMul, Int32.reduceLT, zqm0, zqm1, zqm2, zqm3, zqm4, zqm5, zqm6, zqm7, zqm8, zq0m, zq01, zq02, zq03, zq04, zq05, zq06, zq07, zq08, zq1m, zq10, zq12, zq13, zq14, zq15, zq16, zq17, zq18, zq2m, zq20, zq21, zq23, zq24, zq25, zq26, zq27, zq28, zq3m, zq30, zq31, zq32, zq34, zq35, zq36, zq37, zq38, zq4m, zq40, zq41, zq42, zq43, zq45, zq46, zq47, zq48, zq5m, zq50, zq51, zq52, zq53, zq54, zq56, zq57, zq58, zq6m, zq60, zq61, zq62, zq63, zq64, zq65, zq67, zq68, zq7m, zq70, zq71, zq72, zq73, zq74, zq75, zq76, zq78, zq8m, zq80, zq81, zq82, zq83, zq84, zq85, zq86, zq87, mis_13, t1, nm_nn q1, pt_lye13]
  · rw [if_neg q1] at t1 ⊢
    refine ⟨W, nu, ?_⟩
    rw [Ec_go rfl]; show Rn 17 (0, [some (.ref 37), some (.ref 13), none], [], a, cw h T W V (rX (bA L X) L X (nxT (bA L X) L s) nu)) = _
    simp only [r17_0, r17_1, r17_3, r17_6, r17_7, r17_8, r17_11, r17_12, r17_13, r17_14, r17_15, r17_18, r17_19, Nl_none, Nl_int, Nl_ref, Nl_null, Kv_some, Ki_some, Kh_some, Bk_some, Bk_void, ↓reduceIte, mrt10, mrt11, zl2, zl3, zl4, zl8, Bool.false_eq_true, cx_tub, cx_trial, cx_kept, cx_isKept, cx_tape, cx_reader, cx_sheets, cx_findings, cx_mis, cx_mis37, cx_mis38, cx_bytes, cx_tlen, cx_rtape, cx_token, cx_start, cx_end, cx_number, cx_lnBytes, cx_lnSheets, cx_lnFind, Int32.reduceAdd, Int32.reduceSub, Int32.reduceMul, Int32.reduceLT, zqm0, zqm1, zqm2, zqm3, zqm4, zqm5, zqm6, zqm7, zqm8, zq0m, zq01, zq02, zq03, zq04, zq05, zq06, zq07, zq08, zq1m, zq10, zq12, zq13, zq14, zq15, zq16, zq17, zq18, zq2m, zq20, zq21, zq23, zq24, zq25, zq26, zq27, zq28, zq3m, zq30, zq31, zq32, zq34, zq35, zq36, zq37, zq38, zq4m, zq40, zq41, zq42, zq43, zq45, zq46, zq47, zq48, zq5m, zq50, zq51, zq52, zq53, zq54, zq56, zq57, zq58, zq6m, zq60, zq61, zq62, zq63, zq64, zq65, zq67, zq68, zq7m, zq70, zq71, zq72, zq73, zq74, zq75, zq76, zq78, zq8m, zq80, zq81, zq82, zq83, zq84, zq85, zq86, zq87, mis_13, t1, mm]
theorem c_readStir (hL : X 1 = Int32.ofNat L) (h120 : L ≤ 120) (hb : byB L X) (hs : s ≤ L) (ok : Ok n W) (gn : GN (bA L X) L (nxT (bA L X) L s) nu) : RPc (bA L X) L X a h T V (stP (bA L X) L n W s) (Ec 18 [.ref 37, .ref 13] a (cw h T W V (rX (bA L X) L X (nxT (bA L X) L s) nu))) := by
  have a1 := nx_le (g := bA L X) bA_hi hs
  have a2 := nx_le (g := bA L X) bA_hi a1.2
  have mm : ((-1 : Int32) < 0) = True := by decide
  have t1 := e_takeNumber (a := a) (h := h) (T := T) (U := W) (V := V) (x := 7) hL h120 hb a1.2 gn (by decide)
  unfold stP
  by_cases q1 : nmB (bA L X) L 7 (nxT (bA L X) L s) = true
  · rw [if_pos q1] at t1 ⊢
    have t2 := e_takeNumber (a := a) (h := h) (T := T) (U := W) (V := V) (x := 7) hL h120 hb a2.2 (gn_n (nu := nu)) (by decide)
    by_cases q2 : nmB (bA L X) L 7 (nxT (bA L X) L (nxT (bA L X) L s)) = true
    · rw [if_pos q2] at t2 ⊢
      have es : (if vl (bA L X) L (nxT (bA L X) L (nxT (bA L X) L s)) = vl (bA L X) L (nxT (bA L X) L s) then W else stS (vl (bA L X) L (nxT (bA L X) L s)) (vl (bA L X) L (nxT (bA L X) L (nxT (bA L X) L s))) n W) = stS (vl (bA L X) L (nxT (bA L X) L s)) (vl (bA L X) L (nxT (bA L X) L (nxT (bA L X) L s))) n W := by
        by_cases q3 : vl (bA L X) L (nxT (bA L X) L (nxT (bA L X) L s)) = vl (bA L X) L (nxT (bA L X) L s)
        · rw [if_pos q3, q3, st_same]
        · rw [if_neg q3]
      rw [es]
      refine ⟨(nuN (bA L X) L (nxT (bA L X) L (nxT (bA L X) L (nxT (bA L X) L s))) (nuN (bA L X) L (nxT (bA L X) L (nxT (bA L X) L s)) nu)), gn_n, ?_⟩
      rw [Ec_go rfl]; show Rn 18 (0, [some (.ref 37), some (.ref 13), none, none], [], a, cw h T W V (rX (bA L X) L X (nxT (bA L X) L s) nu)) = _
      simp only [r18_0, r18_1, r18_3, r18_6, r18_7, r18_8, r18_11, r18_12, r18_15, r18_16, r18_18, r18_21, r18_22, r18_23, r18_26, r18_27, r18_28, r18_29, r18_30, r18_31, r18_34, r18_35, Nl_none, Nl_int, Nl_ref, Nl_null, Kv_some, Ki_some, Kh_some, Bk_some, Bk_void, ↓reduceIte, mrt10, mrt11, zl2, zl3, zl4, zl8, Bool.false_eq_true, cx_tub, cx_trial, cx_kept, cx_isKept, cx_tape, cx_reader, cx_sheets, cx_findings, cx_mis, cx_mis37, cx_mis38, cx_bytes, cx_tlen, cx_rtape, cx_token, cx_start, cx_end, cx_number, cx_lnBytes, cx_lnSheets, cx_lnFind, Int32.reduceAdd, Int32.reduceSub, Int32.reduceMul, Int32.reduceLT, zqm0, zqm1, zqm2, zqm3, zqm4, zqm5, zqm6, zqm7, zqm8, zq0m, zq01, zq02, zq03, zq04, zq05, zq06, zq07, zq08, zq1m, zq10, zq12, zq13, zq14, zq15, zq16, zq17, zq18, zq2m, zq20, zq21, zq23, zq24, zq25, zq26, zq27, zq28, zq3m, zq30, zq31, zq32, zq34, zq35, zq36, zq37, zq38, zq4m, zq40, zq41, zq42, zq43, zq45, zq46, zq47, zq48, zq5m, zq50, zq51, zq52, zq53, zq54, zq56, zq57, zq58, zq6m, zq60, zq61, zq62, zq63, zq64, zq65, zq67, zq68, zq7m, zq70, zq71, zq72, zq73, zq74, zq75, zq76, zq78, zq8m, zq80, zq81, zq82, zq83, zq84, zq85, zq86, zq87, mis_13, t1, t2, nm_nn q1, nm_nn q2, e_exchange13 ok (isL_nm q1) (isL_nm q2)]
    · rw [if_neg q2] at t2 ⊢
      refine ⟨W, (nuN (bA L X) L (nxT (bA L X) L (nxT (bA L X) L s)) nu), ?_⟩
      rw [Ec_go rfl]; show Rn 18 (0, [some (.ref 37), some (.ref 13), none, none], [], a, cw h T W V (rX (bA L X) L X (nxT (bA L X) L s) nu)) = _
      simp only [r18_0, r18_1, r18_3, r18_6, r18_7, r18_8, r18_11, r18_12, r18_15, r18_16, r18_18, r18_21, r18_22, r18_23, r18_26, r18_27, r18_28, r18_29, r18_30, r18_31, r18_34, r18_35, Nl_none, Nl_int, Nl_ref, Nl_null, Kv_some, Ki_some, Kh_some, Bk_some, Bk_void, ↓reduceIte, mrt10, mrt11, zl2, zl3, zl4, zl8, Bool.false_eq_true, cx_tub, cx_trial, cx_kept, cx_isKept, cx_tape, cx_reader, cx_sheets, cx_findings, cx_mis, cx_mis37, cx_mis38, cx_bytes, cx_tlen, cx_rtape, cx_token, cx_start, cx_end, cx_number, cx_lnBytes, cx_lnSheets, cx_lnFind, Int32.reduceAdd, Int32.reduceSub, Int32.reduceMul, Int32.reduceLT, zqm0, zqm1, zqm2, zqm3, zqm4, zqm5, zqm6, zqm7, zqm8, zq0m, zq01, zq02, zq03, zq04, zq05, zq06, zq07, zq08, zq1m, zq10, zq12, zq13, zq14, zq15, zq16, zq17, zq18, zq2m, zq20, zq21, zq23, zq24, zq25, zq26, zq27, zq28, zq3m, zq30, zq31, zq32, zq34, zq35, zq36, zq37, zq38, zq4m, zq40, zq41, zq42, zq43, zq45, zq46, zq47, zq48, zq5m, zq50, zq51, zq52, zq53, zq54, zq56, zq57, zq58, zq6m, zq60, zq61, zq62, zq63, zq64, zq65, zq67, zq68, zq7m, zq70, zq71, zq72, zq73, zq74, zq75, zq76, zq78, zq8m, zq80, zq81, zq82, zq83, zq84, zq85, zq86, zq87, mis_13, t1, t2, nm_nn q1, mm]
  · rw [if_neg q1] at t1 ⊢
    refine ⟨W, nu, ?_⟩
    rw [Ec_go rfl]; show Rn 18 (0, [some (.ref 37), some (.ref 13), none, none], [], a, cw h T W V (rX (bA L X) L X (nxT (bA L X) L s) nu)) = _
    simp only [r18_0, r18_1, r18_3, r18_6, r18_7, r18_8, r18_11, r18_12, r18_15, r18_16, r18_18, r18_21, r18_22, r18_23, r18_26, r18_27, r18_28, r18_29, r18_30, r18_31, r18_34, r18_35, Nl_none, Nl_int, Nl_ref, Nl_null, Kv_some, Ki_some, Kh_some, Bk_some, Bk_void, ↓reduceIte, mrt10, mrt11, zl2, zl3, zl4, zl8, Bool.false_eq_true, cx_tub, cx_trial, cx_kept, cx_isKept, cx_tape, cx_reader, cx_sheets, cx_findings, cx_mis, cx_mis37, cx_mis38, cx_bytes, cx_tlen, cx_rtape, cx_token, cx_start, cx_end, cx_number, cx_lnBytes, cx_lnSheets, cx_lnFind, Int32.reduceAdd, Int32.reduceSub, Int32.reduceMul, Int32.reduceLT, zqm0, zqm1, zqm2, zqm3, zqm4, zqm5, zqm6, zqm7, zqm8, zq0m, zq01, zq02, zq03, zq04, zq05, zq06, zq07, zq08, zq1m, zq10, zq12, zq13, zq14, zq15, zq16, zq17, zq18, zq2m, zq20, zq21, zq23, zq24, zq25, zq26, zq27, zq28, zq3m, zq30, zq31, zq32, zq34, zq35, zq36, zq37, zq38, zq4m, zq40, zq41, zq42, zq43, zq45, zq46, zq47, zq48, zq5m, zq50, zq51, zq52, zq53, zq54, zq56, zq57, zq58, zq6m, zq60, zq61, zq62, zq63, zq64, zq65, zq67, zq68, zq7m, zq70, zq71, zq72, zq73, zq74, zq75, zq76, zq78, zq8m, zq80, zq81, zq82, zq83, zq84, zq85, zq86, zq87, mis_13, t1, mm]
theorem RPc.bk {r : PR} {o o' : Option MR} (h1 : RPc (bA L X) L X a h T V r o) (h2 : ∀ v a h, o = some (some (.int v), a, h) → (v = 0 ∨ v = 1) → o' = some (some (.int v), a, h)) : RPc (bA L X) L X a h T V r o' := by
  cases r with
  | inl e => obtain ⟨W', nu', e⟩ := h1; exact ⟨W', nu', h2 _ _ _ e (Or.inl rfl)⟩
  | inr r => obtain ⟨nu', gn, e⟩ := h1; exact ⟨nu', gn, h2 _ _ _ e (Or.inr rfl)⟩
theorem kw_m1 {g : Nat → Int32} (q : kwS g L s < 0) : kwS g L s = -1 := by
  unfold kwS at q ⊢
  by_cases h0 : wdB g L s wThing = true
  · rw [if_pos h0] at q; exact absurd q (by decide)
  rw [if_neg h0] at q ⊢
  by_cases h1 : wdB g L s wGlove = true
  · rw [if_pos h1] at q; exact absurd q (by decide)
  rw [if_neg h1] at q ⊢
  by_cases h2 : wdB g L s wVeil = true
  · rw [if_pos h2] at q; exact absurd q (by decide)
  rw [if_neg h2] at q ⊢
  by_cases h3 : wdB g L s wDress = true
  · rw [if_pos h3] at q; exact absurd q (by decide)
  rw [if_neg h3] at q ⊢
  by_cases h4 : wdB g L s wDance = true
  · rw [if_pos h4] at q; exact absurd q (by decide)
  rw [if_neg h4] at q ⊢
  by_cases h5 : wdB g L s wStone = true
  · rw [if_pos h5] at q; exact absurd q (by decide)
  rw [if_neg h5] at q ⊢
  by_cases h6 : wdB g L s wMedal = true
  · rw [if_pos h6] at q; exact absurd q (by decide)
  rw [if_neg h6]
theorem c_readItem (hst : Hst h) (hL : X 1 = Int32.ofNat L) (h120 : L ≤ 120) (hb : byB L X) (hs : s ≤ L) (ok : Ok n W) : RPc (bA L X) L X a h T V (itP (bA L X) L n W s) (Ec 13 [.ref 37, .ref 13] a (cw h T W V (rX (bA L X) L X s nu))) := by
  have tw := fun j (hj : j < 13) => e_takeWord (a := a) (h := h) (T := T) (U := W) (V := V) (nu := nu) (j := j) hst hj hL h120 hb hs
  have w10 : Ec 19 [.ref 37, .ref 1010] a (cw h T W V (rX (bA L X) L X s nu)) = if wdB (bA L X) L s wDye = true then some (some (.int 1), a, cw h T W V (rX (bA L X) L X (nxT (bA L X) L s) (nuN (bA L X) L (nxT (bA L X) L s) nu))) else some (some (.int 0), a, cw h T W V (rX (bA L X) L X s nu)) := tw 10 (by decide)
  have w11 : Ec 19 [.ref 37, .ref 1011] a (cw h T W V (rX (bA L X) L X s nu)) = if wdB (bA L X) L s wLye = true then some (some (.int 1), a, cw h T W V (rX (bA L X) L X (nxT (bA L X) L s) (nuN (bA L X) L (nxT (bA L X) L s) nu))) else some (some (.int 0), a, cw h T W V (rX (bA L X) L X s nu)) := tw 11 (by decide)
  have w12 : Ec 19 [.ref 37, .ref 1012] a (cw h T W V (rX (bA L X) L X s nu)) = if wdB (bA L X) L s wStir = true then some (some (.int 1), a, cw h T W V (rX (bA L X) L X (nxT (bA L X) L s) (nuN (bA L X) L (nxT (bA L X) L s) nu))) else some (some (.int 0), a, cw h T W V (rX (bA L X) L X s nu)) := tw 12 (by decide)
  have kw := e_kindOfWord (a := a) (h := h) (T := T) (U := W) (V := V) (nu := nu) hst hL h120 hs
  unfold itP
  by_cases q : kwS (bA L X) L s < 0
  · rw [kw_m1 q] at kw
    rw [if_pos q]
    by_cases q1 : wdB (bA L X) L s wDye = true
    · rw [if_pos q1] at w10 ⊢
      refine RPc.bk (c_readDye (h := h) (a := a) (T := T) (V := V) hL h120 hb hs (gn_n (nu := nu))) (fun v a' h' e hv => ?_)
      rw [Ec_go rfl]; show Rn 13 (0, [some (.ref 37), some (.ref 13), none], [], a, cw h T W V (rX (bA L X) L X s nu)) = _
      simp only [r13_0, r13_1, r13_4, r13_5, r13_6, r13_7, r13_10, r13_11, r13_12, r13_13, r13_16, r13_17, r13_18, r13_20, r13_23, r13_26, r13_27, r13_28, r13_31, r13_32, r13_33, r13_35, r13_38, r13_41, r13_42, r13_43, r13_46, r13_47, r13_48, r13_50, r13_53, r13_56, r13_57, r13_58, r13_61, r13_64, r13_65, r13_68, r13_69, Nl_none, Nl_int, Nl_ref, Nl_null, Kv_some, Ki_some, Kh_some, Bk_some, Bk_void, ↓reduceIte, mrt10, mrt11, zl2, zl3, zl4, zl8, Bool.false_eq_true, cx_tub, cx_trial, cx_kept, cx_isKept, cx_tape, cx_reader, cx_sheets, cx_findings, cx_mis, cx_mis37, cx_mis38, cx_bytes, cx_tlen, cx_rtape, cx_token, cx_start, cx_end, cx_number, cx_lnBytes, cx_lnSheets, cx_lnFind, Int32.reduceAdd, Int32.reduceSub, Int32.reduceMul, Int32.reduceLT, zqm0, zqm1, zqm2, zqm3, zqm4, zqm5, zqm6, zqm7, zqm8, zq0m, zq01, zq02, zq03, zq04, zq05, zq06, zq07, zq08, zq1m, zq10, zq12, zq13, zq14, zq15, zq16, zq17, zq18, zq2m, zq20, zq21, zq23, zq24, zq25, zq26, zq27, zq28, zq3m, zq30, zq31, zq32, zq34, zq35, zq36, zq37, zq38, zq4m, zq40, zq41, zq42, zq43, zq45, zq46, zq47, zq48, zq5m, zq50, zq51, zq52, zq53, zq54, zq56, zq57, zq58, zq6m, zq60, zq61, zq62, zq63, zq64, zq65, zq67, zq68, zq7m, zq70, zq71, zq72, zq73, zq74, zq75, zq76, zq78, zq8m, zq80, zq81, zq82, zq83, zq84, zq85, zq86, zq87, kw, w10, e, mrt_01 hv]
    rw [if_neg q1] at w10 ⊢
    by_cases q2 : wdB (bA L X) L s wLye = true
    · rw [if_pos q2] at w11 ⊢
      refine RPc.bk (c_readLye (h := h) (a := a) (T := T) (V := V) hL h120 hb hs (gn_n (nu := nu))) (fun v a' h' e hv => ?_)
      rw [Ec_go rfl]; show Rn 13 (0, [some (.ref 37), some (.ref 13), none], [], a, cw h T W V (rX (bA L X) L X s nu)) = _
      simp only [r13_0, r13_1, r13_4, r13_5, r13_6, r13_7, r13_10, r13_11, r13_12, r13_13, r13_16, r13_17, r13_18, r13_20, r13_23, r13_26, r13_27, r13_28, r13_31, r13_32, r13_33, r13_35, r13_38, r13_41, r13_42, r13_43, r13_46, r13_47, r13_48, r13_50, r13_53, r13_56, r13_57, r13_58, r13_61, r13_64, r13_65, r13_68, r13_69, Nl_none, Nl_int, Nl_ref, Nl_null, Kv_some, Ki_some, Kh_some, Bk_some, Bk_void, ↓reduceIte, mrt10, mrt11, zl2, zl3, zl4, zl8, Bool.false_eq_true, cx_tub, cx_trial, cx_kept, cx_isKept, cx_tape, cx_reader, cx_sheets, cx_findings, cx_mis, cx_mis37, cx_mis38, cx_bytes, cx_tlen, cx_rtape, cx_token, cx_start, cx_end, cx_number, cx_lnBytes, cx_lnSheets, cx_lnFind, Int32.reduceAdd, Int32.reduceSub, Int32.reduceMul, Int32.reduceLT, zqm0, zqm1, zqm2, zqm3, zqm4, zqm5, zqm6, zqm7, zqm8, zq0m, zq01, zq02, zq03, zq04, zq05, zq06, zq07, zq08, zq1m, zq10, zq12, zq13, zq14, zq15, zq16, zq17, zq18, zq2m, zq20, zq21, zq23, zq24, zq25, zq26, zq27, zq28, zq3m, zq30, zq31, zq32, zq34, zq35, zq36, zq37, zq38, zq4m, zq40, zq41, zq42, zq43, zq45, zq46, zq47, zq48, zq5m, zq50, zq51, zq52, zq53, zq54, zq56, zq57, zq58, zq6m, zq60, zq61, zq62, zq63, zq64, zq65, zq67, zq68, zq7m, zq70, zq71, zq72, zq73, zq74, zq75, zq76, zq78, zq8m, zq80, zq81, zq82, zq83, zq84, zq85, zq86, zq87, kw, w10, w11, e, mrt_01 hv]
    rw [if_neg q2] at w11 ⊢
    by_cases q3 : wdB (bA L X) L s wStir = true
    · rw [if_pos q3] at w12 ⊢
      refine RPc.bk (c_readStir (h := h) (a := a) (T := T) (V := V) hL h120 hb hs ok (gn_n (nu := nu))) (fun v a' h' e hv => ?_)
      rw [Ec_go rfl]; show Rn 13 (0, [some (.ref 37), some (.ref 13), none], [], a, cw h T W V (rX (bA L X) L X s nu)) = _
      rcases hv with rfl | rfl <;> simp only [r13_0, r13_1, r13_4, r13_5, r13_6, r13_7, r13_10, r13_11, r13_12, r13_13, r13_16, r13_17, r13_18, r13_20, r13_23, r13_26, r13_27, r13_28, r13_31, r13_32, r13_33, r13_35, r13_38, r13_41, r13_42, r13_43, r13_46, r13_47, r13_48, r13_50, r13_53, r13_56, r13_57, r13_58, r13_61, r13_64, r13_65, r13_68, r13_69, Nl_none, Nl_int, Nl_ref, Nl_null, Kv_some, Ki_some, Kh_some, Bk_some, Bk_void, ↓reduceIte, mrt10, mrt11, zl2, zl3, zl4, zl8, Bool.false_eq_true, cx_tub, cx_trial, cx_kept, cx_isKept, cx_tape, cx_reader, cx_sheets, cx_findings, cx_mis, cx_mis37, cx_mis38, cx_bytes, cx_tlen, cx_rtape, cx_token, cx_start, cx_end, cx_number, cx_lnBytes, cx_lnSheets, cx_lnFind, Int32.reduceAdd, Int32.reduceSub, Int32.reduceMul, Int32.reduceLT, zqm0, zqm1, zqm2, zqm3, zqm4, zqm5, zqm6, zqm7, zqm8, zq0m, zq01, zq02, zq03, zq04, zq05, zq06, zq07, zq08, zq1m, zq10, zq12, zq13, zq14, zq15, zq16, zq17, zq18, zq2m, zq20, zq21, zq23, zq24, zq25, zq26, zq27, zq28, zq3m, zq30, zq31, zq32, zq34, zq35, zq36, zq37, zq38, zq4m, zq40, zq41, zq42, zq43, zq45, zq46, zq47, zq48, zq5m, zq50, zq51, zq52, zq53, zq54, zq56, zq57, zq58, zq6m, zq60, zq61, zq62, zq63, zq64, zq65, zq67, zq68, zq7m, zq70, zq71, zq72, zq73, zq74, zq75, zq76, zq78, zq8m, zq80, zq81, zq82, zq83, zq84, zq85, zq86, zq87, kw, w10, w11, w12, e]
    · rw [if_neg q3] at w12 ⊢
      refine ⟨W, nu, ?_⟩
      rw [Ec_go rfl]; show Rn 13 (0, [some (.ref 37), some (.ref 13), none], [], a, cw h T W V (rX (bA L X) L X s nu)) = _
      simp only [r13_0, r13_1, r13_4, r13_5, r13_6, r13_7, r13_10, r13_11, r13_12, r13_13, r13_16, r13_17, r13_18, r13_20, r13_23, r13_26, r13_27, r13_28, r13_31, r13_32, r13_33, r13_35, r13_38, r13_41, r13_42, r13_43, r13_46, r13_47, r13_48, r13_50, r13_53, r13_56, r13_57, r13_58, r13_61, r13_64, r13_65, r13_68, r13_69, Nl_none, Nl_int, Nl_ref, Nl_null, Kv_some, Ki_some, Kh_some, Bk_some, Bk_void, ↓reduceIte, mrt10, mrt11, zl2, zl3, zl4, zl8, Bool.false_eq_true, cx_tub, cx_trial, cx_kept, cx_isKept, cx_tape, cx_reader, cx_sheets, cx_findings, cx_mis, cx_mis37, cx_mis38, cx_bytes, cx_tlen, cx_rtape, cx_token, cx_start, cx_end, cx_number, cx_lnBytes, cx_lnSheets, cx_lnFind, Int32.reduceAdd, Int32.reduceSub, Int32.reduceMul, Int32.reduceLT, zqm0, zqm1, zqm2, zqm3, zqm4, zqm5, zqm6, zqm7, zqm8, zq0m, zq01, zq02, zq03, zq04, zq05, zq06, zq07, zq08, zq1m, zq10, zq12, zq13, zq14, zq15, zq16, zq17, zq18, zq2m, zq20, zq21, zq23, zq24, zq25, zq26, zq27, zq28, zq3m, zq30, zq31, zq32, zq34, zq35, zq36, zq37, zq38, zq4m, zq40, zq41, zq42, zq43, zq45, zq46, zq47, zq48, zq5m, zq50, zq51, zq52, zq53, zq54, zq56, zq57, zq58, zq6m, zq60, zq61, zq62, zq63, zq64, zq65, zq67, zq68, zq7m, zq70, zq71, zq72, zq73, zq74, zq75, zq76, zq78, zq8m, zq80, zq81, zq82, zq83, zq84, zq85, zq86, zq87, kw, w10, w11, w12]
  · rw [if_neg q]
    have kr := kw_rg q
    have km : (kwS (bA L X) L s = -1) = False := by
      rw [eq_ti]; have : (-1 : Int32).toInt = -1 := by decide
      exact eq_false (by omega)
    refine RPc.bk (c_readThing (h := h) (a := a) (T := T) (V := V) (nu := nu) hst hL h120 hb hs ok ⟨kr.1, kr.2.1⟩) (fun v a' h' e hv => ?_)
    rw [Ec_go rfl]; show Rn 13 (0, [some (.ref 37), some (.ref 13), none], [], a, cw h T W V (rX (bA L X) L X s nu)) = _
    simp only [r13_0, r13_1, r13_4, r13_5, r13_6, r13_7, r13_10, r13_11, r13_12, r13_13, r13_16, r13_17, r13_18, r13_20, r13_23, r13_26, r13_27, r13_28, r13_31, r13_32, r13_33, r13_35, r13_38, r13_41, r13_42, r13_43, r13_46, r13_47, r13_48, r13_50, r13_53, r13_56, r13_57, r13_58, r13_61, r13_64, r13_65, r13_68, r13_69, Nl_none, Nl_int, Nl_ref, Nl_null, Kv_some, Ki_some, Kh_some, Bk_some, Bk_void, ↓reduceIte, mrt10, mrt11, zl2, zl3, zl4, zl8, Bool.false_eq_true, cx_tub, cx_trial, cx_kept, cx_isKept, cx_tape, cx_reader, cx_sheets, cx_findings, cx_mis, cx_mis37, cx_mis38, cx_bytes, cx_tlen, cx_rtape, cx_token, cx_start, cx_end, cx_number, cx_lnBytes, cx_lnSheets, cx_lnFind, Int32.reduceAdd, Int32.reduceSub, Int32.reduceMul, Int32.reduceLT, zqm0, zqm1, zqm2, zqm3, zqm4, zqm5, zqm6, zqm7, zqm8, zq0m, zq01, zq02, zq03, zq04, zq05, zq06, zq07, zq08, zq1m, zq10, zq12, zq13, zq14, zq15, zq16, zq17, zq18, zq2m, zq20, zq21, zq23, zq24, zq25, zq26, zq27, zq28, zq3m, zq30, zq31, zq32, zq34, zq35, zq36, zq37, zq38, zq4m, zq40, zq41, zq42, zq43, zq45, zq46, zq47, zq48, zq5m, zq50, zq51, zq52, zq53, zq54, zq56, zq57, zq58, zq6m, zq60, zq61, zq62, zq63, zq64, zq65, zq67, zq68, zq7m, zq70, zq71, zq72, zq73, zq74, zq75, zq76, zq78, zq8m, zq80, zq81, zq82, zq83, zq84, zq85, zq86, zq87, kw, km, e, mrt_01 hv]
def TXc (a : MA) (h : MH) (T V X : TS) (r : Nat ⊕ (Nat × TS × Nat)) (o : Option MR) : Prop := ∃ W X', (∀ k, (k < 2 ∨ 6 ≤ k) → X' k = X k) ∧ match r with
  | .inl e => o = some (some (.int (-1 - Int32.ofNat e)), a, cw h T W V X')
  | .inr (i, W1, _) => W = W1 ∧ o = some (some (.int (Int32.ofNat i)), a, cw h T W V X')
theorem rX_o {g : Nat → Int32} : ∀ k, (k < 2 ∨ 6 ≤ k) → rX g L X s nu k = X k := fun k hk => rx_o hk
theorem c_itkc {T' : TS} {s' : Nat} (hs : s ≤ L) (ok : Ok n W) (e : itP (bA L X) L n W s = .inr (T', s')) : s < s' ∧ s' ≤ L ∧ Ok (nIt (bA L X) L n s) T' := by
  have z := sr_it (g := bA L X) bA_hi hs ok
  rw [e] at z
  exact ⟨z.2.2.1, z.2.2.2, z.2.1⟩
theorem c_readL (hst : Hst h) (hL : X 1 = Int32.ofNat L) (h120 : L ≤ 120) (hb : byB L X) : ∀ (f i n : Nat) (W : TS) (s : Nat) (nu : Int32), Ok n W → s ≤ L → L ≤ s + 2 * f → i + f ≤ 110 → TXc a h T V X (txP (bA L X) L (f + 1) i n W s) (Rn 12 (11, [some (.ref 37), some (.ref 13), some (.int (Int32.ofNat i))], [], a, cw h T W V (rX (bA L X) L X s nu))) := by
  intro f
  induction f with
  | zero =>
    intro i n W s nu ok hs hf hi
    have it := c_readItem (a := a) (h := h) (T := T) (V := V) (nu := nu) hst hL h120 hb hs ok
    have lt : ((120 : Int32) < Int32.ofNat i) = False := ltF (k := 120) (by omega) (by decide)
    show TXc a h T V X (match itP (bA L X) L n W s with
      | .inl e => .inl e
      | .inr (T', s') => if kc (bA L X) s' = 0 then .inr (i, T', nIt (bA L X) L n s) else if kc (bA L X) s' = 3 then txP (bA L X) L 0 (i + 1) (nIt (bA L X) L n s) T' (nxT (bA L X) L s') else .inl s') _
    cases c : itP (bA L X) L n W s with
    | inl e =>
      rw [c] at it
      obtain ⟨W', nu', it⟩ := it
      refine ⟨W', rX (bA L X) L X e nu', rX_o, ?_⟩
      have f3 : rX (bA L X) L X e nu' 3 = Int32.ofNat e := rfl
      show _ = some (some (Value.int (-1 - Int32.ofNat e)), a, cw h T W' V _)
      rw [r12_11]
      simp only [r12_0, r12_1, r12_2, r12_5, r12_6, r12_9, r12_10, r12_12, r12_14, r12_17, r12_18, r12_19, r12_22, r12_25, r12_28, r12_29, r12_32, r12_33, r12_36, r12_37, r12_38, r12_39, r12_42, r12_43, r12_46, r12_49, r12_50, r12_53, r12_56, r12_59, r12_60, r12_61, r12_64, r12_65, Nl_none, Nl_int, Nl_ref, Nl_null, Kv_some, Ki_some, Kh_some, Bk_some, Bk_void, ↓reduceIte, mrt10, mrt11, zl2, zl3, zl4, zl8, Bool.false_eq_true, cx_tub, cx_trial, cx_kept, cx_isKept, cx_tape, cx_reader, cx_sheets, cx_findings, cx_mis, cx_mis37, cx_mis38, cx_bytes, cx_tlen, cx_rtape, cx_token, cx_start, cx_end, cx_number, cx_lnBytes, cx_lnSheets, cx_lnFind, Int32.reduceAdd, Int32.reduceSub, Int32.reduceMul, Int32.reduceLT, zqm0, zqm1, zqm2, zqm3, zqm4, zqm5, zqm6, zqm7, zqm8, zq0m, zq01, zq02, zq03, zq04, zq05, zq06, zq07, zq08, zq1m, zq10, zq12, zq13, zq14, zq15, zq16, zq17, zq18, zq2m, zq20, zq21, zq23, zq24, zq25, zq26, zq27, zq28, zq3m, zq30, zq31, zq32, zq34, zq35, zq36, zq37, zq38, zq4m, zq40, zq41, zq42, zq43, zq45, zq46, zq47, zq48, zq5m, zq50, zq51, zq52, zq53, zq54, zq56, zq57, zq58, zq6m, zq60, zq61, zq62, zq63, zq64, zq65, zq67, zq68, zq7m, zq70, zq71, zq72, zq73, zq74, zq75, zq76, zq78, zq8m, zq80, zq81, zq82, zq83, zq84, zq85, zq86, zq87, lt, it, f3]
    | inr r' =>
      obtain ⟨T', s'⟩ := r'
      have z := c_itkc hs ok c
      omega
  | succ f ih =>
    intro i n W s nu ok hs hf hi
    have it := c_readItem (a := a) (h := h) (T := T) (V := V) (nu := nu) hst hL h120 hb hs ok
    have lt : ((120 : Int32) < Int32.ofNat i) = False := ltF (k := 120) (by omega) (by decide)
    show TXc a h T V X (match itP (bA L X) L n W s with
      | .inl e => .inl e
      | .inr (T', s') => if kc (bA L X) s' = 0 then .inr (i, T', nIt (bA L X) L n s) else if kc (bA L X) s' = 3 then txP (bA L X) L (f + 1) (i + 1) (nIt (bA L X) L n s) T' (nxT (bA L X) L s') else .inl s') _
    cases c : itP (bA L X) L n W s with
    | inl e =>
      rw [c] at it
      obtain ⟨W', nu', it⟩ := it
      refine ⟨W', rX (bA L X) L X e nu', rX_o, ?_⟩
      have f3 : rX (bA L X) L X e nu' 3 = Int32.ofNat e := rfl
      show _ = some (some (Value.int (-1 - Int32.ofNat e)), a, cw h T W' V _)
      rw [r12_11]
      simp only [r12_0, r12_1, r12_2, r12_5, r12_6, r12_9, r12_10, r12_12, r12_14, r12_17, r12_18, r12_19, r12_22, r12_25, r12_28, r12_29, r12_32, r12_33, r12_36, r12_37, r12_38, r12_39, r12_42, r12_43, r12_46, r12_49, r12_50, r12_53, r12_56, r12_59, r12_60, r12_61, r12_64, r12_65, Nl_none, Nl_int, Nl_ref, Nl_null, Kv_some, Ki_some, Kh_some, Bk_some, Bk_void, ↓reduceIte, mrt10, mrt11, zl2, zl3, zl4, zl8, Bool.false_eq_true, cx_tub, cx_trial, cx_kept, cx_isKept, cx_tape, cx_reader, cx_sheets, cx_findings, cx_mis, cx_mis37, cx_mis38, cx_bytes, cx_tlen, cx_rtape, cx_token, cx_start, cx_end, cx_number, cx_lnBytes, cx_lnSheets, cx_lnFind, Int32.reduceAdd, Int32.reduceSub, Int32.reduceMul, Int32.reduceLT, zqm0, zqm1, zqm2, zqm3, zqm4, zqm5, zqm6, zqm7, zqm8, zq0m, zq01, zq02, zq03, zq04, zq05, zq06, zq07, zq08, zq1m, zq10, zq12, zq13, zq14, zq15, zq16, zq17, zq18, zq2m, zq20, zq21, zq23, zq24, zq25, zq26, zq27, zq28, zq3m, zq30, zq31, zq32, zq34, zq35, zq36, zq37, zq38, zq4m, zq40, zq41, zq42, zq43, zq45, zq46, zq47, zq48, zq5m, zq50, zq51, zq52, zq53, zq54, zq56, zq57, zq58, zq6m, zq60, zq61, zq62, zq63, zq64, zq65, zq67, zq68, zq7m, zq70, zq71, zq72, zq73, zq74, zq75, zq76, zq78, zq8m, zq80, zq81, zq82, zq83, zq84, zq85, zq86, zq87, lt, it, f3]
    | inr r' =>
      obtain ⟨T', s'⟩ := r'
      have z := c_itkc hs ok c
      rw [c] at it
      obtain ⟨nu', gn, it⟩ := it
      have f2 : rX (bA L X) L X s' nu' 2 = kcC (bA L X) s' := rfl
      have f3 : rX (bA L X) L X s' nu' 3 = Int32.ofNat s' := rfl
      show TXc a h T V X (if kc (bA L X) s' = 0 then .inr (i, T', nIt (bA L X) L n s) else if kc (bA L X) s' = 3 then txP (bA L X) L (f + 1) (i + 1) (nIt (bA L X) L n s) T' (nxT (bA L X) L s') else .inl s') _
      rw [r12_11]
      by_cases k0 : kc (bA L X) s' = 0
      · rw [if_pos k0]
        refine ⟨T', rX (bA L X) L X s' nu', rX_o, rfl, ?_⟩
        have k0' : kcC (bA L X) s' = 3 := by rw [kcC_3]; exact k0
        simp only [r12_0, r12_1, r12_2, r12_5, r12_6, r12_9, r12_10, r12_12, r12_14, r12_17, r12_18, r12_19, r12_22, r12_25, r12_28, r12_29, r12_32, r12_33, r12_36, r12_37, r12_38, r12_39, r12_42, r12_43, r12_46, r12_49, r12_50, r12_53, r12_56, r12_59, r12_60, r12_61, r12_64, r12_65, Nl_none, Nl_int, Nl_ref, Nl_null, Kv_some, Ki_some, Kh_some, Bk_some, Bk_void, ↓reduceIte, mrt10, mrt11, zl2, zl3, zl4, zl8, Bool.false_eq_true, cx_tub, cx_trial, cx_kept, cx_isKept, cx_tape, cx_reader, cx_sheets, cx_findings, cx_mis, cx_mis37, cx_mis38, cx_bytes, cx_tlen, cx_rtape, cx_token, cx_start, cx_end, cx_number, cx_lnBytes, cx_lnSheets, cx_lnFind, Int32.reduceAdd, Int32.reduceSub, Int32.reduceMul, Int32.reduceLT, zqm0, zqm1, zqm2, zqm3, zqm4, zqm5, zqm6, zqm7, zqm8, zq0m, zq01, zq02, zq03, zq04, zq05, zq06, zq07, zq08, zq1m, zq10, zq12, zq13, zq14, zq15, zq16, zq17, zq18, zq2m, zq20, zq21, zq23, zq24, zq25, zq26, zq27, zq28, zq3m, zq30, zq31, zq32, zq34, zq35, zq36, zq37, zq38, zq4m, zq40, zq41, zq42, zq43, zq45, zq46, zq47, zq48, zq5m, zq50, zq51, zq52, zq53, zq54, zq56, zq57, zq58, zq6m, zq60, zq61, zq62, zq63, zq64, zq65, zq67, zq68, zq7m, zq70, zq71, zq72, zq73, zq74, zq75, zq76, zq78, zq8m, zq80, zq81, zq82, zq83, zq84, zq85, zq86, zq87, lt, it, f2, k0']
      rw [if_neg k0]
      have k0' : ¬ kcC (bA L X) s' = 3 := by rw [kcC_3]; exact k0
      by_cases k3 : kc (bA L X) s' = 3
      · rw [if_pos k3]
        have k3' : kcC (bA L X) s' = 2 := by rw [kcC_2]; exact k3
        have g := nx_gt (L := L) (g := bA L X) bA_hi z.2.1 k3
        have := ih (i + 1) (nIt (bA L X) L n s) T' (nxT (bA L X) L s') (nuN (bA L X) L (nxT (bA L X) L s') nu') z.2.2 g.2 (by omega) (by omega)
        simp only [r12_0, r12_1, r12_2, r12_5, r12_6, r12_9, r12_10, r12_12, r12_14, r12_17, r12_18, r12_19, r12_22, r12_25, r12_28, r12_29, r12_32, r12_33, r12_36, r12_37, r12_38, r12_39, r12_42, r12_43, r12_46, r12_49, r12_50, r12_53, r12_56, r12_59, r12_60, r12_61, r12_64, r12_65, Nl_none, Nl_int, Nl_ref, Nl_null, Kv_some, Ki_some, Kh_some, Bk_some, Bk_void, ↓reduceIte, mrt10, mrt11, zl2, zl3, zl4, zl8, Bool.false_eq_true, cx_tub, cx_trial, cx_kept, cx_isKept, cx_tape, cx_reader, cx_sheets, cx_findings, cx_mis, cx_mis37, cx_mis38, cx_bytes, cx_tlen, cx_rtape, cx_token, cx_start, cx_end, cx_number, cx_lnBytes, cx_lnSheets, cx_lnFind, Int32.reduceAdd, Int32.reduceSub, Int32.reduceMul, Int32.reduceLT, zqm0, zqm1, zqm2, zqm3, zqm4, zqm5, zqm6, zqm7, zqm8, zq0m, zq01, zq02, zq03, zq04, zq05, zq06, zq07, zq08, zq1m, zq10, zq12, zq13, zq14, zq15, zq16, zq17, zq18, zq2m, zq20, zq21, zq23, zq24, zq25, zq26, zq27, zq28, zq3m, zq30, zq31, zq32, zq34, zq35, zq36, zq37, zq38, zq4m, zq40, zq41, zq42, zq43, zq45, zq46, zq47, zq48, zq5m, zq50, zq51, zq52, zq53, zq54, zq56, zq57, zq58, zq6m, zq60, zq61, zq62, zq63, zq64, zq65, zq67, zq68, zq7m, zq70, zq71, zq72, zq73, zq74, zq75, zq76, zq78, zq8m, zq80, zq81, zq82, zq83, zq84, zq85, zq86, zq87, lt, it, f2, k3', c_next hL h120 hb z.2.1, of_in]
        exact this
      · rw [if_neg k3]
        have k3' : ¬ kcC (bA L X) s' = 2 := by rw [kcC_2]; exact k3
        refine ⟨T', rX (bA L X) L X s' nu', rX_o, ?_⟩
        show _ = some (some (Value.int (-1 - Int32.ofNat s')), a, cw h T T' V _)
        simp only [r12_0, r12_1, r12_2, r12_5, r12_6, r12_9, r12_10, r12_12, r12_14, r12_17, r12_18, r12_19, r12_22, r12_25, r12_28, r12_29, r12_32, r12_33, r12_36, r12_37, r12_38, r12_39, r12_42, r12_43, r12_46, r12_49, r12_50, r12_53, r12_56, r12_59, r12_60, r12_61, r12_64, r12_65, Nl_none, Nl_int, Nl_ref, Nl_null, Kv_some, Ki_some, Kh_some, Bk_some, Bk_void, ↓reduceIte, mrt10, mrt11, zl2, zl3, zl4, zl8, Bool.false_eq_true, cx_tub, cx_trial, cx_kept, cx_isKept, cx_tape, cx_reader, cx_sheets, cx_findings, cx_mis, cx_mis37, cx_mis38, cx_bytes, cx_tlen, cx_rtape, cx_token, cx_start, cx_end, cx_number, cx_lnBytes, cx_lnSheets, cx_lnFind, Int32.reduceAdd, Int32.reduceSub, Int32.reduceMul, Int32.reduceLT, zqm0, zqm1, zqm2, zqm3, zqm4, zqm5, zqm6, zqm7, zqm8, zq0m, zq01, zq02, zq03, zq04, zq05, zq06, zq07, zq08, zq1m, zq10, zq12, zq13, zq14, zq15, zq16, zq17, zq18, zq2m, zq20, zq21, zq23, zq24, zq25, zq26, zq27, zq28, zq3m, zq30, zq31, zq32, zq34, zq35, zq36, zq37, zq38, zq4m, zq40, zq41, zq42, zq43, zq45, zq46, zq47, zq48, zq5m, zq50, zq51, zq52, zq53, zq54, zq56, zq57, zq58, zq6m, zq60, zq61, zq62, zq63, zq64, zq65, zq67, zq68, zq7m, zq70, zq71, zq72, zq73, zq74, zq75, zq76, zq78, zq8m, zq80, zq81, zq82, zq83, zq84, zq85, zq86, zq87, lt, it, f2, if_neg k0', if_neg k3', f3]
/-- two Tubs that stand for one, and a text -/
def TXr (r r' : Nat ⊕ (Nat × TS × Nat)) : Prop := match r, r' with
  | .inl e, .inl e' => e = e' ∧ e ≤ 120
  | .inr (i, T, n), .inr (i', U, n') => i = i' ∧ n = n' ∧ SR n T U ∧ i ≤ 200
  | _, _ => False
theorem sr_tx {g : Nat → Int32} (hg : ∀ i, L ≤ i → g i = -1) (h120 : L ≤ 120) : ∀ (f i n : Nat) (T U : TS) (s : Nat), SR n T U → s ≤ L → i + f ≤ 200 → TXr (txP g L f i n T s) (txP g L f i n U s) := by
  intro f
  induction f with
  | zero => intro i n T U s h hs hi; exact ⟨rfl, by omega⟩
  | succ f ih =>
    intro i n T U s h hs hi
    have z := sr_it hg hs h
    show TXr (match itP g L n T s with
      | .inl e => .inl e
      | .inr (T', s') => if kc g s' = 0 then .inr (i, T', nIt g L n s) else if kc g s' = 3 then txP g L f (i + 1) (nIt g L n s) T' (nxT g L s') else .inl s') (match itP g L n U s with
      | .inl e => .inl e
      | .inr (T', s') => if kc g s' = 0 then .inr (i, T', nIt g L n s) else if kc g s' = 3 then txP g L f (i + 1) (nIt g L n s) T' (nxT g L s') else .inl s')
    generalize itP g L n T s = r1 at z ⊢
    generalize itP g L n U s = r2 at z ⊢
    match r1, r2, z with
    | .inl e, .inl e', z => exact ⟨z.1, by have := z.2; omega⟩
    | .inr (T', s1), .inr (U', s2), z =>
      obtain ⟨rfl, z1, z2, z3⟩ := z
      show TXr (if kc g s1 = 0 then .inr (i, T', nIt g L n s) else if kc g s1 = 3 then txP g L f (i + 1) (nIt g L n s) T' (nxT g L s1) else .inl s1) (if kc g s1 = 0 then .inr (i, U', nIt g L n s) else if kc g s1 = 3 then txP g L f (i + 1) (nIt g L n s) U' (nxT g L s1) else .inl s1)
      by_cases k0 : kc g s1 = 0
      · rw [if_pos k0, if_pos k0]; exact ⟨rfl, rfl, z1, by omega⟩
      rw [if_neg k0, if_neg k0]
      by_cases k3 : kc g s1 = 3
      · rw [if_pos k3, if_pos k3]
        exact ih (i + 1) (nIt g L n s) T' U' (nxT g L s1) z1 (nx_le hg z3).2 (by omega)
      · rw [if_neg k3, if_neg k3]; exact ⟨rfl, by omega⟩
theorem tk_eq {n : Nat} {W T1 T : TS} (h : SR n W T1) : tkS n W T = tkS n T1 T := by
  funext k
  unfold tkS
  by_cases q : k = 86
  · rw [if_pos q, if_pos q]
  rw [if_neg q, if_neg q]
  by_cases r : k < 28 + 6 * n ∨ 76 ≤ k ∧ k < 86
  · rw [if_pos r, if_pos r]
    by_cases k0 : k = 0
    · rw [k0, h.2.1, h.2.2.1]
    · exact (h.2.2.2 k (by omega) r).1
  · rw [if_neg r, if_neg r]
theorem co_text (hL : X 1 = Int32.ofNat L) (h120 : L ≤ 120) (hb : byB L X) (ok : Ok n T) : match txR L n X T with
    | .inl e => OpC 92 [] T V X (.int (-1 - Int32.ofNat e)) T V (mfu X 1 0)
    | .inr (i, T1, n1) => OpC 92 [] T V X (.int (Int32.ofNat i)) (tkS n1 T1 T) V (mfu X 1 0) := by
  have s0 := sp_le (g := bA L X) (Nat.zero_le L)
  have key : ∀ (a : MA) (h : MH) (U : TS), Hst h → TXc a h T V X (txR L n X (tkS n T U)) (Ec 12 [.ref 37, .ref 13] a (cw h T (tkS n T U) V X)) := by
    intro a h U hst
    have okW : Ok n (tkS n T U) := (sr_tk ok).ok
    have nx := c_nextE (a := a) (h := h) (T := T) (U := tkS n T U) (V := V) (tk := X 2) (st := X 3) (nu := X 5) hL h120 hb (Nat.zero_le L)
    have nx : Ec 23 [.ref 37] a (cw h T (tkS n T U) V (rx X (X 2) (X 3) 0 (X 5))) = _ := nx
    have e4 : mfu X 4 0 = rx X (X 2) (X 3) 0 (X 5) := by rw [← rxw4 (c := X 4), rx_id]
    have r := c_readL (a := a) (h := h) (T := T) (V := V) hst hL h120 hb 60 1 n (tkS n T U) (sp (bA L X) L 0) (nuN (bA L X) L (sp (bA L X) L 0) (X 5)) okW s0.2 (by omega) (by omega)
    have e : Ec 12 [.ref 37, .ref 13] a (cw h T (tkS n T U) V X) = Rn 12 (11, [some (.ref 37), some (.ref 13), some (.int (Int32.ofNat 1))], [], a, cw h T (tkS n T U) V (rX (bA L X) L X (sp (bA L X) L 0) (nuN (bA L X) L (sp (bA L X) L 0) (X 5)))) := by
      rw [Ec_go rfl]; show Rn 12 (0, [some (.ref 37), some (.ref 13), none], [], a, cw h T (tkS n T U) V X) = _
      simp only [r12_0, r12_1, r12_2, r12_5, r12_6, r12_9, r12_10, r12_12, r12_14, r12_17, r12_18, r12_19, r12_22, r12_25, r12_28, r12_29, r12_32, r12_33, r12_36, r12_37, r12_38, r12_39, r12_42, r12_43, r12_46, r12_49, r12_50, r12_53, r12_56, r12_59, r12_60, r12_61, r12_64, r12_65, Nl_none, Nl_int, Nl_ref, Nl_null, Kv_some, Ki_some, Kh_some, Bk_some, Bk_void, ↓reduceIte, mrt10, mrt11, zl2, zl3, zl4, zl8, Bool.false_eq_true, cx_tub, cx_trial, cx_kept, cx_isKept, cx_tape, cx_reader, cx_sheets, cx_findings, cx_mis, cx_mis37, cx_mis38, cx_bytes, cx_tlen, cx_rtape, cx_token, cx_start, cx_end, cx_number, cx_lnBytes, cx_lnSheets, cx_lnFind, cp_end, e4, nx]
      rfl
    rw [e]; exact r
  have fin : ∀ X' : TS, (∀ k, (k < 2 ∨ 6 ≤ k) → X' k = X k) → ∀ k, (k < 2 ∨ 6 ≤ k) → mfu X' 1 0 k = mfu X 1 0 k := by
    intro X' hx k hk
    unfold mfu
    by_cases q : k = 1
    · rw [if_pos q, if_pos q]
    · rw [if_neg q, if_neg q]; exact hx k hk
  have rel : ∀ U, TXr (txR L n X (tkS n T U)) (txR L n X T) := fun U => sr_tx bA_hi h120 61 1 n (tkS n T U) T (sp (bA L X) L 0) (sr_tk ok) s0.2 (by omega)
  cases c : txR L n X T with
  | inl e =>
    intro a h U hst
    have kk := key a h U hst
    have rr := rel U
    rw [c] at rr
    match d : txR L n X (tkS n T U), rr with
    | .inl e', rr =>
      rw [d] at kk
      obtain ⟨W, X', hx, kk⟩ := kk
      have ee : e' = e := rr.1
      subst ee
      have neg : (-1 - Int32.ofNat e' < 0) = True := by
        have e1 : (-1 : Int32).toInt = -1 := by decide
        have e0 : (0 : Int32).toInt = 0 := by decide
        have le := rr.2
        have f := ti_of (n := e') (by omega)
        rw [lt_ti, ti_sub (by omega) (by omega), e1, e0, f]
        exact eq_true (by omega)
      refine ⟨W, mfu X' 1 0, ?_, fin X' hx⟩
      rw [Ec_go rfl]; show Rn 92 (0, [some (.ref 0), none], [], a, cw h T U V X) = _
      simp only [r92_0, r92_1, r92_4, r92_5, r92_8, r92_9, r92_12, r92_15, r92_16, r92_17, r92_20, r92_21, r92_24, r92_25, r92_28, r92_31, r92_32, r92_35, r92_36, r92_39, r92_40, Nl_none, Nl_int, Nl_ref, Nl_null, Kv_some, Ki_some, Kh_some, Bk_some, Bk_void, ↓reduceIte, mrt10, mrt11, zl2, zl3, zl4, zl8, Bool.false_eq_true, cx_tub, cx_trial, cx_kept, cx_isKept, cx_tape, cx_reader, cx_sheets, cx_findings, cx_mis, cx_mis37, cx_mis38, cx_bytes, cx_tlen, cx_rtape, cx_token, cx_start, cx_end, cx_number, cx_lnBytes, cx_lnSheets, cx_lnFind, Int32.reduceAdd, Int32.reduceSub, Int32.reduceMul, Int32.reduceLT, zqm0, zqm1, zqm2, zqm3, zqm4, zqm5, zqm6, zqm7, zqm8, zq0m, zq01, zq02, zq03, zq04, zq05, zq06, zq07, zq08, zq1m, zq10, zq12, zq13, zq14, zq15, zq16, zq17, zq18, zq2m, zq20, zq21, zq23, zq24, zq25, zq26, zq27, zq28, zq3m, zq30, zq31, zq32, zq34, zq35, zq36, zq37, zq38, zq4m, zq40, zq41, zq42, zq43, zq45, zq46, zq47, zq48, zq5m, zq50, zq51, zq52, zq53, zq54, zq56, zq57, zq58, zq6m, zq60, zq61, zq62, zq63, zq64, zq65, zq67, zq68, zq7m, zq70, zq71, zq72, zq73, zq74, zq75, zq76, zq78, zq8m, zq80, zq81, zq82, zq83, zq84, zq85, zq86, zq87, e_begin13 ok, kk, neg, cp_tlen]
  | inr r =>
    obtain ⟨i, T1, n1⟩ := r
    intro a h U hst
    have kk := key a h U hst
    have rr := rel U
    rw [c] at rr
    match d : txR L n X (tkS n T U), rr with
    | .inr (i', W1, n2), rr =>
      rw [d] at kk
      obtain ⟨W, X', hx, rfl, kk⟩ := kk
      obtain ⟨ei, en, hs, i200⟩ := rr
      subst ei
      subst en
      have neg : (Int32.ofNat i' < 0) = False := of_nn (by omega)
      refine ⟨W, mfu X' 1 0, ?_, fin X' hx⟩
      rw [← tk_eq hs]
      rw [Ec_go rfl]; show Rn 92 (0, [some (.ref 0), none], [], a, cw h T U V X) = _
      simp only [r92_0, r92_1, r92_4, r92_5, r92_8, r92_9, r92_12, r92_15, r92_16, r92_17, r92_20, r92_21, r92_24, r92_25, r92_28, r92_31, r92_32, r92_35, r92_36, r92_39, r92_40, Nl_none, Nl_int, Nl_ref, Nl_null, Kv_some, Ki_some, Kh_some, Bk_some, Bk_void, ↓reduceIte, mrt10, mrt11, zl2, zl3, zl4, zl8, Bool.false_eq_true, cx_tub, cx_trial, cx_kept, cx_isKept, cx_tape, cx_reader, cx_sheets, cx_findings, cx_mis, cx_mis37, cx_mis38, cx_bytes, cx_tlen, cx_rtape, cx_token, cx_start, cx_end, cx_number, cx_lnBytes, cx_lnSheets, cx_lnFind, Int32.reduceAdd, Int32.reduceSub, Int32.reduceMul, Int32.reduceLT, zqm0, zqm1, zqm2, zqm3, zqm4, zqm5, zqm6, zqm7, zqm8, zq0m, zq01, zq02, zq03, zq04, zq05, zq06, zq07, zq08, zq1m, zq10, zq12, zq13, zq14, zq15, zq16, zq17, zq18, zq2m, zq20, zq21, zq23, zq24, zq25, zq26, zq27, zq28, zq3m, zq30, zq31, zq32, zq34, zq35, zq36, zq37, zq38, zq4m, zq40, zq41, zq42, zq43, zq45, zq46, zq47, zq48, zq5m, zq50, zq51, zq52, zq53, zq54, zq56, zq57, zq58, zq6m, zq60, zq61, zq62, zq63, zq64, zq65, zq67, zq68, zq7m, zq70, zq71, zq72, zq73, zq74, zq75, zq76, zq78, zq8m, zq80, zq81, zq82, zq83, zq84, zq85, zq86, zq87, mis_1, e_begin13 ok, kk, neg, e_take1_13 hs.ok, cp_tlen]
end
