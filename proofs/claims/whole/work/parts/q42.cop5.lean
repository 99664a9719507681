/-! ===== the class's calls: fits, held, kinds, sticks, odds, feed ===== -/
theorem wnX_cases {x : Int32} {X : TS} : (wnX x X = 0 ∧ isS x = true) ∨ wnX x X = -1000006 ∨ wnX x X = -1000001 := by
  unfold wnX
  by_cases q : isS x = true
  · rw [if_pos q]
    split
    · exact Or.inr (Or.inl rfl)
    · exact Or.inl ⟨rfl, q⟩
  · rw [if_neg q]; exact Or.inr (Or.inr rfl)
theorem wfX_cases {x y z : Int32} {n : Nat} {X : TS} : (wfX x y z n X = 0 ∧ isS x = true ∧ hsB y n = true ∧ isC z = true) ∨ wfX x y z n X = -1000006 ∨ wfX x y z n X = -1000001 := by
  unfold wfX
  rcases wnX_cases (x := x) (X := X) with h | h | h
  · rw [if_neg (fun q => q h.1)]
    by_cases r : hsB y n = true ∧ isC z = true
    · rw [if_pos r]; exact Or.inl ⟨rfl, h.2, r.1, r.2⟩
    · rw [if_neg r]; exact Or.inr (Or.inr rfl)
  · rw [if_pos (by rw [h]; decide), h]; exact Or.inr (Or.inl rfl)
  · rw [if_pos (by rw [h]; decide), h]; exact Or.inr (Or.inr rfl)
def szX (X : TS) : Prop := ∀ s, s < 4 → ∃ m, m ≤ 40 ∧ X (241 + 50 * s) = Int32.ofNat m
section
variable {a : MA} {h hh : MH} {T U V X W : TS} {x y z v w out : Int32} {n k m s i : Nat}
theorem cq_fits (ok : Ok n T) (hsz : szX X) : OpQC 84 [.int x, .int y, .int z] T V X (fiQ (wfX x y z n X) (fun i => X (200 + 50 * iN x + i)) (iN (X (241 + 50 * iN x))) (iN y) z n T) := by
  intro a h U _
  have h8 := ok.1
  unfold fiQ brQ
  rcases wfX_cases (x := x) (y := y) (z := z) (n := n) (X := X) with w | w | w
  · rw [if_pos w.1]
    obtain ⟨w, h0, h1, h2⟩ := w
    obtain ⟨s, hs, rfl⟩ := isS_nat h0
    obtain ⟨t, ht, rfl⟩ := hs_of h1 h8
    obtain ⟨m, hm, es⟩ := hsz s hs
    rw [iN_of (show s < 2147483648 by omega), iN_of (show t < 2147483648 by omega), es, iN_of (show m < 2147483648 by omega)]
    have D : ∀ j, j ≤ 201 → ∀ U1, ∃ U', Rn 84 (27, [some (.ref 0), some (.int (Int32.ofNat s)), some (.int (Int32.ofNat t)), some (.int z), some (.int 0), some (.int (Int32.ofNat (cnt (ftP (fun i => X (200 + 50 * s + i)) m t z n T) (201 - j)))), some (.int (Int32.ofNat (201 - j)))], [], a, cw h T U1 V X) = some (some (.int (Int32.ofNat (cnt (ftP (fun i => X (200 + 50 * s + i)) m t z n T) 201))), a, cw h T U' V X) := by
      intro j
      induction j with
      | zero =>
        intro _ U1
        refine ⟨U1, ?_⟩
        have lt : ((200 : Int32) < Int32.ofNat 201) = True := ltT (k := 200) (by omega) (by decide)
        rw [show 201 - 0 = 201 from rfl, r84_27]
        simp only [r84_0, r84_1, r84_2, r84_3, r84_4, r84_7, r84_9, r84_11, r84_14, r84_15, r84_17, r84_20, r84_21, r84_22, r84_24, r84_25, r84_29, r84_32, r84_35, r84_36, r84_37, r84_38, r84_41, r84_42, r84_43, r84_45, r84_48, r84_51, r84_54, r84_57, r84_60, r84_62, Nl_none, Nl_int, Nl_ref, Nl_null, Kv_some, Ki_some, Kh_some, Bk_some, Bk_void, ↓reduceIte, mrt10, mrt11, zl2, zl3, zl4, zl8, Bool.false_eq_true, cx_tub, cx_trial, cx_kept, cx_isKept, cx_tape, cx_reader, cx_sheets, cx_findings, cx_mis, cx_mis37, cx_mis38, cx_bytes, cx_tlen, cx_rtape, cx_token, cx_start, cx_end, cx_number, cx_lnBytes, cx_lnSheets, cx_lnFind, Int32.reduceAdd, Int32.reduceSub, Int32.reduceMul, Int32.reduceLT, zqm0, zqm1, zqm2, zqm3, zqm4, zqm5, zqm6, zqm7, zqm8, zq0m, zq01, zq02, zq03, zq04, zq05, zq06, zq07, zq08, zq1m, zq10, zq12, zq13, zq14, zq15, zq16, zq17, zq18, zq2m, zq20, zq21, zq23, zq24, zq25, zq26, zq27, zq28, zq3m, zq30, zq31, zq32, zq34, zq35, zq36, zq37, zq38, zq4m, zq40, zq41, zq42, zq43, zq45, zq46, zq47, zq48, zq5m, zq50, zq51, zq52, zq53, zq54, zq56, zq57, zq58, zq6m, zq60, zq61, zq62, zq63, zq64, zq65, zq67, zq68, zq7m, zq70, zq71, zq72, zq73, zq74, zq75, zq76, zq78, zq8m, zq80, zq81, zq82, zq83, zq84, zq85, zq86, zq87, lt]
      | succ j ih =>
        intro hj U1
        obtain ⟨i, hi⟩ : ∃ i, i + (j + 1) = 201 := ⟨201 - (j + 1), by omega⟩
        rw [show 201 - (j + 1) = i by omega]
        have lt : ((200 : Int32) < Int32.ofNat i) = False := ltF (k := 200) (by omega) (by decide)
        obtain ⟨U2, e⟩ := c_couldHold (a := a) (h := h) (U := U1) (V := V) (v := i) ok hs ht h2 (by omega) es hm
        have e : Ec 120 [.ref 0, .ref (42 + 2 * s), .int (Int32.ofNat t), .int z, .int (Int32.ofNat i)] a (cw h T U1 V X) = some (some (.int (b2i (ftP (fun i => X (200 + 50 * s + i)) m t z n T i))), a, cw h T U2 V X) := e
        obtain ⟨U3, e3⟩ := ih (by omega) U2
        rw [show 201 - j = i + 1 by omega] at e3
        refine ⟨U3, ?_⟩
        have ec : cnt (ftP (fun i => X (200 + 50 * s + i)) m t z n T) (i + 1) = cnt (ftP (fun i => X (200 + 50 * s + i)) m t z n T) i + (if ftP (fun i => X (200 + 50 * s + i)) m t z n T i = true then 1 else 0) := rfl
        rw [r84_27]
        by_cases q : ftP (fun i => X (200 + 50 * s + i)) m t z n T i = true
        · rw [if_pos q] at ec
          rw [ec] at e3
          simp only [r84_0, r84_1, r84_2, r84_3, r84_4, r84_7, r84_9, r84_11, r84_14, r84_15, r84_17, r84_20, r84_21, r84_22, r84_24, r84_25, r84_29, r84_32, r84_35, r84_36, r84_37, r84_38, r84_41, r84_42, r84_43, r84_45, r84_48, r84_51, r84_54, r84_57, r84_60, r84_62, Nl_none, Nl_int, Nl_ref, Nl_null, Kv_some, Ki_some, Kh_some, Bk_some, Bk_void, ↓reduceIte, mrt10, mrt11, zl2, zl3, zl4, zl8, Bool.false_eq_true, cx_tub, cx_trial, cx_kept, cx_isKept, cx_tape, cx_reader, cx_sheets, cx_findings, cx_mis, cx_mis37, cx_mis38, cx_bytes, cx_tlen, cx_rtape, cx_token, cx_start, cx_end, cx_number, cx_lnBytes, cx_lnSheets, cx_lnFind, Int32.reduceAdd, Int32.reduceSub, Int32.reduceMul, Int32.reduceLT, zqm0, zqm1, zqm2, zqm3, zqm4, zqm5, zqm6, zqm7, zqm8, zq0m, zq01, zq02, zq03, zq04, zq05, zq06, zq07, zq08, zq1m, zq10, zq12, zq13, zq14, zq15, zq16, zq17, zq18, zq2m, zq20, zq21, zq23, zq24, zq25, zq26, zq27, zq28, zq3m, zq30, zq31, zq32, zq34, zq35, zq36, zq37, zq38, zq4m, zq40, zq41, zq42, zq43, zq45, zq46, zq47, zq48, zq5m, zq50, zq51, zq52, zq53, zq54, zq56, zq57, zq58, zq6m, zq60, zq61, zq62, zq63, zq64, zq65, zq67, zq68, zq7m, zq70, zq71, zq72, zq73, zq74, zq75, zq76, zq78, zq8m, zq80, zq81, zq82, zq83, zq84, zq85, zq86, zq87, lt, e_sheetAt hs, e, q, b2i, of_in]
          exact e3
        · rw [if_neg q] at ec
          rw [ec] at e3
          simp only [r84_0, r84_1, r84_2, r84_3, r84_4, r84_7, r84_9, r84_11, r84_14, r84_15, r84_17, r84_20, r84_21, r84_22, r84_24, r84_25, r84_29, r84_32, r84_35, r84_36, r84_37, r84_38, r84_41, r84_42, r84_43, r84_45, r84_48, r84_51, r84_54, r84_57, r84_60, r84_62, Nl_none, Nl_int, Nl_ref, Nl_null, Kv_some, Ki_some, Kh_some, Bk_some, Bk_void, ↓reduceIte, mrt10, mrt11, zl2, zl3, zl4, zl8, Bool.false_eq_true, cx_tub, cx_trial, cx_kept, cx_isKept, cx_tape, cx_reader, cx_sheets, cx_findings, cx_mis, cx_mis37, cx_mis38, cx_bytes, cx_tlen, cx_rtape, cx_token, cx_start, cx_end, cx_number, cx_lnBytes, cx_lnSheets, cx_lnFind, Int32.reduceAdd, Int32.reduceSub, Int32.reduceMul, Int32.reduceLT, zqm0, zqm1, zqm2, zqm3, zqm4, zqm5, zqm6, zqm7, zqm8, zq0m, zq01, zq02, zq03, zq04, zq05, zq06, zq07, zq08, zq1m, zq10, zq12, zq13, zq14, zq15, zq16, zq17, zq18, zq2m, zq20, zq21, zq23, zq24, zq25, zq26, zq27, zq28, zq3m, zq30, zq31, zq32, zq34, zq35, zq36, zq37, zq38, zq4m, zq40, zq41, zq42, zq43, zq45, zq46, zq47, zq48, zq5m, zq50, zq51, zq52, zq53, zq54, zq56, zq57, zq58, zq6m, zq60, zq61, zq62, zq63, zq64, zq65, zq67, zq68, zq7m, zq70, zq71, zq72, zq73, zq74, zq75, zq76, zq78, zq8m, zq80, zq81, zq82, zq83, zq84, zq85, zq86, zq87, lt, e_sheetAt hs, e, q, b2i, of_in]
          exact e3
    obtain ⟨U', e⟩ := D 201 (Nat.le_refl 201) U
    refine ⟨U', X, ?_, fun k _ => rfl⟩
    rw [qv_l]
    rw [Ec_go rfl]; show Rn 84 (0, [some (.ref 0), some (.int (Int32.ofNat s)), some (.int (Int32.ofNat t)), some (.int z), none, none, none], [], a, cw h T U V X) = _
    simp only [r84_0, r84_1, r84_2, r84_3, r84_4, r84_7, r84_9, r84_11, r84_14, r84_15, r84_17, r84_20, r84_21, r84_22, r84_24, r84_25, r84_29, r84_32, r84_35, r84_36, r84_37, r84_38, r84_41, r84_42, r84_43, r84_45, r84_48, r84_51, r84_54, r84_57, r84_60, r84_62, Nl_none, Nl_int, Nl_ref, Nl_null, Kv_some, Ki_some, Kh_some, Bk_some, Bk_void, ↓reduceIte, mrt10, mrt11, zl2, zl3, zl4, zl8, Bool.false_eq_true, cx_tub, cx_trial, cx_kept, cx_isKept, cx_tape, cx_reader, cx_sheets, cx_findings, cx_mis, cx_mis37, cx_mis38, cx_bytes, cx_tlen, cx_rtape, cx_token, cx_start, cx_end, cx_number, cx_lnBytes, cx_lnSheets, cx_lnFind, Int32.reduceAdd, Int32.reduceSub, Int32.reduceMul, Int32.reduceLT, zqm0, zqm1, zqm2, zqm3, zqm4, zqm5, zqm6, zqm7, zqm8, zq0m, zq01, zq02, zq03, zq04, zq05, zq06, zq07, zq08, zq1m, zq10, zq12, zq13, zq14, zq15, zq16, zq17, zq18, zq2m, zq20, zq21, zq23, zq24, zq25, zq26, zq27, zq28, zq3m, zq30, zq31, zq32, zq34, zq35, zq36, zq37, zq38, zq4m, zq40, zq41, zq42, zq43, zq45, zq46, zq47, zq48, zq5m, zq50, zq51, zq52, zq53, zq54, zq56, zq57, zq58, zq6m, zq60, zq61, zq62, zq63, zq64, zq65, zq67, zq68, zq7m, zq70, zq71, zq72, zq73, zq74, zq75, zq76, zq78, zq8m, zq80, zq81, zq82, zq83, zq84, zq85, zq86, zq87, e_wrongFor ok, w]
    exact e
  · rw [w, if_neg (by decide), if_pos rfl]
    refine ⟨U, fnX 5 X, ?_, fun k _ => rfl⟩
    rw [qv_5]
    rw [Ec_go rfl]; show Rn 84 (0, [some (.ref 0), some (.int x), some (.int y), some (.int z), none, none, none], [], a, cw h T U V X) = _
    simp only [r84_0, r84_1, r84_2, r84_3, r84_4, r84_7, r84_9, r84_11, r84_14, r84_15, r84_17, r84_20, r84_21, r84_22, r84_24, r84_25, r84_27, r84_29, r84_32, r84_35, r84_36, r84_37, r84_38, r84_41, r84_42, r84_43, r84_45, r84_48, r84_51, r84_54, r84_57, r84_60, r84_62, Nl_none, Nl_int, Nl_ref, Nl_null, Kv_some, Ki_some, Kh_some, Bk_some, Bk_void, ↓reduceIte, mrt10, mrt11, zl2, zl3, zl4, zl8, Bool.false_eq_true, cx_tub, cx_trial, cx_kept, cx_isKept, cx_tape, cx_reader, cx_sheets, cx_findings, cx_mis, cx_mis37, cx_mis38, cx_bytes, cx_tlen, cx_rtape, cx_token, cx_start, cx_end, cx_number, cx_lnBytes, cx_lnSheets, cx_lnFind, Int32.reduceAdd, Int32.reduceSub, Int32.reduceMul, Int32.reduceLT, zqm0, zqm1, zqm2, zqm3, zqm4, zqm5, zqm6, zqm7, zqm8, zq0m, zq01, zq02, zq03, zq04, zq05, zq06, zq07, zq08, zq1m, zq10, zq12, zq13, zq14, zq15, zq16, zq17, zq18, zq2m, zq20, zq21, zq23, zq24, zq25, zq26, zq27, zq28, zq3m, zq30, zq31, zq32, zq34, zq35, zq36, zq37, zq38, zq4m, zq40, zq41, zq42, zq43, zq45, zq46, zq47, zq48, zq5m, zq50, zq51, zq52, zq53, zq54, zq56, zq57, zq58, zq6m, zq60, zq61, zq62, zq63, zq64, zq65, zq67, zq68, zq7m, zq70, zq71, zq72, zq73, zq74, zq75, zq76, zq78, zq8m, zq80, zq81, zq82, zq83, zq84, zq85, zq86, zq87, e_isLayer, e_isColour, e_isKind, e_isSpot, e_isWithin, cf_0, cf_1, cf_2, cf_3, cf_4, cf_5, cf_6, b2i, mis_1, mis_13, mis_25, e_wrongFor ok, w, m5z]
  · rw [w, if_neg (by decide), if_neg (by decide)]
    refine ⟨U, fnX 0 X, ?_, fun k _ => rfl⟩
    rw [qv_0]
    rw [Ec_go rfl]; show Rn 84 (0, [some (.ref 0), some (.int x), some (.int y), some (.int z), none, none, none], [], a, cw h T U V X) = _
    simp only [r84_0, r84_1, r84_2, r84_3, r84_4, r84_7, r84_9, r84_11, r84_14, r84_15, r84_17, r84_20, r84_21, r84_22, r84_24, r84_25, r84_27, r84_29, r84_32, r84_35, r84_36, r84_37, r84_38, r84_41, r84_42, r84_43, r84_45, r84_48, r84_51, r84_54, r84_57, r84_60, r84_62, Nl_none, Nl_int, Nl_ref, Nl_null, Kv_some, Ki_some, Kh_some, Bk_some, Bk_void, ↓reduceIte, mrt10, mrt11, zl2, zl3, zl4, zl8, Bool.false_eq_true, cx_tub, cx_trial, cx_kept, cx_isKept, cx_tape, cx_reader, cx_sheets, cx_findings, cx_mis, cx_mis37, cx_mis38, cx_bytes, cx_tlen, cx_rtape, cx_token, cx_start, cx_end, cx_number, cx_lnBytes, cx_lnSheets, cx_lnFind, Int32.reduceAdd, Int32.reduceSub, Int32.reduceMul, Int32.reduceLT, zqm0, zqm1, zqm2, zqm3, zqm4, zqm5, zqm6, zqm7, zqm8, zq0m, zq01, zq02, zq03, zq04, zq05, zq06, zq07, zq08, zq1m, zq10, zq12, zq13, zq14, zq15, zq16, zq17, zq18, zq2m, zq20, zq21, zq23, zq24, zq25, zq26, zq27, zq28, zq3m, zq30, zq31, zq32, zq34, zq35, zq36, zq37, zq38, zq4m, zq40, zq41, zq42, zq43, zq45, zq46, zq47, zq48, zq5m, zq50, zq51, zq52, zq53, zq54, zq56, zq57, zq58, zq6m, zq60, zq61, zq62, zq63, zq64, zq65, zq67, zq68, zq7m, zq70, zq71, zq72, zq73, zq74, zq75, zq76, zq78, zq8m, zq80, zq81, zq82, zq83, zq84, zq85, zq86, zq87, e_isLayer, e_isColour, e_isKind, e_isSpot, e_isWithin, cf_0, cf_1, cf_2, cf_3, cf_4, cf_5, cf_6, b2i, mis_1, mis_13, mis_25, e_wrongFor ok, w, m0z]
theorem cq_held (ok : Ok n T) (hsz : szX X) : OpQC 85 [.int x, .int y, .int z] T V X (heQ (wfX x y z n X) (fun i => X (200 + 50 * iN x + i)) (iN (X (241 + 50 * iN x))) (iN y) z n T) := by
  intro a h U _
  have h8 := ok.1
  unfold heQ brQ
  rcases wfX_cases (x := x) (y := y) (z := z) (n := n) (X := X) with w | w | w
  · rw [if_pos w.1]
    obtain ⟨w, h0, h1, h2⟩ := w
    obtain ⟨s, hs, rfl⟩ := isS_nat h0
    obtain ⟨t, ht, rfl⟩ := hs_of h1 h8
    obtain ⟨m, hm, es⟩ := hsz s hs
    rw [iN_of (show s < 2147483648 by omega), iN_of (show t < 2147483648 by omega), es, iN_of (show m < 2147483648 by omega)]
    have D : ∀ j, j ≤ 201 → ∀ U1, ∃ U', Rn 85 (24, [some (.ref 0), some (.int (Int32.ofNat s)), some (.int (Int32.ofNat t)), some (.int z), some (.int 0), some (.int (Int32.ofNat (201 - j)))], [], a, cw h T U1 V X) = some (some (.int (qv (onQ (fnd (ftP (fun i => X (200 + 50 * s + i)) m t z n T) (201 - j) j)))), a, cw h T U' V (qX (onQ (fnd (ftP (fun i => X (200 + 50 * s + i)) m t z n T) (201 - j) j)) X)) := by
      intro j
      induction j with
      | zero =>
        intro _ U1
        refine ⟨U1, ?_⟩
        have lt : ((200 : Int32) < Int32.ofNat 201) = True := ltT (k := 200) (by omega) (by decide)
        show _ = some (some (Value.int (qv (onQ none))), a, cw h T U1 V (qX (onQ none) X))
        rw [show 201 - 0 = 201 from rfl, on_n, qv_3, qX_r, r85_24]
        simp only [r85_0, r85_1, r85_2, r85_3, r85_4, r85_7, r85_9, r85_11, r85_14, r85_15, r85_17, r85_20, r85_21, r85_22, r85_26, r85_29, r85_32, r85_33, r85_34, r85_35, r85_38, r85_39, r85_40, r85_42, r85_45, r85_48, r85_50, r85_51, r85_54, r85_57, r85_58, r85_60, r85_63, Nl_none, Nl_int, Nl_ref, Nl_null, Kv_some, Ki_some, Kh_some, Bk_some, Bk_void, ↓reduceIte, mrt10, mrt11, zl2, zl3, zl4, zl8, Bool.false_eq_true, cx_tub, cx_trial, cx_kept, cx_isKept, cx_tape, cx_reader, cx_sheets, cx_findings, cx_mis, cx_mis37, cx_mis38, cx_bytes, cx_tlen, cx_rtape, cx_token, cx_start, cx_end, cx_number, cx_lnBytes, cx_lnSheets, cx_lnFind, Int32.reduceAdd, Int32.reduceSub, Int32.reduceMul, Int32.reduceLT, zqm0, zqm1, zqm2, zqm3, zqm4, zqm5, zqm6, zqm7, zqm8, zq0m, zq01, zq02, zq03, zq04, zq05, zq06, zq07, zq08, zq1m, zq10, zq12, zq13, zq14, zq15, zq16, zq17, zq18, zq2m, zq20, zq21, zq23, zq24, zq25, zq26, zq27, zq28, zq3m, zq30, zq31, zq32, zq34, zq35, zq36, zq37, zq38, zq4m, zq40, zq41, zq42, zq43, zq45, zq46, zq47, zq48, zq5m, zq50, zq51, zq52, zq53, zq54, zq56, zq57, zq58, zq6m, zq60, zq61, zq62, zq63, zq64, zq65, zq67, zq68, zq7m, zq70, zq71, zq72, zq73, zq74, zq75, zq76, zq78, zq8m, zq80, zq81, zq82, zq83, zq84, zq85, zq86, zq87, e_isLayer, e_isColour, e_isKind, e_isSpot, e_isWithin, cf_0, cf_1, cf_2, cf_3, cf_4, cf_5, cf_6, b2i, mis_1, mis_13, mis_25, lt]
      | succ j ih =>
        intro hj U1
        obtain ⟨i, hi⟩ : ∃ i, i + (j + 1) = 201 := ⟨201 - (j + 1), by omega⟩
        rw [show 201 - (j + 1) = i by omega]
        have lt : ((200 : Int32) < Int32.ofNat i) = False := ltF (k := 200) (by omega) (by decide)
        obtain ⟨U2, e⟩ := c_couldHold (a := a) (h := h) (U := U1) (V := V) (v := i) ok hs ht h2 (by omega) es hm
        have e : Ec 120 [.ref 0, .ref (42 + 2 * s), .int (Int32.ofNat t), .int z, .int (Int32.ofNat i)] a (cw h T U1 V X) = some (some (.int (b2i (ftP (fun i => X (200 + 50 * s + i)) m t z n T i))), a, cw h T U2 V X) := e
        obtain ⟨U3, e3⟩ := ih (by omega) U2
        rw [show 201 - j = i + 1 by omega] at e3
        by_cases q : ftP (fun i => X (200 + 50 * s + i)) m t z n T i = true
        · refine ⟨U2, ?_⟩
          rw [show fnd (ftP (fun i => X (200 + 50 * s + i)) m t z n T) i (j + 1) = some i from if_pos q, on_s, qv_l, qX_l, r85_24]
          simp only [r85_0, r85_1, r85_2, r85_3, r85_4, r85_7, r85_9, r85_11, r85_14, r85_15, r85_17, r85_20, r85_21, r85_22, r85_26, r85_29, r85_32, r85_33, r85_34, r85_35, r85_38, r85_39, r85_40, r85_42, r85_45, r85_48, r85_50, r85_51, r85_54, r85_57, r85_58, r85_60, r85_63, Nl_none, Nl_int, Nl_ref, Nl_null, Kv_some, Ki_some, Kh_some, Bk_some, Bk_void, ↓reduceIte, mrt10, mrt11, zl2, zl3, zl4, zl8, Bool.false_eq_true, cx_tub, cx_trial, cx_kept, cx_isKept, cx_tape, cx_reader, cx_sheets, cx_findings, cx_mis, cx_mis37, cx_mis38, cx_bytes, cx_tlen, cx_rtape, cx_token, cx_start, cx_end, cx_number, cx_lnBytes, cx_lnSheets, cx_lnFind, Int32.reduceAdd, Int32.reduceSub, Int32.reduceMul, Int32.reduceLT, zqm0, zqm1, zqm2, zqm3, zqm4, zqm5, zqm6, zqm7, zqm8, zq0m, zq01, zq02, zq03, zq04, zq05, zq06, zq07, zq08, zq1m, zq10, zq12, zq13, zq14, zq15, zq16, zq17, zq18, zq2m, zq20, zq21, zq23, zq24, zq25, zq26, zq27, zq28, zq3m, zq30, zq31, zq32, zq34, zq35, zq36, zq37, zq38, zq4m, zq40, zq41, zq42, zq43, zq45, zq46, zq47, zq48, zq5m, zq50, zq51, zq52, zq53, zq54, zq56, zq57, zq58, zq6m, zq60, zq61, zq62, zq63, zq64, zq65, zq67, zq68, zq7m, zq70, zq71, zq72, zq73, zq74, zq75, zq76, zq78, zq8m, zq80, zq81, zq82, zq83, zq84, zq85, zq86, zq87, lt, e_sheetAt hs, e, q, b2i]
        · refine ⟨U3, ?_⟩
          rw [show fnd (ftP (fun i => X (200 + 50 * s + i)) m t z n T) i (j + 1) = fnd (ftP (fun i => X (200 + 50 * s + i)) m t z n T) (i + 1) j from if_neg q, r85_24]
          simp only [r85_0, r85_1, r85_2, r85_3, r85_4, r85_7, r85_9, r85_11, r85_14, r85_15, r85_17, r85_20, r85_21, r85_22, r85_26, r85_29, r85_32, r85_33, r85_34, r85_35, r85_38, r85_39, r85_40, r85_42, r85_45, r85_48, r85_50, r85_51, r85_54, r85_57, r85_58, r85_60, r85_63, Nl_none, Nl_int, Nl_ref, Nl_null, Kv_some, Ki_some, Kh_some, Bk_some, Bk_void, ↓reduceIte, mrt10, mrt11, zl2, zl3, zl4, zl8, Bool.false_eq_true, cx_tub, cx_trial, cx_kept, cx_isKept, cx_tape, cx_reader, cx_sheets, cx_findings, cx_mis, cx_mis37, cx_mis38, cx_bytes, cx_tlen, cx_rtape, cx_token, cx_start, cx_end, cx_number, cx_lnBytes, cx_lnSheets, cx_lnFind, Int32.reduceAdd, Int32.reduceSub, Int32.reduceMul, Int32.reduceLT, zqm0, zqm1, zqm2, zqm3, zqm4, zqm5, zqm6, zqm7, zqm8, zq0m, zq01, zq02, zq03, zq04, zq05, zq06, zq07, zq08, zq1m, zq10, zq12, zq13, zq14, zq15, zq16, zq17, zq18, zq2m, zq20, zq21, zq23, zq24, zq25, zq26, zq27, zq28, zq3m, zq30, zq31, zq32, zq34, zq35, zq36, zq37, zq38, zq4m, zq40, zq41, zq42, zq43, zq45, zq46, zq47, zq48, zq5m, zq50, zq51, zq52, zq53, zq54, zq56, zq57, zq58, zq6m, zq60, zq61, zq62, zq63, zq64, zq65, zq67, zq68, zq7m, zq70, zq71, zq72, zq73, zq74, zq75, zq76, zq78, zq8m, zq80, zq81, zq82, zq83, zq84, zq85, zq86, zq87, lt, e_sheetAt hs, e, q, b2i, of_in]
          exact e3
    obtain ⟨U', e⟩ := D 201 (Nat.le_refl 201) U
    refine ⟨U', qX (onQ (fnd (ftP (fun i => X (200 + 50 * s + i)) m t z n T) 0 201)) X, ?_, fun k _ => rfl⟩
    rw [Ec_go rfl]; show Rn 85 (0, [some (.ref 0), some (.int (Int32.ofNat s)), some (.int (Int32.ofNat t)), some (.int z), none, none], [], a, cw h T U V X) = _
    simp only [r85_0, r85_1, r85_2, r85_3, r85_4, r85_7, r85_9, r85_11, r85_14, r85_15, r85_17, r85_20, r85_21, r85_22, r85_26, r85_29, r85_32, r85_33, r85_34, r85_35, r85_38, r85_39, r85_40, r85_42, r85_45, r85_48, r85_50, r85_51, r85_54, r85_57, r85_58, r85_60, r85_63, Nl_none, Nl_int, Nl_ref, Nl_null, Kv_some, Ki_some, Kh_some, Bk_some, Bk_void, ↓reduceIte, mrt10, mrt11, zl2, zl3, zl4, zl8, Bool.false_eq_true, cx_tub, cx_trial, cx_kept, cx_isKept, cx_tape, cx_reader, cx_sheets, cx_findings, cx_mis, cx_mis37, cx_mis38, cx_bytes, cx_tlen, cx_rtape, cx_token, cx_start, cx_end, cx_number, cx_lnBytes, cx_lnSheets, cx_lnFind, Int32.reduceAdd, Int32.reduceSub, Int32.reduceMul, Int32.reduceLT, zqm0, zqm1, zqm2, zqm3, zqm4, zqm5, zqm6, zqm7, zqm8, zq0m, zq01, zq02, zq03, zq04, zq05, zq06, zq07, zq08, zq1m, zq10, zq12, zq13, zq14, zq15, zq16, zq17, zq18, zq2m, zq20, zq21, zq23, zq24, zq25, zq26, zq27, zq28, zq3m, zq30, zq31, zq32, zq34, zq35, zq36, zq37, zq38, zq4m, zq40, zq41, zq42, zq43, zq45, zq46, zq47, zq48, zq5m, zq50, zq51, zq52, zq53, zq54, zq56, zq57, zq58, zq6m, zq60, zq61, zq62, zq63, zq64, zq65, zq67, zq68, zq7m, zq70, zq71, zq72, zq73, zq74, zq75, zq76, zq78, zq8m, zq80, zq81, zq82, zq83, zq84, zq85, zq86, zq87, e_wrongFor ok, w]
    exact e
  · rw [w, if_neg (by decide), if_pos rfl]
    refine ⟨U, fnX 5 X, ?_, fun k _ => rfl⟩
    rw [qv_5]
    rw [Ec_go rfl]; show Rn 85 (0, [some (.ref 0), some (.int x), some (.int y), some (.int z), none, none], [], a, cw h T U V X) = _
    simp only [r85_0, r85_1, r85_2, r85_3, r85_4, r85_7, r85_9, r85_11, r85_14, r85_15, r85_17, r85_20, r85_21, r85_22, r85_24, r85_26, r85_29, r85_32, r85_33, r85_34, r85_35, r85_38, r85_39, r85_40, r85_42, r85_45, r85_48, r85_50, r85_51, r85_54, r85_57, r85_58, r85_60, r85_63, Nl_none, Nl_int, Nl_ref, Nl_null, Kv_some, Ki_some, Kh_some, Bk_some, Bk_void, ↓reduceIte, mrt10, mrt11, zl2, zl3, zl4, zl8, Bool.false_eq_true, cx_tub, cx_trial, cx_kept, cx_isKept, cx_tape, cx_reader, cx_sheets, cx_findings, cx_mis, cx_mis37, cx_mis38, cx_bytes, cx_tlen, cx_rtape, cx_token, cx_start, cx_end, cx_number, cx_lnBytes, cx_lnSheets, cx_lnFind, Int32.reduceAdd, Int32.reduceSub, Int32.reduceMul, Int32.reduceLT, zqm0, zqm1, zqm2, zqm3, zqm4, zqm5, zqm6, zqm7, zqm8, zq0m, zq01, zq02, zq03, zq04, zq05, zq06, zq07, zq08, zq1m, zq10, zq12, zq13, zq14, zq15, zq16, zq17, zq18, zq2m, zq20, zq21, zq23, zq24, zq25, zq26, zq27, zq28, zq3m, zq30, zq31, zq32, zq34, zq35, zq36, zq37, zq38, zq4m, zq40, zq41, zq42, zq43, zq45, zq46, zq47, zq48, zq5m, zq50, zq51, zq52, zq53, zq54, zq56, zq57, zq58, zq6m, zq60, zq61, zq62, zq63, zq64, zq65, zq67, zq68, zq7m, zq70, zq71, zq72, zq73, zq74, zq75, zq76, zq78, zq8m, zq80, zq81, zq82, zq83, zq84, zq85, zq86, zq87, e_isLayer, e_isColour, e_isKind, e_isSpot, e_isWithin, cf_0, cf_1, cf_2, cf_3, cf_4, cf_5, cf_6, b2i, mis_1, mis_13, mis_25, e_wrongFor ok, w, m5z]
  · rw [w, if_neg (by decide), if_neg (by decide)]
    refine ⟨U, fnX 0 X, ?_, fun k _ => rfl⟩
    rw [qv_0]
    rw [Ec_go rfl]; show Rn 85 (0, [some (.ref 0), some (.int x), some (.int y), some (.int z), none, none], [], a, cw h T U V X) = _
    simp only [r85_0, r85_1, r85_2, r85_3, r85_4, r85_7, r85_9, r85_11, r85_14, r85_15, r85_17, r85_20, r85_21, r85_22, r85_24, r85_26, r85_29, r85_32, r85_33, r85_34, r85_35, r85_38, r85_39, r85_40, r85_42, r85_45, r85_48, r85_50, r85_51, r85_54, r85_57, r85_58, r85_60, r85_63, Nl_none, Nl_int, Nl_ref, Nl_null, Kv_some, Ki_some, Kh_some, Bk_some, Bk_void, ↓reduceIte, mrt10, mrt11, zl2, zl3, zl4, zl8, Bool.false_eq_true, cx_tub, cx_trial, cx_kept, cx_isKept, cx_tape, cx_reader, cx_sheets, cx_findings, cx_mis, cx_mis37, cx_mis38, cx_bytes, cx_tlen, cx_rtape, cx_token, cx_start, cx_end, cx_number, cx_lnBytes, cx_lnSheets, cx_lnFind, Int32.reduceAdd, Int32.reduceSub, Int32.reduceMul, Int32.reduceLT, zqm0, zqm1, zqm2, zqm3, zqm4, zqm5, zqm6, zqm7, zqm8, zq0m, zq01, zq02, zq03, zq04, zq05, zq06, zq07, zq08, zq1m, zq10, zq12, zq13, zq14, zq15, zq16, zq17, zq18, zq2m, zq20, zq21, zq23, zq24, zq25, zq26, zq27, zq28, zq3m, zq30, zq31, zq32, zq34, zq35, zq36, zq37, zq38, zq4m, zq40, zq41, zq42, zq43, zq45, zq46, zq47, zq48, zq5m, zq50, zq51, zq52, zq53, zq54, zq56, zq57, zq58, zq6m, zq60, zq61, zq62, zq63, zq64, zq65, zq67, zq68, zq7m, zq70, zq71, zq72, zq73, zq74, zq75, zq76, zq78, zq8m, zq80, zq81, zq82, zq83, zq84, zq85, zq86, zq87, e_isLayer, e_isColour, e_isKind, e_isSpot, e_isWithin, cf_0, cf_1, cf_2, cf_3, cf_4, cf_5, cf_6, b2i, mis_1, mis_13, mis_25, e_wrongFor ok, w, m0z]
theorem cq_kinds (ok : Ok n T) (hsz : szX X) : OpQC 86 [.int x, .int y] T V X (kiQ (wfX x y 0 n X) (fun i => X (200 + 50 * iN x + i)) (iN (X (241 + 50 * iN x))) (iN y) n T) := by
  intro a h U _
  have h8 := ok.1
  unfold kiQ brQ
  by_cases w0 : wnX x X = 0
  · have h0 : isS x = true := by
      rcases wnX_cases (x := x) (X := X) with w | w | w
      · exact w.2
      · rw [w0] at w; exact absurd w (by decide)
      · rw [w0] at w; exact absurd w (by decide)
    by_cases h1 : hsB y n = true
    · have w : wfX x y 0 n X = 0 := by unfold wfX; rw [if_neg (fun q => q w0), if_pos ⟨h1, isC_0⟩]
      rw [if_pos w]
      obtain ⟨s, hs, rfl⟩ := isS_nat h0
      obtain ⟨t, ht, rfl⟩ := hs_of h1 h8
      obtain ⟨m, hm, es⟩ := hsz s hs
      rw [iN_of (show s < 2147483648 by omega), iN_of (show t < 2147483648 by omega), es, iN_of (show m < 2147483648 by omega)]
      have D : ∀ j i, i + j = 7 → ∀ (b : Int32) U1, ∃ U', Rn 86 (40, [some (.ref 0), some (.int (Int32.ofNat s)), some (.int (Int32.ofNat t)), some (.int 0), some (.int b), some (.int (Int32.ofNat i))], [], a, cw h T U1 V X) = some (some (.int (lpf (kiF (kdP (fun i => X (200 + 50 * s + i)) m t n T)) i j b)), a, cw h T U' V X) := by
        intro j
        induction j with
        | zero =>
          intro i hi b U1
          obtain rfl : i = 7 := by omega
          refine ⟨U1, ?_⟩
          rw [r86_40]
          simp only [r86_0, r86_1, r86_2, r86_5, r86_6, r86_7, r86_10, r86_11, r86_12, r86_15, r86_16, r86_17, r86_20, r86_21, r86_24, r86_27, r86_28, r86_30, r86_33, r86_34, r86_35, r86_37, r86_38, r86_42, r86_44, r86_47, r86_48, r86_49, r86_50, r86_53, r86_54, r86_56, r86_59, r86_62, r86_64, r86_65, r86_67, r86_68, r86_69, r86_71, r86_74, r86_77, r86_79, Nl_none, Nl_int, Nl_ref, Nl_null, Kv_some, Ki_some, Kh_some, Bk_some, Bk_void, ↓reduceIte, mrt10, mrt11, zl2, zl3, zl4, zl8, Bool.false_eq_true, cx_tub, cx_trial, cx_kept, cx_isKept, cx_tape, cx_reader, cx_sheets, cx_findings, cx_mis, cx_mis37, cx_mis38, cx_bytes, cx_tlen, cx_rtape, cx_token, cx_start, cx_end, cx_number, cx_lnBytes, cx_lnSheets, cx_lnFind, Int32.reduceAdd, Int32.reduceSub, Int32.reduceMul, Int32.reduceLT, zqm0, zqm1, zqm2, zqm3, zqm4, zqm5, zqm6, zqm7, zqm8, zq0m, zq01, zq02, zq03, zq04, zq05, zq06, zq07, zq08, zq1m, zq10, zq12, zq13, zq14, zq15, zq16, zq17, zq18, zq2m, zq20, zq21, zq23, zq24, zq25, zq26, zq27, zq28, zq3m, zq30, zq31, zq32, zq34, zq35, zq36, zq37, zq38, zq4m, zq40, zq41, zq42, zq43, zq45, zq46, zq47, zq48, zq5m, zq50, zq51, zq52, zq53, zq54, zq56, zq57, zq58, zq6m, zq60, zq61, zq62, zq63, zq64, zq65, zq67, zq68, zq7m, zq70, zq71, zq72, zq73, zq74, zq75, zq76, zq78, zq8m, zq80, zq81, zq82, zq83, zq84, zq85, zq86, zq87, Int32.reduceOfNat, lpf]
        | succ j ih =>
          intro i hi b U1
          have lt : (Int32.ofNat i < (7 : Int32)) = True := ltT (m := 7) (by omega) (by decide)
          obtain ⟨U2, e⟩ := c_couldBe (a := a) (h := h) (U := U1) (V := V) (v := i) ok hs ht (by omega) es hm
          have e : Ec 121 [.ref 0, .ref (42 + 2 * s), .int (Int32.ofNat t), .int (Int32.ofNat i)] a (cw h T U1 V X) = some (some (.int (b2i (kdP (fun i => X (200 + 50 * s + i)) m t n T i))), a, cw h T U2 V X) := e
          obtain ⟨U3, e3⟩ := ih (i + 1) (by omega) (kiF (kdP (fun i => X (200 + 50 * s + i)) m t n T) i b) U2
          refine ⟨U3, ?_⟩
          refine Eq.trans ?_ e3
          rw [r86_40]
          unfold kiF
          by_cases q : kdP (fun i => X (200 + 50 * s + i)) m t n T i = true
          · simp only [r86_0, r86_1, r86_2, r86_5, r86_6, r86_7, r86_10, r86_11, r86_12, r86_15, r86_16, r86_17, r86_20, r86_21, r86_24, r86_27, r86_28, r86_30, r86_33, r86_34, r86_35, r86_37, r86_38, r86_42, r86_44, r86_47, r86_48, r86_49, r86_50, r86_53, r86_54, r86_56, r86_59, r86_62, r86_64, r86_65, r86_67, r86_68, r86_69, r86_71, r86_74, r86_77, r86_79, Nl_none, Nl_int, Nl_ref, Nl_null, Kv_some, Ki_some, Kh_some, Bk_some, Bk_void, ↓reduceIte, mrt10, mrt11, zl2, zl3, zl4, zl8, Bool.false_eq_true, cx_tub, cx_trial, cx_kept, cx_isKept, cx_tape, cx_reader, cx_sheets, cx_findings, cx_mis, cx_mis37, cx_mis38, cx_bytes, cx_tlen, cx_rtape, cx_token, cx_start, cx_end, cx_number, cx_lnBytes, cx_lnSheets, cx_lnFind, Int32.reduceAdd, Int32.reduceSub, Int32.reduceMul, Int32.reduceLT, zqm0, zqm1, zqm2, zqm3, zqm4, zqm5, zqm6, zqm7, zqm8, zq0m, zq01, zq02, zq03, zq04, zq05, zq06, zq07, zq08, zq1m, zq10, zq12, zq13, zq14, zq15, zq16, zq17, zq18, zq2m, zq20, zq21, zq23, zq24, zq25, zq26, zq27, zq28, zq3m, zq30, zq31, zq32, zq34, zq35, zq36, zq37, zq38, zq4m, zq40, zq41, zq42, zq43, zq45, zq46, zq47, zq48, zq5m, zq50, zq51, zq52, zq53, zq54, zq56, zq57, zq58, zq6m, zq60, zq61, zq62, zq63, zq64, zq65, zq67, zq68, zq7m, zq70, zq71, zq72, zq73, zq74, zq75, zq76, zq78, zq8m, zq80, zq81, zq82, zq83, zq84, zq85, zq86, zq87, lt, e_sheetAt hs, e, q, b2i, of_in]
          · simp only [r86_0, r86_1, r86_2, r86_5, r86_6, r86_7, r86_10, r86_11, r86_12, r86_15, r86_16, r86_17, r86_20, r86_21, r86_24, r86_27, r86_28, r86_30, r86_33, r86_34, r86_35, r86_37, r86_38, r86_42, r86_44, r86_47, r86_48, r86_49, r86_50, r86_53, r86_54, r86_56, r86_59, r86_62, r86_64, r86_65, r86_67, r86_68, r86_69, r86_71, r86_74, r86_77, r86_79, Nl_none, Nl_int, Nl_ref, Nl_null, Kv_some, Ki_some, Kh_some, Bk_some, Bk_void, ↓reduceIte, mrt10, mrt11, zl2, zl3, zl4, zl8, Bool.false_eq_true, cx_tub, cx_trial, cx_kept, cx_isKept, cx_tape, cx_reader, cx_sheets, cx_findings, cx_mis, cx_mis37, cx_mis38, cx_bytes, cx_tlen, cx_rtape, cx_token, cx_start, cx_end, cx_number, cx_lnBytes, cx_lnSheets, cx_lnFind, Int32.reduceAdd, Int32.reduceSub, Int32.reduceMul, Int32.reduceLT, zqm0, zqm1, zqm2, zqm3, zqm4, zqm5, zqm6, zqm7, zqm8, zq0m, zq01, zq02, zq03, zq04, zq05, zq06, zq07, zq08, zq1m, zq10, zq12, zq13, zq14, zq15, zq16, zq17, zq18, zq2m, zq20, zq21, zq23, zq24, zq25, zq26, zq27, zq28, zq3m, zq30, zq31, zq32, zq34, zq35, zq36, zq37, zq38, zq4m, zq40, zq41, zq42, zq43, zq45, zq46, zq47, zq48, zq5m, zq50, zq51, zq52, zq53, zq54, zq56, zq57, zq58, zq6m, zq60, zq61, zq62, zq63, zq64, zq65, zq67, zq68, zq7m, zq70, zq71, zq72, zq73, zq74, zq75, zq76, zq78, zq8m, zq80, zq81, zq82, zq83, zq84, zq85, zq86, zq87, lt, e_sheetAt hs, e, q, b2i, of_in]
      obtain ⟨U', e⟩ := D 7 0 rfl 0 U
      refine ⟨U', X, ?_, fun k _ => rfl⟩
      rw [qv_l]
      rw [Ec_go rfl]; show Rn 86 (0, [some (.ref 0), some (.int (Int32.ofNat s)), some (.int (Int32.ofNat t)), none, none, none], [], a, cw h T U V X) = _
      simp only [r86_0, r86_1, r86_2, r86_5, r86_6, r86_7, r86_10, r86_11, r86_12, r86_15, r86_16, r86_17, r86_20, r86_21, r86_24, r86_27, r86_28, r86_30, r86_33, r86_34, r86_35, r86_37, r86_38, r86_42, r86_44, r86_47, r86_48, r86_49, r86_50, r86_53, r86_54, r86_56, r86_59, r86_62, r86_64, r86_65, r86_67, r86_68, r86_69, r86_71, r86_74, r86_77, r86_79, Nl_none, Nl_int, Nl_ref, Nl_null, Kv_some, Ki_some, Kh_some, Bk_some, Bk_void, ↓reduceIte, mrt10, mrt11, zl2, zl3, zl4, zl8, Bool.false_eq_true, cx_tub, cx_trial, cx_kept, cx_isKept, cx_tape, cx_reader, cx_sheets, cx_findings, cx_mis, cx_mis37, cx_mis38, cx_bytes, cx_tlen, cx_rtape, cx_token, cx_start, cx_end, cx_number, cx_lnBytes, cx_lnSheets, cx_lnFind, Int32.reduceAdd, Int32.reduceSub, Int32.reduceMul, Int32.reduceLT, zqm0, zqm1, zqm2, zqm3, zqm4, zqm5, zqm6, zqm7, zqm8, zq0m, zq01, zq02, zq03, zq04, zq05, zq06, zq07, zq08, zq1m, zq10, zq12, zq13, zq14, zq15, zq16, zq17, zq18, zq2m, zq20, zq21, zq23, zq24, zq25, zq26, zq27, zq28, zq3m, zq30, zq31, zq32, zq34, zq35, zq36, zq37, zq38, zq4m, zq40, zq41, zq42, zq43, zq45, zq46, zq47, zq48, zq5m, zq50, zq51, zq52, zq53, zq54, zq56, zq57, zq58, zq6m, zq60, zq61, zq62, zq63, zq64, zq65, zq67, zq68, zq7m, zq70, zq71, zq72, zq73, zq74, zq75, zq76, zq78, zq8m, zq80, zq81, zq82, zq83, zq84, zq85, zq86, zq87, e_isLayer, e_isColour, e_isKind, e_isSpot, e_isWithin, cf_0, cf_1, cf_2, cf_3, cf_4, cf_5, cf_6, b2i, mis_1, mis_13, mis_25, e_wrongWith, w0, e_has1 ok, h1]
      exact e
    · have w : wfX x y 0 n X = -1000001 := by unfold wfX; rw [if_neg (fun q => q w0), if_neg (fun z => h1 z.1)]
      rw [w, if_neg (by decide), if_neg (by decide)]
      refine ⟨U, fnX 0 X, ?_, fun k _ => rfl⟩
      rw [qv_0]
      rw [Ec_go rfl]; show Rn 86 (0, [some (.ref 0), some (.int x), some (.int y), none, none, none], [], a, cw h T U V X) = _
      simp only [r86_0, r86_1, r86_2, r86_5, r86_6, r86_7, r86_10, r86_11, r86_12, r86_15, r86_16, r86_17, r86_20, r86_21, r86_24, r86_27, r86_28, r86_30, r86_33, r86_34, r86_35, r86_37, r86_38, r86_40, r86_42, r86_44, r86_47, r86_48, r86_49, r86_50, r86_53, r86_54, r86_56, r86_59, r86_62, r86_64, r86_65, r86_67, r86_68, r86_69, r86_71, r86_74, r86_77, r86_79, Nl_none, Nl_int, Nl_ref, Nl_null, Kv_some, Ki_some, Kh_some, Bk_some, Bk_void, ↓reduceIte, mrt10, mrt11, zl2, zl3, zl4, zl8, Bool.false_eq_true, cx_tub, cx_trial, cx_kept, cx_isKept, cx_tape, cx_reader, cx_sheets, cx_findings, cx_mis, cx_mis37, cx_mis38, cx_bytes, cx_tlen, cx_rtape, cx_token, cx_start, cx_end, cx_number, cx_lnBytes, cx_lnSheets, cx_lnFind, Int32.reduceAdd, Int32.reduceSub, Int32.reduceMul, Int32.reduceLT, zqm0, zqm1, zqm2, zqm3, zqm4, zqm5, zqm6, zqm7, zqm8, zq0m, zq01, zq02, zq03, zq04, zq05, zq06, zq07, zq08, zq1m, zq10, zq12, zq13, zq14, zq15, zq16, zq17, zq18, zq2m, zq20, zq21, zq23, zq24, zq25, zq26, zq27, zq28, zq3m, zq30, zq31, zq32, zq34, zq35, zq36, zq37, zq38, zq4m, zq40, zq41, zq42, zq43, zq45, zq46, zq47, zq48, zq5m, zq50, zq51, zq52, zq53, zq54, zq56, zq57, zq58, zq6m, zq60, zq61, zq62, zq63, zq64, zq65, zq67, zq68, zq7m, zq70, zq71, zq72, zq73, zq74, zq75, zq76, zq78, zq8m, zq80, zq81, zq82, zq83, zq84, zq85, zq86, zq87, e_isLayer, e_isColour, e_isKind, e_isSpot, e_isWithin, cf_0, cf_1, cf_2, cf_3, cf_4, cf_5, cf_6, b2i, mis_1, mis_13, mis_25, e_wrongWith, w0, e_has1 ok, h1]
  · have w : wfX x y 0 n X = wnX x X := if_pos w0
    rw [w]
    rcases wnX_cases (x := x) (X := X) with w | w | w
    · exact absurd w.1 w0
    · rw [w, if_neg (by decide), if_pos rfl]
      refine ⟨U, fnX 5 X, ?_, fun k _ => rfl⟩
      rw [qv_5]
      rw [Ec_go rfl]; show Rn 86 (0, [some (.ref 0), some (.int x), some (.int y), none, none, none], [], a, cw h T U V X) = _
      simp only [r86_0, r86_1, r86_2, r86_5, r86_6, r86_7, r86_10, r86_11, r86_12, r86_15, r86_16, r86_17, r86_20, r86_21, r86_24, r86_27, r86_28, r86_30, r86_33, r86_34, r86_35, r86_37, r86_38, r86_40, r86_42, r86_44, r86_47, r86_48, r86_49, r86_50, r86_53, r86_54, r86_56, r86_59, r86_62, r86_64, r86_65, r86_67, r86_68, r86_69, r86_71, r86_74, r86_77, r86_79, Nl_none, Nl_int, Nl_ref, Nl_null, Kv_some, Ki_some, Kh_some, Bk_some, Bk_void, ↓reduceIte, mrt10, mrt11, zl2, zl3, zl4, zl8, Bool.false_eq_true, cx_tub, cx_trial, cx_kept, cx_isKept, cx_tape, cx_reader, cx_sheets, cx_findings, cx_mis, cx_mis37, cx_mis38, cx_bytes, cx_tlen, cx_rtape, cx_token, cx_start, cx_end, cx_number, cx_lnBytes, cx_lnSheets, cx_lnFind, Int32.reduceAdd, Int32.reduceSub, Int32.reduceMul, Int32.reduceLT, zqm0, zqm1, zqm2, zqm3, zqm4, zqm5, zqm6, zqm7, zqm8, zq0m, zq01, zq02, zq03, zq04, zq05, zq06, zq07, zq08, zq1m, zq10, zq12, zq13, zq14, zq15, zq16, zq17, zq18, zq2m, zq20, zq21, zq23, zq24, zq25, zq26, zq27, zq28, zq3m, zq30, zq31, zq32, zq34, zq35, zq36, zq37, zq38, zq4m, zq40, zq41, zq42, zq43, zq45, zq46, zq47, zq48, zq5m, zq50, zq51, zq52, zq53, zq54, zq56, zq57, zq58, zq6m, zq60, zq61, zq62, zq63, zq64, zq65, zq67, zq68, zq7m, zq70, zq71, zq72, zq73, zq74, zq75, zq76, zq78, zq8m, zq80, zq81, zq82, zq83, zq84, zq85, zq86, zq87, e_isLayer, e_isColour, e_isKind, e_isSpot, e_isWithin, cf_0, cf_1, cf_2, cf_3, cf_4, cf_5, cf_6, b2i, mis_1, mis_13, mis_25, e_wrongWith, w, m5z]
    · rw [w, if_neg (by decide), if_neg (by decide)]
      refine ⟨U, fnX 0 X, ?_, fun k _ => rfl⟩
      rw [qv_0]
      rw [Ec_go rfl]; show Rn 86 (0, [some (.ref 0), some (.int x), some (.int y), none, none, none], [], a, cw h T U V X) = _
      simp only [r86_0, r86_1, r86_2, r86_5, r86_6, r86_7, r86_10, r86_11, r86_12, r86_15, r86_16, r86_17, r86_20, r86_21, r86_24, r86_27, r86_28, r86_30, r86_33, r86_34, r86_35, r86_37, r86_38, r86_40, r86_42, r86_44, r86_47, r86_48, r86_49, r86_50, r86_53, r86_54, r86_56, r86_59, r86_62, r86_64, r86_65, r86_67, r86_68, r86_69, r86_71, r86_74, r86_77, r86_79, Nl_none, Nl_int, Nl_ref, Nl_null, Kv_some, Ki_some, Kh_some, Bk_some, Bk_void, ↓reduceIte, mrt10, mrt11, zl2, zl3, zl4, zl8, Bool.false_eq_true, cx_tub, cx_trial, cx_kept, cx_isKept, cx_tape, cx_reader, cx_sheets, cx_findings, cx_mis, cx_mis37, cx_mis38, cx_bytes, cx_tlen, cx_rtape, cx_token, cx_start, cx_end, cx_number, cx_lnBytes, cx_lnSheets, cx_lnFind, Int32.reduceAdd, Int32.reduceSub, Int32.reduceMul, Int32.reduceLT, zqm0, zqm1, zqm2, zqm3, zqm4, zqm5, zqm6, zqm7, zqm8, zq0m, zq01, zq02, zq03, zq04, zq05, zq06, zq07, zq08, zq1m, zq10, zq12, zq13, zq14, zq15, zq16, zq17, zq18, zq2m, zq20, zq21, zq23, zq24, zq25, zq26, zq27, zq28, zq3m, zq30, zq31, zq32, zq34, zq35, zq36, zq37, zq38, zq4m, zq40, zq41, zq42, zq43, zq45, zq46, zq47, zq48, zq5m, zq50, zq51, zq52, zq53, zq54, zq56, zq57, zq58, zq6m, zq60, zq61, zq62, zq63, zq64, zq65, zq67, zq68, zq7m, zq70, zq71, zq72, zq73, zq74, zq75, zq76, zq78, zq8m, zq80, zq81, zq82, zq83, zq84, zq85, zq86, zq87, e_isLayer, e_isColour, e_isKind, e_isSpot, e_isWithin, cf_0, cf_1, cf_2, cf_3, cf_4, cf_5, cf_6, b2i, mis_1, mis_13, mis_25, e_wrongWith, w, m0z]
/-! sticks -/
theorem exF_same {c : Int32} : exF x x c T = T := by unfold exF; rw [fu_self, fu_self]
theorem exT_same {t : Nat} : exT x x t T = T := by
  unfold exT
  by_cases q : T (29 + 6 * t) = x
  · rw [if_pos q, ← q, fu_self]
  · rw [if_neg q, if_neg q, fu_self]
theorem st_same : stS x x n T = T := by
  unfold stS
  rw [exF_same, exF_same, exF_same]
  exact lpf_inv (f := exT x x) (P := fun _ (s : TS) => s = T) (N := n) (fun k s hk p => by rw [exT_same]; exact p) n 0 T (by omega) rfl
theorem sk_86' (ok : Ok n T) (hd : T 86 = 0) : skT n T 86 = 0 := by
  have e : d1T (d1T T) 86 = 0 := by unfold d1T; rw [fu_ne (by decide), fu_ne (by decide)]; exact hd
  have o2 := sr_d1 (sr_d1 ok)
  unfold skT
  split
  · exact yr_86 o2 e
  · exact yr_86 (sr_st o2 r8_isL r8_isL) ((st_hi r8_isL r8_isL ok.1).trans e)
theorem co_sticks (ok : Ok n T) (hd : T 86 = 0) (hy : (T 1).toInt ≤ 60000) (h0 : wi x 1 20 = true) : OpC 87 [.int x] T V X (.int (suS 5 n (skN n (iN x) T))) (skN n (iN x) T) V X := by
  intro a h U _
  obtain ⟨m, hm0, hm, rfl⟩ := wi_nat1 20 (by decide) h0
  rw [iN_of (by omega)]
  have r := rg_year ok
  have lt : ((99999 : Int32) < T 1 + Int32.ofNat m) = False := by
    have e : (99999 : Int32).toInt = 99999 := by decide
    have f := ti_of (n := m) (by omega)
    rw [lt_ti, ti_add (by omega) (by omega), e, f]
    exact eq_false (by omega)
  have L := lp_up (M := 87) (X := fun k (s : TS × Option Value × Option Value) => (40, [some (.ref 0), some (.int (Int32.ofNat m)), some (.int (Int32.ofNat k)), s.2.1, s.2.2], [], a, cw h s.1 U V X)) (f := fun _ s => (skT n s.1, some (.int (r8T s.1)), some (.int (r8T (d1T s.1))))) (P := fun k s => Ok n s.1 ∧ s.1 86 = 0) (N := m) (fun k s hk p => ⟨by
    obtain ⟨s, u, v⟩ := s
    have p1 : Ok n s := p.1
    have p2 : s 86 = 0 := p.2
    have lt := ltT hk (by omega)
    have o2 := sr_d1 (sr_d1 p1)
    have hr0 : isL (r8T s) = true := r8_isL
    have hr1 : isL (r8T (d1T s)) = true := r8_isL
    have dr : ∀ s, Ec 58 [.ref 1] a (cw h s U V X) = some (some (.int (drV (drZ (s 2)))), a, cw h (d1T s) U V X) := fun s => e_draw1
    have f0 : drV (drZ (s 2)) % 8 = r8T s := rfl
    have f1 : drV (drZ (d1T s 2)) % 8 = r8T (d1T s) := rfl
    have e86 : d1T (d1T s) 86 = 0 := by unfold d1T; rw [fu_ne (by decide), fu_ne (by decide)]; exact p2
    have o3 := sr_st o2 hr0 hr1
    have py := e_passYears1 (a := a) (h := h) (U := U) (V := V) (X := X) (m := 1) o3 ((st_hi hr0 hr1 ok.1).trans e86) (by decide)
    have py : Ec 53 [.ref 1, .int 1] a (cw h (stS (r8T s) (r8T (d1T s)) n (d1T (d1T s))) U V X) = some (none, a, cw h (yrT 0 n (stS (r8T s) (r8T (d1T s)) n (d1T (d1T s)))) U V X) := py
    have eq : skT n s = yrT 0 n (stS (r8T s) (r8T (d1T s)) n (d1T (d1T s))) := by
      unfold skT
      by_cases q : r8T s = r8T (d1T s)
      · rw [if_pos q, ← q, st_same]
      · rw [if_neg q]
    show Rn 87 (40, [some (.ref 0), some (.int (Int32.ofNat m)), some (.int (Int32.ofNat k)), u, v], [], a, cw h s U V X) = Rn 87 (40, [some (.ref 0), some (.int (Int32.ofNat m)), some (.int (Int32.ofNat (k + 1))), some (.int (r8T s)), some (.int (r8T (d1T s)))], [], a, cw h (skT n s) U V X)
    rw [eq, r87_40]
    simp only [r87_0, r87_1, r87_2, r87_4, r87_7, r87_10, r87_11, r87_13, r87_16, r87_17, r87_18, r87_21, r87_24, r87_25, r87_26, r87_28, r87_31, r87_32, r87_34, r87_37, r87_38, r87_39, r87_41, r87_42, r87_45, r87_46, r87_49, r87_52, r87_54, r87_55, r87_56, r87_57, r87_60, r87_63, r87_65, r87_66, r87_68, r87_69, r87_72, r87_73, r87_75, r87_78, r87_79, r87_82, r87_83, r87_86, r87_89, r87_92, r87_93, r87_96, r87_97, r87_100, Nl_none, Nl_int, Nl_ref, Nl_null, Kv_some, Ki_some, Kh_some, Bk_some, Bk_void, ↓reduceIte, mrt10, mrt11, zl2, zl3, zl4, zl8, Bool.false_eq_true, cx_tub, cx_trial, cx_kept, cx_isKept, cx_tape, cx_reader, cx_sheets, cx_findings, cx_mis, cx_mis37, cx_mis38, cx_bytes, cx_tlen, cx_rtape, cx_token, cx_start, cx_end, cx_number, cx_lnBytes, cx_lnSheets, cx_lnFind, Int32.reduceAdd, Int32.reduceSub, Int32.reduceMul, Int32.reduceLT, zqm0, zqm1, zqm2, zqm3, zqm4, zqm5, zqm6, zqm7, zqm8, zq0m, zq01, zq02, zq03, zq04, zq05, zq06, zq07, zq08, zq1m, zq10, zq12, zq13, zq14, zq15, zq16, zq17, zq18, zq2m, zq20, zq21, zq23, zq24, zq25, zq26, zq27, zq28, zq3m, zq30, zq31, zq32, zq34, zq35, zq36, zq37, zq38, zq4m, zq40, zq41, zq42, zq43, zq45, zq46, zq47, zq48, zq5m, zq50, zq51, zq52, zq53, zq54, zq56, zq57, zq58, zq6m, zq60, zq61, zq62, zq63, zq64, zq65, zq67, zq68, zq7m, zq70, zq71, zq72, zq73, zq74, zq75, zq76, zq78, zq8m, zq80, zq81, zq82, zq83, zq84, zq85, zq86, zq87, e_isLayer, e_isColour, e_isKind, e_isSpot, e_isWithin, cf_0, cf_1, cf_2, cf_3, cf_4, cf_5, cf_6, b2i, mis_1, mis_13, mis_25, lt, dr, f0, f1, e_exchange1 o2 hr0 hr1, py, of_in], sr_skT p.1, sk_86' p.1 p.2⟩) m 0 (T, none, none) (by omega) ⟨ok, hd⟩
  have e1 : ∀ m1 k (s1 : TS × Option Value × Option Value), (lpf (fun _ (s : TS × Option Value × Option Value) => (skT n s.1, some (Value.int (r8T s.1)), some (Value.int (r8T (d1T s.1))))) k m1 s1).1 = lpf (fun _ => skT n) k m1 s1.1 := by
    intro m1
    induction m1 with
    | zero => intro k s; rfl
    | succ m1 ih => intro k s; exact ih (k + 1) _
  have e2 := e1 m 0 (T, none, none)
  generalize lpf (fun _ (s : TS × Option Value × Option Value) => (skT n s.1, some (Value.int (r8T s.1)), some (Value.int (r8T (d1T s.1))))) 0 m (T, none, none) = s' at L e2
  obtain ⟨s, u, v⟩ := s'
  have e2 : s = skN n m T := e2
  subst e2
  have ok' : Ok n (skN n m T) := sr_skN ok
  refine ⟨U, X, ?_, fun k hk => rfl⟩
  have lf := ltF (Nat.le_refl m) (by omega)
  rw [Ec_go rfl]; show Rn 87 (0, [some (.ref 0), some (.int (Int32.ofNat m)), none, none, none], [], a, cw h T U V X) = _
  simp only [r87_0, r87_1, r87_2, r87_4, r87_7, r87_10, r87_11, r87_13, r87_16, r87_17, r87_18, r87_21, r87_24, r87_25, r87_26, r87_28, r87_31, r87_32, r87_34, r87_37, r87_38, r87_39, r87_41, r87_42, r87_45, r87_46, r87_49, r87_52, r87_54, r87_55, r87_56, r87_57, r87_60, r87_63, r87_65, r87_66, r87_68, r87_69, r87_72, r87_73, r87_75, r87_78, r87_79, r87_82, r87_83, r87_86, r87_89, r87_92, r87_93, r87_96, r87_97, r87_100, Nl_none, Nl_int, Nl_ref, Nl_null, Kv_some, Ki_some, Kh_some, Bk_some, Bk_void, ↓reduceIte, mrt10, mrt11, zl2, zl3, zl4, zl8, Bool.false_eq_true, cx_tub, cx_trial, cx_kept, cx_isKept, cx_tape, cx_reader, cx_sheets, cx_findings, cx_mis, cx_mis37, cx_mis38, cx_bytes, cx_tlen, cx_rtape, cx_token, cx_start, cx_end, cx_number, cx_lnBytes, cx_lnSheets, cx_lnFind, Int32.reduceAdd, Int32.reduceSub, Int32.reduceMul, Int32.reduceLT, zqm0, zqm1, zqm2, zqm3, zqm4, zqm5, zqm6, zqm7, zqm8, zq0m, zq01, zq02, zq03, zq04, zq05, zq06, zq07, zq08, zq1m, zq10, zq12, zq13, zq14, zq15, zq16, zq17, zq18, zq2m, zq20, zq21, zq23, zq24, zq25, zq26, zq27, zq28, zq3m, zq30, zq31, zq32, zq34, zq35, zq36, zq37, zq38, zq4m, zq40, zq41, zq42, zq43, zq45, zq46, zq47, zq48, zq5m, zq50, zq51, zq52, zq53, zq54, zq56, zq57, zq58, zq6m, zq60, zq61, zq62, zq63, zq64, zq65, zq67, zq68, zq7m, zq70, zq71, zq72, zq73, zq74, zq75, zq76, zq78, zq8m, zq80, zq81, zq82, zq83, zq84, zq85, zq86, zq87, e_isLayer, e_isColour, e_isKind, e_isSpot, e_isWithin, cf_0, cf_1, cf_2, cf_3, cf_4, cf_5, cf_6, b2i, mis_1, mis_13, mis_25, h0, gt_year1, lt]
  refine L.1.trans ?_
  rw [r87_40]
  simp only [r87_0, r87_1, r87_2, r87_4, r87_7, r87_10, r87_11, r87_13, r87_16, r87_17, r87_18, r87_21, r87_24, r87_25, r87_26, r87_28, r87_31, r87_32, r87_34, r87_37, r87_38, r87_39, r87_41, r87_42, r87_45, r87_46, r87_49, r87_52, r87_54, r87_55, r87_56, r87_57, r87_60, r87_63, r87_65, r87_66, r87_68, r87_69, r87_72, r87_73, r87_75, r87_78, r87_79, r87_82, r87_83, r87_86, r87_89, r87_92, r87_93, r87_96, r87_97, r87_100, Nl_none, Nl_int, Nl_ref, Nl_null, Kv_some, Ki_some, Kh_some, Bk_some, Bk_void, ↓reduceIte, mrt10, mrt11, zl2, zl3, zl4, zl8, Bool.false_eq_true, cx_tub, cx_trial, cx_kept, cx_isKept, cx_tape, cx_reader, cx_sheets, cx_findings, cx_mis, cx_mis37, cx_mis38, cx_bytes, cx_tlen, cx_rtape, cx_token, cx_start, cx_end, cx_number, cx_lnBytes, cx_lnSheets, cx_lnFind, Int32.reduceAdd, Int32.reduceSub, Int32.reduceMul, Int32.reduceLT, zqm0, zqm1, zqm2, zqm3, zqm4, zqm5, zqm6, zqm7, zqm8, zq0m, zq01, zq02, zq03, zq04, zq05, zq06, zq07, zq08, zq1m, zq10, zq12, zq13, zq14, zq15, zq16, zq17, zq18, zq2m, zq20, zq21, zq23, zq24, zq25, zq26, zq27, zq28, zq3m, zq30, zq31, zq32, zq34, zq35, zq36, zq37, zq38, zq4m, zq40, zq41, zq42, zq43, zq45, zq46, zq47, zq48, zq5m, zq50, zq51, zq52, zq53, zq54, zq56, zq57, zq58, zq6m, zq60, zq61, zq62, zq63, zq64, zq65, zq67, zq68, zq7m, zq70, zq71, zq72, zq73, zq74, zq75, zq76, zq78, zq8m, zq80, zq81, zq82, zq83, zq84, zq85, zq86, zq87, e_isLayer, e_isColour, e_isKind, e_isSpot, e_isWithin, cf_0, cf_1, cf_2, cf_3, cf_4, cf_5, cf_6, b2i, mis_1, mis_13, mis_25, lf, e_sumOf1 ok']
theorem cb_sticks (h0 : ¬ wi x 1 20 = true) : OpC 87 [.int x] T V X (.int (-1000001)) T V (fnX 0 X) := by
  intro a h U _
  refine ⟨U, fnX 0 X, ?_, fun k _ => rfl⟩
  rw [Ec_go rfl]; show Rn 87 (0, [some (.ref 0), some (.int x), none, none, none], [], a, cw h T U V X) = _
  simp only [r87_0, r87_1, r87_2, r87_4, r87_7, r87_10, r87_11, r87_13, r87_16, r87_17, r87_18, r87_21, r87_24, r87_25, r87_26, r87_28, r87_31, r87_32, r87_34, r87_37, r87_38, r87_39, r87_40, r87_41, r87_42, r87_45, r87_46, r87_49, r87_52, r87_54, r87_55, r87_56, r87_57, r87_60, r87_63, r87_65, r87_66, r87_68, r87_69, r87_72, r87_73, r87_75, r87_78, r87_79, r87_82, r87_83, r87_86, r87_89, r87_92, r87_93, r87_96, r87_97, r87_100, Nl_none, Nl_int, Nl_ref, Nl_null, Kv_some, Ki_some, Kh_some, Bk_some, Bk_void, ↓reduceIte, mrt10, mrt11, zl2, zl3, zl4, zl8, Bool.false_eq_true, cx_tub, cx_trial, cx_kept, cx_isKept, cx_tape, cx_reader, cx_sheets, cx_findings, cx_mis, cx_mis37, cx_mis38, cx_bytes, cx_tlen, cx_rtape, cx_token, cx_start, cx_end, cx_number, cx_lnBytes, cx_lnSheets, cx_lnFind, Int32.reduceAdd, Int32.reduceSub, Int32.reduceMul, Int32.reduceLT, zqm0, zqm1, zqm2, zqm3, zqm4, zqm5, zqm6, zqm7, zqm8, zq0m, zq01, zq02, zq03, zq04, zq05, zq06, zq07, zq08, zq1m, zq10, zq12, zq13, zq14, zq15, zq16, zq17, zq18, zq2m, zq20, zq21, zq23, zq24, zq25, zq26, zq27, zq28, zq3m, zq30, zq31, zq32, zq34, zq35, zq36, zq37, zq38, zq4m, zq40, zq41, zq42, zq43, zq45, zq46, zq47, zq48, zq5m, zq50, zq51, zq52, zq53, zq54, zq56, zq57, zq58, zq6m, zq60, zq61, zq62, zq63, zq64, zq65, zq67, zq68, zq7m, zq70, zq71, zq72, zq73, zq74, zq75, zq76, zq78, zq8m, zq80, zq81, zq82, zq83, zq84, zq85, zq86, zq87, e_isLayer, e_isColour, e_isKind, e_isSpot, e_isWithin, cf_0, cf_1, cf_2, cf_3, cf_4, cf_5, cf_6, b2i, mis_1, mis_13, mis_25, h0]
/-! odds -/
def g8 (c : Nat) : Nat := if c % 8 = 0 then 8 else if c % 4 = 0 then 4 else if c % 2 = 0 then 2 else 1
/-- the class halves both until one is odd -/
theorem e_halve {c : Nat} (hc : c < 9) : Rn 88 (42, [some (.ref 0), some (.int x), some (.int w), some (.int (Int32.ofNat c)), some (.int 8)], [], a, h) = Rn 88 (67, [some (.ref 0), some (.int x), some (.int w), some (.int (Int32.ofNat c / Int32.ofNat (g8 c))), some (.int ((8 : Int32) / Int32.ofNat (g8 c)))], [], a, h) := by
  have h9 : c = 0 ∨ c = 1 ∨ c = 2 ∨ c = 3 ∨ c = 4 ∨ c = 5 ∨ c = 6 ∨ c = 7 ∨ c = 8 := by omega
  rcases h9 with rfl | rfl | rfl | rfl | rfl | rfl | rfl | rfl | rfl <;> simp only [r88_0, r88_1, r88_2, r88_4, r88_7, r88_10, r88_11, r88_12, r88_13, r88_16, r88_19, r88_20, r88_22, r88_25, r88_26, r88_27, r88_28, r88_31, r88_34, r88_37, r88_38, r88_40, r88_42, r88_44, r88_45, r88_48, r88_49, r88_50, r88_51, r88_54, r88_55, r88_56, r88_57, r88_58, r88_60, r88_61, r88_62, r88_64, r88_68, r88_71, r88_72, r88_73, r88_76, r88_78, r88_79, r88_80, r88_83, Nl_none, Nl_int, Nl_ref, Nl_null, Kv_some, Ki_some, Kh_some, Bk_some, Bk_void, ↓reduceIte, mrt10, mrt11, zl2, zl3, zl4, zl8, Bool.false_eq_true, Int32.reduceAdd, Int32.reduceSub, Int32.reduceMul, Int32.reduceLT, zqm0, zqm1, zqm2, zqm3, zqm4, zqm5, zqm6, zqm7, zqm8, zq0m, zq01, zq02, zq03, zq04, zq05, zq06, zq07, zq08, zq1m, zq10, zq12, zq13, zq14, zq15, zq16, zq17, zq18, zq2m, zq20, zq21, zq23, zq24, zq25, zq26, zq27, zq28, zq3m, zq30, zq31, zq32, zq34, zq35, zq36, zq37, zq38, zq4m, zq40, zq41, zq42, zq43, zq45, zq46, zq47, zq48, zq5m, zq50, zq51, zq52, zq53, zq54, zq56, zq57, zq58, zq6m, zq60, zq61, zq62, zq63, zq64, zq65, zq67, zq68, zq7m, zq70, zq71, zq72, zq73, zq74, zq75, zq76, zq78, zq8m, zq80, zq81, zq82, zq83, zq84, zq85, zq86, zq87, Int32.reduceOfNat, Int32.reduceMod, Int32.reduceDiv] <;> rfl
theorem e_power {c : Int64} (hm : m < 1000) : Ec 113 [.long c, .int (Int32.ofNat m)] a h = some (some (.long (pwL c m)), a, h) := by
  have L := lp_up (M := 113) (X := fun k (s : Int64) => (5, [some (.long c), none, some (.int (Int32.ofNat m)), some (.long s), none, some (.int (Int32.ofNat k))], [], a, h)) (f := fun _ s => s * c) (P := fun _ _ => True) (N := m) (fun k s hk _ => ⟨by
    have lt := ltT hk (by omega)
    show Rn 113 (5, [some (.long c), none, some (.int (Int32.ofNat m)), some (.long s), none, some (.int (Int32.ofNat k))], [], a, h) = Rn 113 (5, [some (.long c), none, some (.int (Int32.ofNat m)), some (.long (s * c)), none, some (.int (Int32.ofNat (k + 1)))], [], a, h)
    rw [r113_5]
    simp only [r113_0, r113_1, r113_2, r113_3, r113_7, r113_8, r113_11, r113_12, r113_13, r113_14, r113_15, r113_18, r113_21, r113_22, Nl_none, Nl_int, Nl_ref, Nl_null, Kv_some, Ki_some, Kh_some, Bk_some, Bk_void, ↓reduceIte, mrt10, mrt11, zl2, zl3, zl4, zl8, Bool.false_eq_true, lt, of_in], trivial⟩) m 0 1 (by omega) trivial
  have lf := ltF (Nat.le_refl m) (by omega)
  rw [Ec_go rfl]; show Rn 113 (0, [some (.long c), none, some (.int (Int32.ofNat m)), none, none, none], [], a, h) = _
  simp only [r113_0, r113_1, r113_2, r113_3, r113_7, r113_8, r113_11, r113_12, r113_13, r113_14, r113_15, r113_18, r113_21, r113_22, Nl_none, Nl_int, Nl_ref, Nl_null, Kv_some, Ki_some, Kh_some, Bk_some, Bk_void, ↓reduceIte, mrt10, mrt11, zl2, zl3, zl4, zl8, Bool.false_eq_true]
  refine L.1.trans ?_
  show Rn 113 (5, [some (.long c), none, some (.int (Int32.ofNat m)), some (.long (pwL c m)), none, some (.int (Int32.ofNat m))], [], a, h) = _
  rw [r113_5]
  simp only [r113_0, r113_1, r113_2, r113_3, r113_7, r113_8, r113_11, r113_12, r113_13, r113_14, r113_15, r113_18, r113_21, r113_22, Nl_none, Nl_int, Nl_ref, Nl_null, Kv_some, Ki_some, Kh_some, Bk_some, Bk_void, ↓reduceIte, mrt10, mrt11, zl2, zl3, zl4, zl8, Bool.false_eq_true, lf]
theorem od_both : ∀ c < 9, ∀ m < 21, (odR c m).1 = pwL (Int32.ofNat c / Int32.ofNat (g8 c)).toInt64 m ∧ (odR c m).2 = pwL ((8 : Int32) / Int32.ofNat (g8 c)).toInt64 m := by decide +kernel
theorem co_odds (h0 : wi x 0 20 = true) (h1 : wi w 0 1 = true) : OpC 88 [.int x, .int w] T V X (.long (odV w (iN x) T)) T V X := by
  intro a h U _
  obtain ⟨m, hm, rfl⟩ := wi_nat 20 (by decide) h0
  rw [iN_of (by omega)]
  obtain ⟨hc, ec⟩ := nc_eq (T := T)
  obtain ⟨j, hj, ej⟩ := cl_lt (T := T)
  rw [ej] at ec
  have ob := od_both (ncN T) hc m hm
  have eb := e_bitCount (a := a) (h := cw h T U V X) hj
  rw [ec] at eb
  refine ⟨U, X, ?_, fun k hk => rfl⟩
  unfold odV
  by_cases q : w = 0
  · rw [if_pos q, ob.1]
    subst q
    rw [Ec_go rfl]; show Rn 88 (0, [some (.ref 0), some (.int (Int32.ofNat m)), some (.int 0), none, none], [], a, cw h T U V X) = _
    simp only [r88_0, r88_1, r88_2, r88_4, r88_7, r88_10, r88_11, r88_12, r88_13, r88_16, r88_19, r88_20, r88_22, r88_25, r88_26, r88_27, r88_28, r88_31, r88_34, r88_37, r88_38, r88_40, r88_44, r88_45, r88_48, r88_49, r88_50, r88_51, r88_54, r88_55, r88_56, r88_57, r88_58, r88_60, r88_61, r88_62, r88_64, r88_67, r88_68, r88_71, r88_72, r88_73, r88_76, r88_78, r88_79, r88_80, r88_83, Nl_none, Nl_int, Nl_ref, Nl_null, Kv_some, Ki_some, Kh_some, Bk_some, Bk_void, ↓reduceIte, mrt10, mrt11, zl2, zl3, zl4, zl8, Bool.false_eq_true, cx_tub, cx_trial, cx_kept, cx_isKept, cx_tape, cx_reader, cx_sheets, cx_findings, cx_mis, cx_mis37, cx_mis38, cx_bytes, cx_tlen, cx_rtape, cx_token, cx_start, cx_end, cx_number, cx_lnBytes, cx_lnSheets, cx_lnFind, Int32.reduceAdd, Int32.reduceSub, Int32.reduceMul, Int32.reduceLT, zqm0, zqm1, zqm2, zqm3, zqm4, zqm5, zqm6, zqm7, zqm8, zq0m, zq01, zq02, zq03, zq04, zq05, zq06, zq07, zq08, zq1m, zq10, zq12, zq13, zq14, zq15, zq16, zq17, zq18, zq2m, zq20, zq21, zq23, zq24, zq25, zq26, zq27, zq28, zq3m, zq30, zq31, zq32, zq34, zq35, zq36, zq37, zq38, zq4m, zq40, zq41, zq42, zq43, zq45, zq46, zq47, zq48, zq5m, zq50, zq51, zq52, zq53, zq54, zq56, zq57, zq58, zq6m, zq60, zq61, zq62, zq63, zq64, zq65, zq67, zq68, zq7m, zq70, zq71, zq72, zq73, zq74, zq75, zq76, zq78, zq8m, zq80, zq81, zq82, zq83, zq84, zq85, zq86, zq87, e_isLayer, e_isColour, e_isKind, e_isSpot, e_isWithin, cf_0, cf_1, cf_2, cf_3, cf_4, cf_5, cf_6, b2i, mis_1, mis_13, mis_25, h0, h1, e_clearLayers1, ej, eb, e_halve hc, e_power (show m < 1000 by omega)]
  · rw [if_neg q, ob.2]
    rw [Ec_go rfl]; show Rn 88 (0, [some (.ref 0), some (.int (Int32.ofNat m)), some (.int w), none, none], [], a, cw h T U V X) = _
    simp only [r88_0, r88_1, r88_2, r88_4, r88_7, r88_10, r88_11, r88_12, r88_13, r88_16, r88_19, r88_20, r88_22, r88_25, r88_26, r88_27, r88_28, r88_31, r88_34, r88_37, r88_38, r88_40, r88_44, r88_45, r88_48, r88_49, r88_50, r88_51, r88_54, r88_55, r88_56, r88_57, r88_58, r88_60, r88_61, r88_62, r88_64, r88_67, r88_68, r88_71, r88_72, r88_73, r88_76, r88_78, r88_79, r88_80, r88_83, Nl_none, Nl_int, Nl_ref, Nl_null, Kv_some, Ki_some, Kh_some, Bk_some, Bk_void, ↓reduceIte, mrt10, mrt11, zl2, zl3, zl4, zl8, Bool.false_eq_true, cx_tub, cx_trial, cx_kept, cx_isKept, cx_tape, cx_reader, cx_sheets, cx_findings, cx_mis, cx_mis37, cx_mis38, cx_bytes, cx_tlen, cx_rtape, cx_token, cx_start, cx_end, cx_number, cx_lnBytes, cx_lnSheets, cx_lnFind, Int32.reduceAdd, Int32.reduceSub, Int32.reduceMul, Int32.reduceLT, zqm0, zqm1, zqm2, zqm3, zqm4, zqm5, zqm6, zqm7, zqm8, zq0m, zq01, zq02, zq03, zq04, zq05, zq06, zq07, zq08, zq1m, zq10, zq12, zq13, zq14, zq15, zq16, zq17, zq18, zq2m, zq20, zq21, zq23, zq24, zq25, zq26, zq27, zq28, zq3m, zq30, zq31, zq32, zq34, zq35, zq36, zq37, zq38, zq4m, zq40, zq41, zq42, zq43, zq45, zq46, zq47, zq48, zq5m, zq50, zq51, zq52, zq53, zq54, zq56, zq57, zq58, zq6m, zq60, zq61, zq62, zq63, zq64, zq65, zq67, zq68, zq7m, zq70, zq71, zq72, zq73, zq74, zq75, zq76, zq78, zq8m, zq80, zq81, zq82, zq83, zq84, zq85, zq86, zq87, e_isLayer, e_isColour, e_isKind, e_isSpot, e_isWithin, cf_0, cf_1, cf_2, cf_3, cf_4, cf_5, cf_6, b2i, mis_1, mis_13, mis_25, h0, h1, e_clearLayers1, ej, eb, e_halve hc, q, e_power (show m < 1000 by omega)]
theorem cb_odds (hb : ¬ (wi x 0 20 = true ∧ wi w 0 1 = true)) : OpC 88 [.int x, .int w] T V X (.long ((-1000001 : Int32).toInt64)) T V (fnX 0 X) := by
  intro a h U _
  refine ⟨U, fnX 0 X, ?_, fun k hk => rfl⟩
  rw [Ec_go rfl]; show Rn 88 (0, [some (.ref 0), some (.int x), some (.int w), none, none], [], a, cw h T U V X) = _
  by_cases h0 : wi x 0 20 = true
  · by_cases h1 : wi w 0 1 = true
    · exact absurd ⟨h0, h1⟩ hb
    · simp only [r88_0, r88_1, r88_2, r88_4, r88_7, r88_10, r88_11, r88_12, r88_13, r88_16, r88_19, r88_20, r88_22, r88_25, r88_26, r88_27, r88_28, r88_31, r88_34, r88_37, r88_38, r88_40, r88_42, r88_44, r88_45, r88_48, r88_49, r88_50, r88_51, r88_54, r88_55, r88_56, r88_57, r88_58, r88_60, r88_61, r88_62, r88_64, r88_67, r88_68, r88_71, r88_72, r88_73, r88_76, r88_78, r88_79, r88_80, r88_83, Nl_none, Nl_int, Nl_ref, Nl_null, Kv_some, Ki_some, Kh_some, Bk_some, Bk_void, ↓reduceIte, mrt10, mrt11, zl2, zl3, zl4, zl8, Bool.false_eq_true, cx_tub, cx_trial, cx_kept, cx_isKept, cx_tape, cx_reader, cx_sheets, cx_findings, cx_mis, cx_mis37, cx_mis38, cx_bytes, cx_tlen, cx_rtape, cx_token, cx_start, cx_end, cx_number, cx_lnBytes, cx_lnSheets, cx_lnFind, Int32.reduceAdd, Int32.reduceSub, Int32.reduceMul, Int32.reduceLT, zqm0, zqm1, zqm2, zqm3, zqm4, zqm5, zqm6, zqm7, zqm8, zq0m, zq01, zq02, zq03, zq04, zq05, zq06, zq07, zq08, zq1m, zq10, zq12, zq13, zq14, zq15, zq16, zq17, zq18, zq2m, zq20, zq21, zq23, zq24, zq25, zq26, zq27, zq28, zq3m, zq30, zq31, zq32, zq34, zq35, zq36, zq37, zq38, zq4m, zq40, zq41, zq42, zq43, zq45, zq46, zq47, zq48, zq5m, zq50, zq51, zq52, zq53, zq54, zq56, zq57, zq58, zq6m, zq60, zq61, zq62, zq63, zq64, zq65, zq67, zq68, zq7m, zq70, zq71, zq72, zq73, zq74, zq75, zq76, zq78, zq8m, zq80, zq81, zq82, zq83, zq84, zq85, zq86, zq87, e_isLayer, e_isColour, e_isKind, e_isSpot, e_isWithin, cf_0, cf_1, cf_2, cf_3, cf_4, cf_5, cf_6, b2i, mis_1, mis_13, mis_25, h0, h1]
  · simp only [r88_0, r88_1, r88_2, r88_4, r88_7, r88_10, r88_11, r88_12, r88_13, r88_16, r88_19, r88_20, r88_22, r88_25, r88_26, r88_27, r88_28, r88_31, r88_34, r88_37, r88_38, r88_40, r88_42, r88_44, r88_45, r88_48, r88_49, r88_50, r88_51, r88_54, r88_55, r88_56, r88_57, r88_58, r88_60, r88_61, r88_62, r88_64, r88_67, r88_68, r88_71, r88_72, r88_73, r88_76, r88_78, r88_79, r88_80, r88_83, Nl_none, Nl_int, Nl_ref, Nl_null, Kv_some, Ki_some, Kh_some, Bk_some, Bk_void, ↓reduceIte, mrt10, mrt11, zl2, zl3, zl4, zl8, Bool.false_eq_true, cx_tub, cx_trial, cx_kept, cx_isKept, cx_tape, cx_reader, cx_sheets, cx_findings, cx_mis, cx_mis37, cx_mis38, cx_bytes, cx_tlen, cx_rtape, cx_token, cx_start, cx_end, cx_number, cx_lnBytes, cx_lnSheets, cx_lnFind, Int32.reduceAdd, Int32.reduceSub, Int32.reduceMul, Int32.reduceLT, zqm0, zqm1, zqm2, zqm3, zqm4, zqm5, zqm6, zqm7, zqm8, zq0m, zq01, zq02, zq03, zq04, zq05, zq06, zq07, zq08, zq1m, zq10, zq12, zq13, zq14, zq15, zq16, zq17, zq18, zq2m, zq20, zq21, zq23, zq24, zq25, zq26, zq27, zq28, zq3m, zq30, zq31, zq32, zq34, zq35, zq36, zq37, zq38, zq4m, zq40, zq41, zq42, zq43, zq45, zq46, zq47, zq48, zq5m, zq50, zq51, zq52, zq53, zq54, zq56, zq57, zq58, zq6m, zq60, zq61, zq62, zq63, zq64, zq65, zq67, zq68, zq7m, zq70, zq71, zq72, zq73, zq74, zq75, zq76, zq78, zq8m, zq80, zq81, zq82, zq83, zq84, zq85, zq86, zq87, e_isLayer, e_isColour, e_isKind, e_isSpot, e_isWithin, cf_0, cf_1, cf_2, cf_3, cf_4, cf_5, cf_6, b2i, mis_1, mis_13, mis_25, h0]
/-! feed -/
theorem e_append {L : Nat} (hL : X 1 = Int32.ofNat L) (h1 : L < 120) : Ec 9 [.ref 38, .int v] a (cw h T U V X) = some (none, a, cw h T U V (mfu (mfu X (20 + L) v) 1 (Int32.ofNat (L + 1)))) := by
  have n0 : (Int32.ofNat L < 0) = False := of_nn (by omega)
  have n1 : (Int32.ofNat L < (120 : Int32)) = True := ltT (m := 120) h1 (by decide)
  have g : mfu X (20 + L) v 1 = Int32.ofNat L := by rw [fu_ne (by omega)]; exact hL
  rw [Ec_go rfl]; show Rn 9 (0, [some (.ref 38), some (.int v)], [], a, cw h T U V X) = _
  simp only [r9_0, r9_1, r9_4, r9_7, r9_8, r9_11, r9_12, r9_15, r9_16, r9_19, r9_20, r9_23, r9_24, r9_27, r9_28, r9_29, r9_30, r9_31, r9_34, r9_35, r9_36, r9_39, Nl_none, Nl_int, Nl_ref, Nl_null, Kv_some, Ki_some, Kh_some, Bk_some, Bk_void, ↓reduceIte, mrt10, mrt11, zl2, zl3, zl4, zl8, Bool.false_eq_true, cx_tub, cx_trial, cx_kept, cx_isKept, cx_tape, cx_reader, cx_sheets, cx_findings, cx_mis, cx_mis37, cx_mis38, cx_bytes, cx_tlen, cx_rtape, cx_token, cx_start, cx_end, cx_number, cx_lnBytes, cx_lnSheets, cx_lnFind, hL, n0, n1, cp_bytes h1, g, cp_tlen, of_in]
theorem co_feed {L : Nat} (h0 : wi z 1 4 = true) (hL : X 1 = Int32.ofNat L) (h1 : L + iN z ≤ 120) : OpC 90 [.int x, .int z] T V X (.int (Int32.ofNat (L + iN z))) T V (fdS x (iN z) L X) := by
  intro a h U _
  obtain ⟨m, hm0, hm, rfl⟩ := wi_nat1 4 (by decide) h0
  rw [iN_of (by omega)] at h1 ⊢
  have Lp := lp_up (M := 90) (X := fun j (s : TS) => (41, [some (.ref 0), some (.int x), some (.int (Int32.ofNat m)), some (.int (Int32.ofNat (m - j) + -1))], [], a, cw h T U V s)) (f := fdF x m L) (P := fun j s => s 1 = Int32.ofNat (L + j)) (N := m) (fun j s hj p => ⟨by
    obtain ⟨i, hi⟩ : ∃ i, j + (i + 1) = m := ⟨m - j - 1, by omega⟩
    have e1 : Int32.ofNat (i + 1) + -1 = Int32.ofNat i := of_dec (by omega)
    have nn : (Int32.ofNat i < 0) = False := of_nn (by omega)
    have e8 : 8 * Int32.ofNat i = Int32.ofNat (8 * i) := of_mul 8 i
    have lj : L + j < 120 := by omega
    have sb := sh_byte (x := x) (i := i) (by omega)
    show Rn 90 (41, [some (.ref 0), some (.int x), some (.int (Int32.ofNat m)), some (.int (Int32.ofNat (m - j) + -1))], [], a, cw h T U V s) = Rn 90 (41, [some (.ref 0), some (.int x), some (.int (Int32.ofNat m)), some (.int (Int32.ofNat (m - (j + 1)) + -1))], [], a, cw h T U V (fdF x m L j s))
    unfold fdF
    rw [show m - j = i + 1 by omega, show m - (j + 1) = i by omega, show m - 1 - j = i by omega, e1, r90_41]
    simp only [r90_0, r90_1, r90_2, r90_3, r90_6, r90_9, r90_10, r90_12, r90_15, r90_16, r90_17, r90_20, r90_23, r90_24, r90_25, r90_27, r90_30, r90_31, r90_33, r90_36, r90_37, r90_38, r90_39, r90_40, r90_42, r90_45, r90_46, r90_49, r90_50, r90_52, r90_53, r90_54, r90_55, r90_58, r90_59, r90_62, r90_65, r90_68, r90_69, r90_72, r90_75, Nl_none, Nl_int, Nl_ref, Nl_null, Kv_some, Ki_some, Kh_some, Bk_some, Bk_void, ↓reduceIte, mrt10, mrt11, zl2, zl3, zl4, zl8, Bool.false_eq_true, cx_tub, cx_trial, cx_kept, cx_isKept, cx_tape, cx_reader, cx_sheets, cx_findings, cx_mis, cx_mis37, cx_mis38, cx_bytes, cx_tlen, cx_rtape, cx_token, cx_start, cx_end, cx_number, cx_lnBytes, cx_lnSheets, cx_lnFind, Int32.reduceAdd, Int32.reduceSub, Int32.reduceMul, Int32.reduceLT, zqm0, zqm1, zqm2, zqm3, zqm4, zqm5, zqm6, zqm7, zqm8, zq0m, zq01, zq02, zq03, zq04, zq05, zq06, zq07, zq08, zq1m, zq10, zq12, zq13, zq14, zq15, zq16, zq17, zq18, zq2m, zq20, zq21, zq23, zq24, zq25, zq26, zq27, zq28, zq3m, zq30, zq31, zq32, zq34, zq35, zq36, zq37, zq38, zq4m, zq40, zq41, zq42, zq43, zq45, zq46, zq47, zq48, zq5m, zq50, zq51, zq52, zq53, zq54, zq56, zq57, zq58, zq6m, zq60, zq61, zq62, zq63, zq64, zq65, zq67, zq68, zq7m, zq70, zq71, zq72, zq73, zq74, zq75, zq76, zq78, zq8m, zq80, zq81, zq82, zq83, zq84, zq85, zq86, zq87, nn, e8, sb, e_append p lj], by
    show fdF x m L j s 1 = _
    exact fu_at⟩) m 0 X (by omega) hL
  have lt : ((120 : Int32) < Int32.ofNat L + Int32.ofNat m) = False := by rw [of_add]; exact ltF (k := 120) (by omega) (by decide)
  refine ⟨U, fdS x m L X, ?_, fun k hk => rfl⟩
  have e1 : Int32.ofNat m - 1 = Int32.ofNat m + -1 := Int32.sub_eq_add_neg _ _
  rw [Ec_go rfl]; show Rn 90 (0, [some (.ref 0), some (.int x), some (.int (Int32.ofNat m)), none], [], a, cw h T U V X) = _
  simp only [r90_0, r90_1, r90_2, r90_3, r90_6, r90_9, r90_10, r90_12, r90_15, r90_16, r90_17, r90_20, r90_23, r90_24, r90_25, r90_27, r90_30, r90_31, r90_33, r90_36, r90_37, r90_38, r90_39, r90_40, r90_42, r90_45, r90_46, r90_49, r90_50, r90_52, r90_53, r90_54, r90_55, r90_58, r90_59, r90_62, r90_65, r90_68, r90_69, r90_72, r90_75, Nl_none, Nl_int, Nl_ref, Nl_null, Kv_some, Ki_some, Kh_some, Bk_some, Bk_void, ↓reduceIte, mrt10, mrt11, zl2, zl3, zl4, zl8, Bool.false_eq_true, cx_tub, cx_trial, cx_kept, cx_isKept, cx_tape, cx_reader, cx_sheets, cx_findings, cx_mis, cx_mis37, cx_mis38, cx_bytes, cx_tlen, cx_rtape, cx_token, cx_start, cx_end, cx_number, cx_lnBytes, cx_lnSheets, cx_lnFind, Int32.reduceAdd, Int32.reduceSub, Int32.reduceMul, Int32.reduceLT, zqm0, zqm1, zqm2, zqm3, zqm4, zqm5, zqm6, zqm7, zqm8, zq0m, zq01, zq02, zq03, zq04, zq05, zq06, zq07, zq08, zq1m, zq10, zq12, zq13, zq14, zq15, zq16, zq17, zq18, zq2m, zq20, zq21, zq23, zq24, zq25, zq26, zq27, zq28, zq3m, zq30, zq31, zq32, zq34, zq35, zq36, zq37, zq38, zq4m, zq40, zq41, zq42, zq43, zq45, zq46, zq47, zq48, zq5m, zq50, zq51, zq52, zq53, zq54, zq56, zq57, zq58, zq6m, zq60, zq61, zq62, zq63, zq64, zq65, zq67, zq68, zq7m, zq70, zq71, zq72, zq73, zq74, zq75, zq76, zq78, zq8m, zq80, zq81, zq82, zq83, zq84, zq85, zq86, zq87, e_isLayer, e_isColour, e_isKind, e_isSpot, e_isWithin, cf_0, cf_1, cf_2, cf_3, cf_4, cf_5, cf_6, b2i, mis_1, mis_13, mis_25, h0, hL, lt, e1]
  refine Lp.1.trans ?_
  have l2 : fdS x m L X 1 = Int32.ofNat (L + m) := Lp.2
  have f : fdS x m L X = lpf (fdF x m L) 0 m X := rfl
  rw [show m - m = 0 by omega, ← f, r90_41]
  simp only [r90_0, r90_1, r90_2, r90_3, r90_6, r90_9, r90_10, r90_12, r90_15, r90_16, r90_17, r90_20, r90_23, r90_24, r90_25, r90_27, r90_30, r90_31, r90_33, r90_36, r90_37, r90_38, r90_39, r90_40, r90_42, r90_45, r90_46, r90_49, r90_50, r90_52, r90_53, r90_54, r90_55, r90_58, r90_59, r90_62, r90_65, r90_68, r90_69, r90_72, r90_75, Nl_none, Nl_int, Nl_ref, Nl_null, Kv_some, Ki_some, Kh_some, Bk_some, Bk_void, ↓reduceIte, mrt10, mrt11, zl2, zl3, zl4, zl8, Bool.false_eq_true, cx_tub, cx_trial, cx_kept, cx_isKept, cx_tape, cx_reader, cx_sheets, cx_findings, cx_mis, cx_mis37, cx_mis38, cx_bytes, cx_tlen, cx_rtape, cx_token, cx_start, cx_end, cx_number, cx_lnBytes, cx_lnSheets, cx_lnFind, Int32.reduceAdd, Int32.reduceSub, Int32.reduceMul, Int32.reduceLT, zqm0, zqm1, zqm2, zqm3, zqm4, zqm5, zqm6, zqm7, zqm8, zq0m, zq01, zq02, zq03, zq04, zq05, zq06, zq07, zq08, zq1m, zq10, zq12, zq13, zq14, zq15, zq16, zq17, zq18, zq2m, zq20, zq21, zq23, zq24, zq25, zq26, zq27, zq28, zq3m, zq30, zq31, zq32, zq34, zq35, zq36, zq37, zq38, zq4m, zq40, zq41, zq42, zq43, zq45, zq46, zq47, zq48, zq5m, zq50, zq51, zq52, zq53, zq54, zq56, zq57, zq58, zq6m, zq60, zq61, zq62, zq63, zq64, zq65, zq67, zq68, zq7m, zq70, zq71, zq72, zq73, zq74, zq75, zq76, zq78, zq8m, zq80, zq81, zq82, zq83, zq84, zq85, zq86, zq87, Int32.reduceOfNat, show ((0 : Int32) + -1 < 0) = True by decide, l2]
theorem cb_feed (h0 : ¬ wi z 1 4 = true) : OpC 90 [.int x, .int z] T V X (.int (-1000001)) T V (fnX 0 X) := by
  intro a h U _
  refine ⟨U, fnX 0 X, ?_, fun k hk => rfl⟩
  rw [Ec_go rfl]; show Rn 90 (0, [some (.ref 0), some (.int x), some (.int z), none], [], a, cw h T U V X) = _
  simp only [r90_0, r90_1, r90_2, r90_3, r90_6, r90_9, r90_10, r90_12, r90_15, r90_16, r90_17, r90_20, r90_23, r90_24, r90_25, r90_27, r90_30, r90_31, r90_33, r90_36, r90_37, r90_38, r90_39, r90_40, r90_42, r90_45, r90_46, r90_49, r90_50, r90_52, r90_53, r90_54, r90_55, r90_58, r90_59, r90_62, r90_65, r90_68, r90_69, r90_72, r90_75, Nl_none, Nl_int, Nl_ref, Nl_null, Kv_some, Ki_some, Kh_some, Bk_some, Bk_void, ↓reduceIte, mrt10, mrt11, zl2, zl3, zl4, zl8, Bool.false_eq_true, cx_tub, cx_trial, cx_kept, cx_isKept, cx_tape, cx_reader, cx_sheets, cx_findings, cx_mis, cx_mis37, cx_mis38, cx_bytes, cx_tlen, cx_rtape, cx_token, cx_start, cx_end, cx_number, cx_lnBytes, cx_lnSheets, cx_lnFind, Int32.reduceAdd, Int32.reduceSub, Int32.reduceMul, Int32.reduceLT, zqm0, zqm1, zqm2, zqm3, zqm4, zqm5, zqm6, zqm7, zqm8, zq0m, zq01, zq02, zq03, zq04, zq05, zq06, zq07, zq08, zq1m, zq10, zq12, zq13, zq14, zq15, zq16, zq17, zq18, zq2m, zq20, zq21, zq23, zq24, zq25, zq26, zq27, zq28, zq3m, zq30, zq31, zq32, zq34, zq35, zq36, zq37, zq38, zq4m, zq40, zq41, zq42, zq43, zq45, zq46, zq47, zq48, zq5m, zq50, zq51, zq52, zq53, zq54, zq56, zq57, zq58, zq6m, zq60, zq61, zq62, zq63, zq64, zq65, zq67, zq68, zq7m, zq70, zq71, zq72, zq73, zq74, zq75, zq76, zq78, zq8m, zq80, zq81, zq82, zq83, zq84, zq85, zq86, zq87, e_isLayer, e_isColour, e_isKind, e_isSpot, e_isWithin, cf_0, cf_1, cf_2, cf_3, cf_4, cf_5, cf_6, b2i, mis_1, mis_13, mis_25, h0]
theorem cb_feedF {L : Nat} (h0 : wi z 1 4 = true) (hL : X 1 = Int32.ofNat L) (h2 : L ≤ 120) (h1 : ¬ L + iN z ≤ 120) : OpC 90 [.int x, .int z] T V X (.int (-1000002)) T V (fnX 1 X) := by
  intro a h U _
  obtain ⟨m, hm0, hm, rfl⟩ := wi_nat1 4 (by decide) h0
  rw [iN_of (by omega)] at h1
  have lt : ((120 : Int32) < Int32.ofNat L + Int32.ofNat m) = True := by rw [of_add]; exact ltT (k := 120) (by omega) (by omega)
  refine ⟨U, fnX 1 X, ?_, fun k hk => rfl⟩
  rw [Ec_go rfl]; show Rn 90 (0, [some (.ref 0), some (.int x), some (.int (Int32.ofNat m)), none], [], a, cw h T U V X) = _
  simp only [r90_0, r90_1, r90_2, r90_3, r90_6, r90_9, r90_10, r90_12, r90_15, r90_16, r90_17, r90_20, r90_23, r90_24, r90_25, r90_27, r90_30, r90_31, r90_33, r90_36, r90_37, r90_38, r90_39, r90_40, r90_42, r90_45, r90_46, r90_49, r90_50, r90_52, r90_53, r90_54, r90_55, r90_58, r90_59, r90_62, r90_65, r90_68, r90_69, r90_72, r90_75, Nl_none, Nl_int, Nl_ref, Nl_null, Kv_some, Ki_some, Kh_some, Bk_some, Bk_void, ↓reduceIte, mrt10, mrt11, zl2, zl3, zl4, zl8, Bool.false_eq_true, cx_tub, cx_trial, cx_kept, cx_isKept, cx_tape, cx_reader, cx_sheets, cx_findings, cx_mis, cx_mis37, cx_mis38, cx_bytes, cx_tlen, cx_rtape, cx_token, cx_start, cx_end, cx_number, cx_lnBytes, cx_lnSheets, cx_lnFind, Int32.reduceAdd, Int32.reduceSub, Int32.reduceMul, Int32.reduceLT, zqm0, zqm1, zqm2, zqm3, zqm4, zqm5, zqm6, zqm7, zqm8, zq0m, zq01, zq02, zq03, zq04, zq05, zq06, zq07, zq08, zq1m, zq10, zq12, zq13, zq14, zq15, zq16, zq17, zq18, zq2m, zq20, zq21, zq23, zq24, zq25, zq26, zq27, zq28, zq3m, zq30, zq31, zq32, zq34, zq35, zq36, zq37, zq38, zq4m, zq40, zq41, zq42, zq43, zq45, zq46, zq47, zq48, zq5m, zq50, zq51, zq52, zq53, zq54, zq56, zq57, zq58, zq6m, zq60, zq61, zq62, zq63, zq64, zq65, zq67, zq68, zq7m, zq70, zq71, zq72, zq73, zq74, zq75, zq76, zq78, zq8m, zq80, zq81, zq82, zq83, zq84, zq85, zq86, zq87, e_isLayer, e_isColour, e_isKind, e_isSpot, e_isWithin, cf_0, cf_1, cf_2, cf_3, cf_4, cf_5, cf_6, b2i, mis_1, mis_13, mis_25, h0, hL, lt]
end
