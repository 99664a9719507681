/-! ===== the class's calls: searches ===== -/
section
variable {a : MA} {h hh : MH} {T U V X W : TS} {x y z v w : Int32} {n k m : Nat}
/-- a trial that stands for a Tub -/
def TR (n : Nat) (W T : TS) : Prop := SR n W T ∧ W 86 = 0
theorem tr_tk (ok : Ok n T) : TR n (tkS n T U) T := ⟨sr_tk ok, tk_86⟩
theorem tr_yr (h : TR n W T) : TR n (yrT 0 n W) (yrT 0 n T) := ⟨sr_yr h.1, yr_86 h.1.ok h.2⟩
theorem ys_86 {W : TS} {out : Int32} (ok : Ok n W) (hd : W 86 = out) : ysT out n m W 86 = out :=
  (lpf_inv (f := fun _ => yrT out n) (P := fun _ (s : TS) => Ok n s ∧ s 86 = out) (N := m) (fun k s hk p => ⟨sr_yr p.1, yr_86 p.1 p.2⟩) m 0 W (by omega) ⟨ok, hd⟩).2
theorem tr_ys (h : TR n W T) : TR n (ysT 0 n m W) (ysT 0 n m T) := ⟨sr_ys h.1, ys_86 h.1.ok h.2⟩
theorem e_passT (hW : TR n W T) (hm : m < 2147483648) : Ec 53 [.ref 13, .int (Int32.ofNat m)] a (cw h T W V X) = some (none, a, cw h T (ysT 0 n m W) V X) := e_passYears13 hW.1.ok hW.2 hm
theorem e_pass1 {R : TS} (hW : TR n W R) : Ec 53 [.ref 13, .int 1] a (cw h T W V X) = some (none, a, cw h T (yrT 0 n W) V X) := e_passYears13 (m := 1) hW.1.ok hW.2 (by decide)
theorem e_passR {R : TS} (hW : TR n W R) (hm : m < 2147483648) : Ec 53 [.ref 13, .int (Int32.ofNat m)] a (cw h T W V X) = some (none, a, cw h T (ysT 0 n m W) V X) := e_passYears13 hW.1.ok hW.2 hm
/-- a thing is never seen less often -/
theorem yr_seen {t : Nat} (ok : Ok n T) (ht : t < n) : (T (33 + 6 * t)).toInt ≤ (yrT 0 n T (33 + 6 * t)).toInt := by
  have h8 := ok.1
  have h1 := lpf_inv (f := blB 0) (P := fun _ (s : TS) => Ok n s ∧ s (33 + 6 * t) = T (33 + 6 * t)) (N := n) (fun k s hk p => ⟨sr_blB p.1 hk, by
    have p2 := p.2
    unfold blB
    split
    · unfold blT
      obtain ⟨j, hj, e⟩ := dyI_rg (sr_isL p.1 hk) (sr_isC p.1 hk)
      rw [e, fu_ne (by omega), fu_ne (by omega)]; exact p2
    · exact p2⟩) n 0 T (by omega) ⟨ok, rfl⟩
  have h2 : skA (blA 0 n T) (33 + 6 * t) = T (33 + 6 * t) := lpf_inv (f := fun i => skS (20 - i)) (P := fun _ (s : TS) => s (33 + 6 * t) = T (33 + 6 * t)) (N := 21) (fun k s hk p => by show skS (20 - k) s _ = _; unfold skS; rw [fu_ne (by omega), fu_ne (by omega)]; exact p) 21 0 _ (by omega) h1.2
  have h3 : tnA n (skA (blA 0 n T)) (33 + 6 * t) = T (33 + 6 * t) := lpf_inv (f := tnT) (P := fun _ (s : TS) => s (33 + 6 * t) = T (33 + 6 * t)) (N := n) (fun k s hk p => by
    unfold tnT
    split
    · rw [fu_ne (by omega), fu_ne (by omega)]; exact p
    · exact p) n 0 _ (by omega) h2
  have o3 : Ok n (tnA n (skA (blA 0 n T))) := sr_tnA (sr_skA (sr_blA ok))
  have h4 := lpf_inv (f := riT) (P := fun _ (s : TS) => Ok n s ∧ (T (33 + 6 * t)).toInt ≤ (s (33 + 6 * t)).toInt) (N := n) (fun k s hk p => ⟨sr_ri p.1 hk, by
    have p2 := p.2
    have r := rg_seen p.1 hk
    have e1 : (1 : Int32).toInt = 1 := by decide
    unfold riT
    rw [fu_ne (by omega), fu_ne (by omega)]
    split
    · by_cases q : t = k
      · subst q
        rw [fu_at]
        have ce : (cap (s (33 + 6 * t) + 1)).toInt ≥ (s (33 + 6 * t)).toInt := by
          unfold cap
          have s1 : (s (33 + 6 * t) + 1).toInt = (s (33 + 6 * t)).toInt + 1 := by rw [ti_add (by omega) (by omega), e1]
          by_cases c : 999 < s (33 + 6 * t) + 1
          · rw [if_pos c]; have : (999 : Int32).toInt = 999 := by decide
            omega
          · rw [if_neg c]; omega
        omega
      · rw [fu_ne (by omega)]; exact p2
    · exact p2⟩) n 0 _ (by omega) ⟨o3, by rw [h3]; omega⟩
  unfold yrT
  rw [fu_ne (by omega)]
  exact h4.2
theorem ys_seen {t : Nat} (ok : Ok n T) (ht : t < n) : (T (33 + 6 * t)).toInt ≤ (ysT 0 n k T (33 + 6 * t)).toInt :=
  (lpf_inv (f := fun _ => yrT 0 n) (P := fun _ (s : TS) => Ok n s ∧ (T (33 + 6 * t)).toInt ≤ (s (33 + 6 * t)).toInt) (N := k) (fun k s hk p => ⟨sr_yr p.1, by have := yr_seen p.1 ht; have := p.2; omega⟩) k 0 T (by omega) ⟨ok, by omega⟩).2
theorem cq_seen (ok : Ok n T) : OpQC 74 [.int x] T V X (seQ x n T) := by
  intro a h U _
  have h8 := ok.1
  by_cases h0 : hsB x n = true
  · skip
    rw [show seQ x n T = onQ (fnd (seP (iN x) n T) 0 201) from if_pos h0]
    obtain ⟨t, ht, rfl⟩ := hs_of h0 h8
    rw [iN_of (show t < 2147483648 by omega)]
    have e0 : fnd (seP t n T) 0 201 = fnd (seP t n T) 1 200 := if_neg (by unfold seP; rw [decide_eq_true (show ysT 0 n 0 T (33 + 6 * t) = T (33 + 6 * t) from rfl)]; decide)
    have L := lp_find (M := 74) (X := fun j (s' : TS) => (34, [some (.ref 0), some (.int (Int32.ofNat t)), some (.int (T (33 + 6 * t))), some (.int (Int32.ofNat j))], [], a, cw h T s' V X)) (f := fun _ s' => yrT 0 n s') (P := fun j s' => 1 ≤ j ∧ TR n s' (ysT 0 n (j - 1) T)) (p := seP t n T) (Q := fun o r => ∃ U', r = some (some (.int (qv (onQ o))), a, cw h T U' V (qX (onQ o) X))) (N := 201) ?_ ?_ ?_ 200 1 (tkS n T U) (by omega) ⟨by omega, tr_tk ok⟩
    · obtain ⟨U', L⟩ := L
      refine ⟨U', qX (onQ (fnd (seP t n T) 0 201)) X, ?_, fun k _ => rfl⟩
      rw [e0]
      rw [← L]
      rw [Ec_go rfl]; show Rn 74 (0, [some (.ref 0), some (.int (Int32.ofNat t)), none, none], [], a, cw h T U V X) = _
      simp only [r74_0, r74_1, r74_4, r74_5, r74_8, r74_11, r74_12, r74_14, r74_17, r74_18, r74_19, r74_22, r74_23, r74_24, r74_27, r74_28, r74_29, r74_32, r74_33, r74_35, r74_38, r74_41, r74_42, r74_45, r74_46, r74_49, r74_50, r74_53, r74_54, r74_55, r74_58, r74_59, r74_62, r74_63, r74_64, r74_67, r74_70, r74_71, r74_73, r74_76, Nl_none, Nl_int, Nl_ref, Nl_null, Kv_some, Ki_some, Kh_some, Bk_some, Bk_void, ↓reduceIte, mrt10, mrt11, zl2, zl3, zl4, zl8, Bool.false_eq_true, cx_tub, cx_trial, cx_kept, cx_isKept, cx_tape, cx_reader, cx_sheets, cx_findings, cx_mis, cx_mis37, cx_mis38, cx_bytes, cx_tlen, cx_rtape, cx_token, cx_start, cx_end, cx_number, cx_lnBytes, cx_lnSheets, cx_lnFind, Int32.reduceAdd, Int32.reduceSub, Int32.reduceMul, Int32.reduceLT, zqm0, zqm1, zqm2, zqm3, zqm4, zqm5, zqm6, zqm7, zqm8, zq0m, zq01, zq02, zq03, zq04, zq05, zq06, zq07, zq08, zq1m, zq10, zq12, zq13, zq14, zq15, zq16, zq17, zq18, zq2m, zq20, zq21, zq23, zq24, zq25, zq26, zq27, zq28, zq3m, zq30, zq31, zq32, zq34, zq35, zq36, zq37, zq38, zq4m, zq40, zq41, zq42, zq43, zq45, zq46, zq47, zq48, zq5m, zq50, zq51, zq52, zq53, zq54, zq56, zq57, zq58, zq6m, zq60, zq61, zq62, zq63, zq64, zq65, zq67, zq68, zq7m, zq70, zq71, zq72, zq73, zq74, zq75, zq76, zq78, zq8m, zq80, zq81, zq82, zq83, zq84, zq85, zq86, zq87, e_isLayer, e_isColour, e_isKind, e_isSpot, e_isWithin, cf_0, cf_1, cf_2, cf_3, cf_4, cf_5, cf_6, b2i, mis_1, mis_13, mis_25, e_begin13 ok, e_has1 ok, h0, e_told1 ok ht, show toS t 5 T = T (33 + 6 * t) from rfl]
      rfl
    · rintro j s' hj hW q
      obtain ⟨hj1, hW⟩ := hW
      have hW' : TR n (yrT 0 n s') (ysT 0 n j T) := by have := tr_yr hW; rw [← ys_succ, Nat.sub_add_cancel hj1] at this; exact this
      have q : ¬ ysT 0 n j T (33 + 6 * t) = T (33 + 6 * t) := by simpa only [seP, Bool.not_eq_true', decide_eq_false_iff_not] using q
      have g := ys_seen (k := j) ok ht
      have q : T (33 + 6 * t) < ysT 0 n j T (33 + 6 * t) := by rw [eq_ti] at q; rw [lt_ti]; omega
      have t5 : toS t 5 (yrT 0 n s') = ysT 0 n j T (33 + 6 * t) := (sr_to hW'.1 ht).symm
      have lt : ((200 : Int32) < Int32.ofNat j) = False := ltF (k := 200) (by omega) (by decide)
      refine ⟨yrT 0 n s', ?_⟩
      rw [on_s, qv_l, qX_l, r74_34]
      simp only [r74_0, r74_1, r74_4, r74_5, r74_8, r74_11, r74_12, r74_14, r74_17, r74_18, r74_19, r74_22, r74_23, r74_24, r74_27, r74_28, r74_29, r74_32, r74_33, r74_35, r74_38, r74_41, r74_42, r74_45, r74_46, r74_49, r74_50, r74_53, r74_54, r74_55, r74_58, r74_59, r74_62, r74_63, r74_64, r74_67, r74_70, r74_71, r74_73, r74_76, Nl_none, Nl_int, Nl_ref, Nl_null, Kv_some, Ki_some, Kh_some, Bk_some, Bk_void, ↓reduceIte, mrt10, mrt11, zl2, zl3, zl4, zl8, Bool.false_eq_true, cx_tub, cx_trial, cx_kept, cx_isKept, cx_tape, cx_reader, cx_sheets, cx_findings, cx_mis, cx_mis37, cx_mis38, cx_bytes, cx_tlen, cx_rtape, cx_token, cx_start, cx_end, cx_number, cx_lnBytes, cx_lnSheets, cx_lnFind, Int32.reduceAdd, Int32.reduceSub, Int32.reduceMul, Int32.reduceLT, zqm0, zqm1, zqm2, zqm3, zqm4, zqm5, zqm6, zqm7, zqm8, zq0m, zq01, zq02, zq03, zq04, zq05, zq06, zq07, zq08, zq1m, zq10, zq12, zq13, zq14, zq15, zq16, zq17, zq18, zq2m, zq20, zq21, zq23, zq24, zq25, zq26, zq27, zq28, zq3m, zq30, zq31, zq32, zq34, zq35, zq36, zq37, zq38, zq4m, zq40, zq41, zq42, zq43, zq45, zq46, zq47, zq48, zq5m, zq50, zq51, zq52, zq53, zq54, zq56, zq57, zq58, zq6m, zq60, zq61, zq62, zq63, zq64, zq65, zq67, zq68, zq7m, zq70, zq71, zq72, zq73, zq74, zq75, zq76, zq78, zq8m, zq80, zq81, zq82, zq83, zq84, zq85, zq86, zq87, e_isLayer, e_isColour, e_isKind, e_isSpot, e_isWithin, cf_0, cf_1, cf_2, cf_3, cf_4, cf_5, cf_6, b2i, mis_1, mis_13, mis_25, lt, e_pass1 hW, e_told13 hW'.1.ok ht, t5, q]
    · rintro j s' hj hW q
      obtain ⟨hj1, hW⟩ := hW
      have hW' : TR n (yrT 0 n s') (ysT 0 n j T) := by have := tr_yr hW; rw [← ys_succ, Nat.sub_add_cancel hj1] at this; exact this
      have q : ysT 0 n j T (33 + 6 * t) = T (33 + 6 * t) := by simpa only [seP, Bool.not_eq_false', decide_eq_true_eq] using q
      have q : ¬ T (33 + 6 * t) < ysT 0 n j T (33 + 6 * t) := by rw [q, lt_ti]; omega
      have t5 : toS t 5 (yrT 0 n s') = ysT 0 n j T (33 + 6 * t) := (sr_to hW'.1 ht).symm
      have hW' : 1 ≤ j + 1 ∧ TR n (yrT 0 n s') (ysT 0 n (j + 1 - 1) T) := ⟨by omega, by rw [Nat.add_sub_cancel]; exact hW'⟩
      have lt : ((200 : Int32) < Int32.ofNat j) = False := ltF (k := 200) (by omega) (by decide)
      refine ⟨?_, hW'⟩
      show Rn 74 (34, [some (.ref 0), some (.int (Int32.ofNat t)), some (.int (T (33 + 6 * t))), some (.int (Int32.ofNat j))], [], a, cw h T s' V X) = Rn 74 (34, [some (.ref 0), some (.int (Int32.ofNat t)), some (.int (T (33 + 6 * t))), some (.int (Int32.ofNat (j + 1)))], [], a, cw h T (yrT 0 n s') V X)
      rw [r74_34]
      simp only [r74_0, r74_1, r74_4, r74_5, r74_8, r74_11, r74_12, r74_14, r74_17, r74_18, r74_19, r74_22, r74_23, r74_24, r74_27, r74_28, r74_29, r74_32, r74_33, r74_35, r74_38, r74_41, r74_42, r74_45, r74_46, r74_49, r74_50, r74_53, r74_54, r74_55, r74_58, r74_59, r74_62, r74_63, r74_64, r74_67, r74_70, r74_71, r74_73, r74_76, Nl_none, Nl_int, Nl_ref, Nl_null, Kv_some, Ki_some, Kh_some, Bk_some, Bk_void, ↓reduceIte, mrt10, mrt11, zl2, zl3, zl4, zl8, Bool.false_eq_true, cx_tub, cx_trial, cx_kept, cx_isKept, cx_tape, cx_reader, cx_sheets, cx_findings, cx_mis, cx_mis37, cx_mis38, cx_bytes, cx_tlen, cx_rtape, cx_token, cx_start, cx_end, cx_number, cx_lnBytes, cx_lnSheets, cx_lnFind, Int32.reduceAdd, Int32.reduceSub, Int32.reduceMul, Int32.reduceLT, zqm0, zqm1, zqm2, zqm3, zqm4, zqm5, zqm6, zqm7, zqm8, zq0m, zq01, zq02, zq03, zq04, zq05, zq06, zq07, zq08, zq1m, zq10, zq12, zq13, zq14, zq15, zq16, zq17, zq18, zq2m, zq20, zq21, zq23, zq24, zq25, zq26, zq27, zq28, zq3m, zq30, zq31, zq32, zq34, zq35, zq36, zq37, zq38, zq4m, zq40, zq41, zq42, zq43, zq45, zq46, zq47, zq48, zq5m, zq50, zq51, zq52, zq53, zq54, zq56, zq57, zq58, zq6m, zq60, zq61, zq62, zq63, zq64, zq65, zq67, zq68, zq7m, zq70, zq71, zq72, zq73, zq74, zq75, zq76, zq78, zq8m, zq80, zq81, zq82, zq83, zq84, zq85, zq86, zq87, e_isLayer, e_isColour, e_isKind, e_isSpot, e_isWithin, cf_0, cf_1, cf_2, cf_3, cf_4, cf_5, cf_6, b2i, mis_1, mis_13, mis_25, lt, of_in, e_pass1 hW, e_told13 hW'.2.1.ok ht, t5, q]
    · rintro s' hW
      have lt : ((200 : Int32) < Int32.ofNat 201) = True := ltT (k := 200) (by omega) (by decide)
      refine ⟨s', ?_⟩
      rw [on_n, qv_3, qX_r, r74_34]
      simp only [r74_0, r74_1, r74_4, r74_5, r74_8, r74_11, r74_12, r74_14, r74_17, r74_18, r74_19, r74_22, r74_23, r74_24, r74_27, r74_28, r74_29, r74_32, r74_33, r74_35, r74_38, r74_41, r74_42, r74_45, r74_46, r74_49, r74_50, r74_53, r74_54, r74_55, r74_58, r74_59, r74_62, r74_63, r74_64, r74_67, r74_70, r74_71, r74_73, r74_76, Nl_none, Nl_int, Nl_ref, Nl_null, Kv_some, Ki_some, Kh_some, Bk_some, Bk_void, ↓reduceIte, mrt10, mrt11, zl2, zl3, zl4, zl8, Bool.false_eq_true, cx_tub, cx_trial, cx_kept, cx_isKept, cx_tape, cx_reader, cx_sheets, cx_findings, cx_mis, cx_mis37, cx_mis38, cx_bytes, cx_tlen, cx_rtape, cx_token, cx_start, cx_end, cx_number, cx_lnBytes, cx_lnSheets, cx_lnFind, Int32.reduceAdd, Int32.reduceSub, Int32.reduceMul, Int32.reduceLT, zqm0, zqm1, zqm2, zqm3, zqm4, zqm5, zqm6, zqm7, zqm8, zq0m, zq01, zq02, zq03, zq04, zq05, zq06, zq07, zq08, zq1m, zq10, zq12, zq13, zq14, zq15, zq16, zq17, zq18, zq2m, zq20, zq21, zq23, zq24, zq25, zq26, zq27, zq28, zq3m, zq30, zq31, zq32, zq34, zq35, zq36, zq37, zq38, zq4m, zq40, zq41, zq42, zq43, zq45, zq46, zq47, zq48, zq5m, zq50, zq51, zq52, zq53, zq54, zq56, zq57, zq58, zq6m, zq60, zq61, zq62, zq63, zq64, zq65, zq67, zq68, zq7m, zq70, zq71, zq72, zq73, zq74, zq75, zq76, zq78, zq8m, zq80, zq81, zq82, zq83, zq84, zq85, zq86, zq87, e_isLayer, e_isColour, e_isKind, e_isSpot, e_isWithin, cf_0, cf_1, cf_2, cf_3, cf_4, cf_5, cf_6, b2i, mis_1, mis_13, mis_25, lt]
  · rw [show seQ x n T = .inr 0 from if_neg h0]
    refine ⟨U, fnX 0 X, ?_, fun k _ => rfl⟩
    rw [qv_0]
    rw [Ec_go rfl]; show Rn 74 (0, [some (.ref 0), some (.int x), none, none], [], a, cw h T U V X) = _
    simp only [r74_0, r74_1, r74_4, r74_5, r74_8, r74_11, r74_12, r74_14, r74_17, r74_18, r74_19, r74_22, r74_23, r74_24, r74_27, r74_28, r74_29, r74_32, r74_33, r74_34, r74_35, r74_38, r74_41, r74_42, r74_45, r74_46, r74_49, r74_50, r74_53, r74_54, r74_55, r74_58, r74_59, r74_62, r74_63, r74_64, r74_67, r74_70, r74_71, r74_73, r74_76, Nl_none, Nl_int, Nl_ref, Nl_null, Kv_some, Ki_some, Kh_some, Bk_some, Bk_void, ↓reduceIte, mrt10, mrt11, zl2, zl3, zl4, zl8, Bool.false_eq_true, cx_tub, cx_trial, cx_kept, cx_isKept, cx_tape, cx_reader, cx_sheets, cx_findings, cx_mis, cx_mis37, cx_mis38, cx_bytes, cx_tlen, cx_rtape, cx_token, cx_start, cx_end, cx_number, cx_lnBytes, cx_lnSheets, cx_lnFind, Int32.reduceAdd, Int32.reduceSub, Int32.reduceMul, Int32.reduceLT, zqm0, zqm1, zqm2, zqm3, zqm4, zqm5, zqm6, zqm7, zqm8, zq0m, zq01, zq02, zq03, zq04, zq05, zq06, zq07, zq08, zq1m, zq10, zq12, zq13, zq14, zq15, zq16, zq17, zq18, zq2m, zq20, zq21, zq23, zq24, zq25, zq26, zq27, zq28, zq3m, zq30, zq31, zq32, zq34, zq35, zq36, zq37, zq38, zq4m, zq40, zq41, zq42, zq43, zq45, zq46, zq47, zq48, zq5m, zq50, zq51, zq52, zq53, zq54, zq56, zq57, zq58, zq6m, zq60, zq61, zq62, zq63, zq64, zq65, zq67, zq68, zq7m, zq70, zq71, zq72, zq73, zq74, zq75, zq76, zq78, zq8m, zq80, zq81, zq82, zq83, zq84, zq85, zq86, zq87, e_isLayer, e_isColour, e_isKind, e_isSpot, e_isWithin, cf_0, cf_1, cf_2, cf_3, cf_4, cf_5, cf_6, b2i, mis_1, mis_13, mis_25, e_has1 ok, h0]

theorem cq_when (ok : Ok n T) : OpQC 75 [.int x, .int y] T V X (whQ x y n T) := by
  intro a h U _
  have h8 := ok.1
  by_cases h0 : hsB x n = true
  · skip
    by_cases h1 : isC y = true
    · skip
      rw [show whQ x y n T = onQ (fnd (whP (iN x) y n T) 0 201) from if_pos ⟨h0, h1⟩]
      obtain ⟨t, ht, rfl⟩ := hs_of h0 h8
      rw [iN_of (show t < 2147483648 by omega)]
      have L := lp_find (M := 75) (X := fun j (s' : TS) => (31, [some (.ref 0), some (.int (Int32.ofNat t)), some (.int y), some (.int (Int32.ofNat j))], [], a, cw h T s' V X)) (f := fun _ s' => yrT 0 n s') (P := fun j s' => TR n s' (ysT 0 n j T)) (p := whP t y n T) (Q := fun o r => ∃ U', r = some (some (.int (qv (onQ o))), a, cw h T U' V (qX (onQ o) X))) (N := 201) ?_ ?_ ?_ 201 0 (tkS n T U) (by omega) (by exact tr_tk ok)
      · obtain ⟨U', L⟩ := L
        refine ⟨U', qX (onQ (fnd (whP t y n T) 0 201)) X, ?_, fun k _ => rfl⟩
        rw [← L]
        rw [Ec_go rfl]; show Rn 75 (0, [some (.ref 0), some (.int (Int32.ofNat t)), some (.int y), none], [], a, cw h T U V X) = _
        simp only [r75_0, r75_1, r75_4, r75_5, r75_8, r75_11, r75_12, r75_15, r75_18, r75_19, r75_21, r75_24, r75_25, r75_26, r75_29, r75_30, r75_32, r75_35, r75_38, r75_39, r75_42, r75_43, r75_44, r75_47, r75_48, r75_51, r75_52, r75_53, r75_54, r75_57, r75_58, r75_61, r75_64, r75_67, r75_68, r75_70, r75_73, Nl_none, Nl_int, Nl_ref, Nl_null, Kv_some, Ki_some, Kh_some, Bk_some, Bk_void, ↓reduceIte, mrt10, mrt11, zl2, zl3, zl4, zl8, Bool.false_eq_true, cx_tub, cx_trial, cx_kept, cx_isKept, cx_tape, cx_reader, cx_sheets, cx_findings, cx_mis, cx_mis37, cx_mis38, cx_bytes, cx_tlen, cx_rtape, cx_token, cx_start, cx_end, cx_number, cx_lnBytes, cx_lnSheets, cx_lnFind, Int32.reduceAdd, Int32.reduceSub, Int32.reduceMul, Int32.reduceLT, zqm0, zqm1, zqm2, zqm3, zqm4, zqm5, zqm6, zqm7, zqm8, zq0m, zq01, zq02, zq03, zq04, zq05, zq06, zq07, zq08, zq1m, zq10, zq12, zq13, zq14, zq15, zq16, zq17, zq18, zq2m, zq20, zq21, zq23, zq24, zq25, zq26, zq27, zq28, zq3m, zq30, zq31, zq32, zq34, zq35, zq36, zq37, zq38, zq4m, zq40, zq41, zq42, zq43, zq45, zq46, zq47, zq48, zq5m, zq50, zq51, zq52, zq53, zq54, zq56, zq57, zq58, zq6m, zq60, zq61, zq62, zq63, zq64, zq65, zq67, zq68, zq7m, zq70, zq71, zq72, zq73, zq74, zq75, zq76, zq78, zq8m, zq80, zq81, zq82, zq83, zq84, zq85, zq86, zq87, e_isLayer, e_isColour, e_isKind, e_isSpot, e_isWithin, cf_0, cf_1, cf_2, cf_3, cf_4, cf_5, cf_6, b2i, mis_1, mis_13, mis_25, e_begin13 ok, e_has1 ok, h0, h1]
        rfl
      · rintro j s' hj hW q
        have q : ysT 0 n j T (30 + 6 * t) = y := by simpa only [whP, decide_eq_true_eq] using q
        have t5 : toS t 2 s' = ysT 0 n j T (30 + 6 * t) := (sr_to hW.1 ht).symm
        have lt : ((200 : Int32) < Int32.ofNat j) = False := ltF (k := 200) (by omega) (by decide)
        refine ⟨s', ?_⟩
        rw [on_s, qv_l, qX_l, r75_31]
        simp only [r75_0, r75_1, r75_4, r75_5, r75_8, r75_11, r75_12, r75_15, r75_18, r75_19, r75_21, r75_24, r75_25, r75_26, r75_29, r75_30, r75_32, r75_35, r75_38, r75_39, r75_42, r75_43, r75_44, r75_47, r75_48, r75_51, r75_52, r75_53, r75_54, r75_57, r75_58, r75_61, r75_64, r75_67, r75_68, r75_70, r75_73, Nl_none, Nl_int, Nl_ref, Nl_null, Kv_some, Ki_some, Kh_some, Bk_some, Bk_void, ↓reduceIte, mrt10, mrt11, zl2, zl3, zl4, zl8, Bool.false_eq_true, cx_tub, cx_trial, cx_kept, cx_isKept, cx_tape, cx_reader, cx_sheets, cx_findings, cx_mis, cx_mis37, cx_mis38, cx_bytes, cx_tlen, cx_rtape, cx_token, cx_start, cx_end, cx_number, cx_lnBytes, cx_lnSheets, cx_lnFind, Int32.reduceAdd, Int32.reduceSub, Int32.reduceMul, Int32.reduceLT, zqm0, zqm1, zqm2, zqm3, zqm4, zqm5, zqm6, zqm7, zqm8, zq0m, zq01, zq02, zq03, zq04, zq05, zq06, zq07, zq08, zq1m, zq10, zq12, zq13, zq14, zq15, zq16, zq17, zq18, zq2m, zq20, zq21, zq23, zq24, zq25, zq26, zq27, zq28, zq3m, zq30, zq31, zq32, zq34, zq35, zq36, zq37, zq38, zq4m, zq40, zq41, zq42, zq43, zq45, zq46, zq47, zq48, zq5m, zq50, zq51, zq52, zq53, zq54, zq56, zq57, zq58, zq6m, zq60, zq61, zq62, zq63, zq64, zq65, zq67, zq68, zq7m, zq70, zq71, zq72, zq73, zq74, zq75, zq76, zq78, zq8m, zq80, zq81, zq82, zq83, zq84, zq85, zq86, zq87, e_isLayer, e_isColour, e_isKind, e_isSpot, e_isWithin, cf_0, cf_1, cf_2, cf_3, cf_4, cf_5, cf_6, b2i, mis_1, mis_13, mis_25, lt, e_told13 hW.1.ok ht, t5, q]
      · rintro j s' hj hW q
        have q : ¬ ysT 0 n j T (30 + 6 * t) = y := by simpa only [whP, decide_eq_false_iff_not] using q
        have t5 : toS t 2 s' = ysT 0 n j T (30 + 6 * t) := (sr_to hW.1 ht).symm
        have lt : ((200 : Int32) < Int32.ofNat j) = False := ltF (k := 200) (by omega) (by decide)
        refine ⟨?_, by rw [ys_succ]; exact tr_yr hW⟩
        show Rn 75 (31, [some (.ref 0), some (.int (Int32.ofNat t)), some (.int y), some (.int (Int32.ofNat j))], [], a, cw h T s' V X) = Rn 75 (31, [some (.ref 0), some (.int (Int32.ofNat t)), some (.int y), some (.int (Int32.ofNat (j + 1)))], [], a, cw h T (yrT 0 n s') V X)
        rw [r75_31]
        simp only [r75_0, r75_1, r75_4, r75_5, r75_8, r75_11, r75_12, r75_15, r75_18, r75_19, r75_21, r75_24, r75_25, r75_26, r75_29, r75_30, r75_32, r75_35, r75_38, r75_39, r75_42, r75_43, r75_44, r75_47, r75_48, r75_51, r75_52, r75_53, r75_54, r75_57, r75_58, r75_61, r75_64, r75_67, r75_68, r75_70, r75_73, Nl_none, Nl_int, Nl_ref, Nl_null, Kv_some, Ki_some, Kh_some, Bk_some, Bk_void, ↓reduceIte, mrt10, mrt11, zl2, zl3, zl4, zl8, Bool.false_eq_true, cx_tub, cx_trial, cx_kept, cx_isKept, cx_tape, cx_reader, cx_sheets, cx_findings, cx_mis, cx_mis37, cx_mis38, cx_bytes, cx_tlen, cx_rtape, cx_token, cx_start, cx_end, cx_number, cx_lnBytes, cx_lnSheets, cx_lnFind, Int32.reduceAdd, Int32.reduceSub, Int32.reduceMul, Int32.reduceLT, zqm0, zqm1, zqm2, zqm3, zqm4, zqm5, zqm6, zqm7, zqm8, zq0m, zq01, zq02, zq03, zq04, zq05, zq06, zq07, zq08, zq1m, zq10, zq12, zq13, zq14, zq15, zq16, zq17, zq18, zq2m, zq20, zq21, zq23, zq24, zq25, zq26, zq27, zq28, zq3m, zq30, zq31, zq32, zq34, zq35, zq36, zq37, zq38, zq4m, zq40, zq41, zq42, zq43, zq45, zq46, zq47, zq48, zq5m, zq50, zq51, zq52, zq53, zq54, zq56, zq57, zq58, zq6m, zq60, zq61, zq62, zq63, zq64, zq65, zq67, zq68, zq7m, zq70, zq71, zq72, zq73, zq74, zq75, zq76, zq78, zq8m, zq80, zq81, zq82, zq83, zq84, zq85, zq86, zq87, e_isLayer, e_isColour, e_isKind, e_isSpot, e_isWithin, cf_0, cf_1, cf_2, cf_3, cf_4, cf_5, cf_6, b2i, mis_1, mis_13, mis_25, lt, of_in, e_told13 hW.1.ok ht, t5, q, e_pass1 hW]
      · rintro s' hW
        have lt : ((200 : Int32) < Int32.ofNat 201) = True := ltT (k := 200) (by omega) (by decide)
        refine ⟨s', ?_⟩
        rw [on_n, qv_3, qX_r, r75_31]
        simp only [r75_0, r75_1, r75_4, r75_5, r75_8, r75_11, r75_12, r75_15, r75_18, r75_19, r75_21, r75_24, r75_25, r75_26, r75_29, r75_30, r75_32, r75_35, r75_38, r75_39, r75_42, r75_43, r75_44, r75_47, r75_48, r75_51, r75_52, r75_53, r75_54, r75_57, r75_58, r75_61, r75_64, r75_67, r75_68, r75_70, r75_73, Nl_none, Nl_int, Nl_ref, Nl_null, Kv_some, Ki_some, Kh_some, Bk_some, Bk_void, ↓reduceIte, mrt10, mrt11, zl2, zl3, zl4, zl8, Bool.false_eq_true, cx_tub, cx_trial, cx_kept, cx_isKept, cx_tape, cx_reader, cx_sheets, cx_findings, cx_mis, cx_mis37, cx_mis38, cx_bytes, cx_tlen, cx_rtape, cx_token, cx_start, cx_end, cx_number, cx_lnBytes, cx_lnSheets, cx_lnFind, Int32.reduceAdd, Int32.reduceSub, Int32.reduceMul, Int32.reduceLT, zqm0, zqm1, zqm2, zqm3, zqm4, zqm5, zqm6, zqm7, zqm8, zq0m, zq01, zq02, zq03, zq04, zq05, zq06, zq07, zq08, zq1m, zq10, zq12, zq13, zq14, zq15, zq16, zq17, zq18, zq2m, zq20, zq21, zq23, zq24, zq25, zq26, zq27, zq28, zq3m, zq30, zq31, zq32, zq34, zq35, zq36, zq37, zq38, zq4m, zq40, zq41, zq42, zq43, zq45, zq46, zq47, zq48, zq5m, zq50, zq51, zq52, zq53, zq54, zq56, zq57, zq58, zq6m, zq60, zq61, zq62, zq63, zq64, zq65, zq67, zq68, zq7m, zq70, zq71, zq72, zq73, zq74, zq75, zq76, zq78, zq8m, zq80, zq81, zq82, zq83, zq84, zq85, zq86, zq87, e_isLayer, e_isColour, e_isKind, e_isSpot, e_isWithin, cf_0, cf_1, cf_2, cf_3, cf_4, cf_5, cf_6, b2i, mis_1, mis_13, mis_25, lt]
    · rw [show whQ x y n T = .inr 0 from if_neg (fun q => h1 q.2)]
      refine ⟨U, fnX 0 X, ?_, fun k _ => rfl⟩
      rw [qv_0]
      rw [Ec_go rfl]; show Rn 75 (0, [some (.ref 0), some (.int x), some (.int y), none], [], a, cw h T U V X) = _
      simp only [r75_0, r75_1, r75_4, r75_5, r75_8, r75_11, r75_12, r75_15, r75_18, r75_19, r75_21, r75_24, r75_25, r75_26, r75_29, r75_30, r75_31, r75_32, r75_35, r75_38, r75_39, r75_42, r75_43, r75_44, r75_47, r75_48, r75_51, r75_52, r75_53, r75_54, r75_57, r75_58, r75_61, r75_64, r75_67, r75_68, r75_70, r75_73, Nl_none, Nl_int, Nl_ref, Nl_null, Kv_some, Ki_some, Kh_some, Bk_some, Bk_void, ↓reduceIte, mrt10, mrt11, zl2, zl3, zl4, zl8, Bool.false_eq_true, cx_tub, cx_trial, cx_kept, cx_isKept, cx_tape, cx_reader, cx_sheets, cx_findings, cx_mis, cx_mis37, cx_mis38, cx_bytes, cx_tlen, cx_rtape, cx_token, cx_start, cx_end, cx_number, cx_lnBytes, cx_lnSheets, cx_lnFind, Int32.reduceAdd, Int32.reduceSub, Int32.reduceMul, Int32.reduceLT, zqm0, zqm1, zqm2, zqm3, zqm4, zqm5, zqm6, zqm7, zqm8, zq0m, zq01, zq02, zq03, zq04, zq05, zq06, zq07, zq08, zq1m, zq10, zq12, zq13, zq14, zq15, zq16, zq17, zq18, zq2m, zq20, zq21, zq23, zq24, zq25, zq26, zq27, zq28, zq3m, zq30, zq31, zq32, zq34, zq35, zq36, zq37, zq38, zq4m, zq40, zq41, zq42, zq43, zq45, zq46, zq47, zq48, zq5m, zq50, zq51, zq52, zq53, zq54, zq56, zq57, zq58, zq6m, zq60, zq61, zq62, zq63, zq64, zq65, zq67, zq68, zq7m, zq70, zq71, zq72, zq73, zq74, zq75, zq76, zq78, zq8m, zq80, zq81, zq82, zq83, zq84, zq85, zq86, zq87, e_isLayer, e_isColour, e_isKind, e_isSpot, e_isWithin, cf_0, cf_1, cf_2, cf_3, cf_4, cf_5, cf_6, b2i, mis_1, mis_13, mis_25, e_has1 ok, h0, h1]
  · rw [show whQ x y n T = .inr 0 from if_neg (fun q => h0 q.1)]
    refine ⟨U, fnX 0 X, ?_, fun k _ => rfl⟩
    rw [qv_0]
    rw [Ec_go rfl]; show Rn 75 (0, [some (.ref 0), some (.int x), some (.int y), none], [], a, cw h T U V X) = _
    simp only [r75_0, r75_1, r75_4, r75_5, r75_8, r75_11, r75_12, r75_15, r75_18, r75_19, r75_21, r75_24, r75_25, r75_26, r75_29, r75_30, r75_31, r75_32, r75_35, r75_38, r75_39, r75_42, r75_43, r75_44, r75_47, r75_48, r75_51, r75_52, r75_53, r75_54, r75_57, r75_58, r75_61, r75_64, r75_67, r75_68, r75_70, r75_73, Nl_none, Nl_int, Nl_ref, Nl_null, Kv_some, Ki_some, Kh_some, Bk_some, Bk_void, ↓reduceIte, mrt10, mrt11, zl2, zl3, zl4, zl8, Bool.false_eq_true, cx_tub, cx_trial, cx_kept, cx_isKept, cx_tape, cx_reader, cx_sheets, cx_findings, cx_mis, cx_mis37, cx_mis38, cx_bytes, cx_tlen, cx_rtape, cx_token, cx_start, cx_end, cx_number, cx_lnBytes, cx_lnSheets, cx_lnFind, Int32.reduceAdd, Int32.reduceSub, Int32.reduceMul, Int32.reduceLT, zqm0, zqm1, zqm2, zqm3, zqm4, zqm5, zqm6, zqm7, zqm8, zq0m, zq01, zq02, zq03, zq04, zq05, zq06, zq07, zq08, zq1m, zq10, zq12, zq13, zq14, zq15, zq16, zq17, zq18, zq2m, zq20, zq21, zq23, zq24, zq25, zq26, zq27, zq28, zq3m, zq30, zq31, zq32, zq34, zq35, zq36, zq37, zq38, zq4m, zq40, zq41, zq42, zq43, zq45, zq46, zq47, zq48, zq5m, zq50, zq51, zq52, zq53, zq54, zq56, zq57, zq58, zq6m, zq60, zq61, zq62, zq63, zq64, zq65, zq67, zq68, zq7m, zq70, zq71, zq72, zq73, zq74, zq75, zq76, zq78, zq8m, zq80, zq81, zq82, zq83, zq84, zq85, zq86, zq87, e_isLayer, e_isColour, e_isKind, e_isSpot, e_isWithin, cf_0, cf_1, cf_2, cf_3, cf_4, cf_5, cf_6, b2i, mis_1, mis_13, mis_25, e_has1 ok, h0]

theorem cq_murky (ok : Ok n T) : OpQC 76 [.int x] T V X (muQ x n T) := by
  intro a h U _
  have h8 := ok.1
  by_cases h0 : isL x = true
  · skip
    rw [show muQ x n T = onQ (fnd (muP x n T) 0 201) from if_pos h0]
    have L := lp_find (M := 76) (X := fun j (s' : TS) => (20, [some (.ref 0), some (.int x), some (.int (Int32.ofNat j))], [], a, cw h T s' V X)) (f := fun _ s' => yrT 0 n s') (P := fun j s' => TR n s' (ysT 0 n j T)) (p := muP x n T) (Q := fun o r => ∃ U', r = some (some (.int (qv (onQ o))), a, cw h T U' V (qX (onQ o) X))) (N := 201) ?_ ?_ ?_ 201 0 (tkS n T U) (by omega) (by exact tr_tk ok)
    · obtain ⟨U', L⟩ := L
      refine ⟨U', qX (onQ (fnd (muP x n T) 0 201)) X, ?_, fun k _ => rfl⟩
      rw [← L]
      rw [Ec_go rfl]; show Rn 76 (0, [some (.ref 0), some (.int x), none], [], a, cw h T U V X) = _
      simp only [r76_0, r76_1, r76_4, r76_7, r76_8, r76_10, r76_13, r76_14, r76_15, r76_18, r76_19, r76_21, r76_24, r76_27, r76_28, r76_31, r76_32, r76_35, r76_38, r76_39, r76_40, r76_41, r76_44, r76_45, r76_48, r76_51, r76_54, r76_55, r76_57, r76_60, Nl_none, Nl_int, Nl_ref, Nl_null, Kv_some, Ki_some, Kh_some, Bk_some, Bk_void, ↓reduceIte, mrt10, mrt11, zl2, zl3, zl4, zl8, Bool.false_eq_true, cx_tub, cx_trial, cx_kept, cx_isKept, cx_tape, cx_reader, cx_sheets, cx_findings, cx_mis, cx_mis37, cx_mis38, cx_bytes, cx_tlen, cx_rtape, cx_token, cx_start, cx_end, cx_number, cx_lnBytes, cx_lnSheets, cx_lnFind, Int32.reduceAdd, Int32.reduceSub, Int32.reduceMul, Int32.reduceLT, zqm0, zqm1, zqm2, zqm3, zqm4, zqm5, zqm6, zqm7, zqm8, zq0m, zq01, zq02, zq03, zq04, zq05, zq06, zq07, zq08, zq1m, zq10, zq12, zq13, zq14, zq15, zq16, zq17, zq18, zq2m, zq20, zq21, zq23, zq24, zq25, zq26, zq27, zq28, zq3m, zq30, zq31, zq32, zq34, zq35, zq36, zq37, zq38, zq4m, zq40, zq41, zq42, zq43, zq45, zq46, zq47, zq48, zq5m, zq50, zq51, zq52, zq53, zq54, zq56, zq57, zq58, zq6m, zq60, zq61, zq62, zq63, zq64, zq65, zq67, zq68, zq7m, zq70, zq71, zq72, zq73, zq74, zq75, zq76, zq78, zq8m, zq80, zq81, zq82, zq83, zq84, zq85, zq86, zq87, e_isLayer, e_isColour, e_isKind, e_isSpot, e_isWithin, cf_0, cf_1, cf_2, cf_3, cf_4, cf_5, cf_6, b2i, mis_1, mis_13, mis_25, e_begin13 ok, h0]
      rfl
    · rintro j s' hj hW q
      have q : clS x (ysT 0 n j T) = false := by simpa only [muP, Bool.not_eq_true'] using q
      have t5 : clS x s' = false := by rw [← sr_cl hW.1 h0]; exact q
      have lt : ((200 : Int32) < Int32.ofNat j) = False := ltF (k := 200) (by omega) (by decide)
      refine ⟨s', ?_⟩
      rw [on_s, qv_l, qX_l, r76_20]
      simp only [r76_0, r76_1, r76_4, r76_7, r76_8, r76_10, r76_13, r76_14, r76_15, r76_18, r76_19, r76_21, r76_24, r76_27, r76_28, r76_31, r76_32, r76_35, r76_38, r76_39, r76_40, r76_41, r76_44, r76_45, r76_48, r76_51, r76_54, r76_55, r76_57, r76_60, Nl_none, Nl_int, Nl_ref, Nl_null, Kv_some, Ki_some, Kh_some, Bk_some, Bk_void, ↓reduceIte, mrt10, mrt11, zl2, zl3, zl4, zl8, Bool.false_eq_true, cx_tub, cx_trial, cx_kept, cx_isKept, cx_tape, cx_reader, cx_sheets, cx_findings, cx_mis, cx_mis37, cx_mis38, cx_bytes, cx_tlen, cx_rtape, cx_token, cx_start, cx_end, cx_number, cx_lnBytes, cx_lnSheets, cx_lnFind, Int32.reduceAdd, Int32.reduceSub, Int32.reduceMul, Int32.reduceLT, zqm0, zqm1, zqm2, zqm3, zqm4, zqm5, zqm6, zqm7, zqm8, zq0m, zq01, zq02, zq03, zq04, zq05, zq06, zq07, zq08, zq1m, zq10, zq12, zq13, zq14, zq15, zq16, zq17, zq18, zq2m, zq20, zq21, zq23, zq24, zq25, zq26, zq27, zq28, zq3m, zq30, zq31, zq32, zq34, zq35, zq36, zq37, zq38, zq4m, zq40, zq41, zq42, zq43, zq45, zq46, zq47, zq48, zq5m, zq50, zq51, zq52, zq53, zq54, zq56, zq57, zq58, zq6m, zq60, zq61, zq62, zq63, zq64, zq65, zq67, zq68, zq7m, zq70, zq71, zq72, zq73, zq74, zq75, zq76, zq78, zq8m, zq80, zq81, zq82, zq83, zq84, zq85, zq86, zq87, e_isLayer, e_isColour, e_isKind, e_isSpot, e_isWithin, cf_0, cf_1, cf_2, cf_3, cf_4, cf_5, cf_6, b2i, mis_1, mis_13, mis_25, lt, e_isClear13 h0, t5]
    · rintro j s' hj hW q
      have q : clS x (ysT 0 n j T) = true := by simpa only [muP, Bool.not_eq_false'] using q
      have t5 : clS x s' = true := by rw [← sr_cl hW.1 h0]; exact q
      have lt : ((200 : Int32) < Int32.ofNat j) = False := ltF (k := 200) (by omega) (by decide)
      refine ⟨?_, by rw [ys_succ]; exact tr_yr hW⟩
      show Rn 76 (20, [some (.ref 0), some (.int x), some (.int (Int32.ofNat j))], [], a, cw h T s' V X) = Rn 76 (20, [some (.ref 0), some (.int x), some (.int (Int32.ofNat (j + 1)))], [], a, cw h T (yrT 0 n s') V X)
      rw [r76_20]
      simp only [r76_0, r76_1, r76_4, r76_7, r76_8, r76_10, r76_13, r76_14, r76_15, r76_18, r76_19, r76_21, r76_24, r76_27, r76_28, r76_31, r76_32, r76_35, r76_38, r76_39, r76_40, r76_41, r76_44, r76_45, r76_48, r76_51, r76_54, r76_55, r76_57, r76_60, Nl_none, Nl_int, Nl_ref, Nl_null, Kv_some, Ki_some, Kh_some, Bk_some, Bk_void, ↓reduceIte, mrt10, mrt11, zl2, zl3, zl4, zl8, Bool.false_eq_true, cx_tub, cx_trial, cx_kept, cx_isKept, cx_tape, cx_reader, cx_sheets, cx_findings, cx_mis, cx_mis37, cx_mis38, cx_bytes, cx_tlen, cx_rtape, cx_token, cx_start, cx_end, cx_number, cx_lnBytes, cx_lnSheets, cx_lnFind, Int32.reduceAdd, Int32.reduceSub, Int32.reduceMul, Int32.reduceLT, zqm0, zqm1, zqm2, zqm3, zqm4, zqm5, zqm6, zqm7, zqm8, zq0m, zq01, zq02, zq03, zq04, zq05, zq06, zq07, zq08, zq1m, zq10, zq12, zq13, zq14, zq15, zq16, zq17, zq18, zq2m, zq20, zq21, zq23, zq24, zq25, zq26, zq27, zq28, zq3m, zq30, zq31, zq32, zq34, zq35, zq36, zq37, zq38, zq4m, zq40, zq41, zq42, zq43, zq45, zq46, zq47, zq48, zq5m, zq50, zq51, zq52, zq53, zq54, zq56, zq57, zq58, zq6m, zq60, zq61, zq62, zq63, zq64, zq65, zq67, zq68, zq7m, zq70, zq71, zq72, zq73, zq74, zq75, zq76, zq78, zq8m, zq80, zq81, zq82, zq83, zq84, zq85, zq86, zq87, e_isLayer, e_isColour, e_isKind, e_isSpot, e_isWithin, cf_0, cf_1, cf_2, cf_3, cf_4, cf_5, cf_6, b2i, mis_1, mis_13, mis_25, lt, of_in, e_isClear13 h0, t5, e_pass1 hW]
    · rintro s' hW
      have lt : ((200 : Int32) < Int32.ofNat 201) = True := ltT (k := 200) (by omega) (by decide)
      refine ⟨s', ?_⟩
      rw [on_n, qv_3, qX_r, r76_20]
      simp only [r76_0, r76_1, r76_4, r76_7, r76_8, r76_10, r76_13, r76_14, r76_15, r76_18, r76_19, r76_21, r76_24, r76_27, r76_28, r76_31, r76_32, r76_35, r76_38, r76_39, r76_40, r76_41, r76_44, r76_45, r76_48, r76_51, r76_54, r76_55, r76_57, r76_60, Nl_none, Nl_int, Nl_ref, Nl_null, Kv_some, Ki_some, Kh_some, Bk_some, Bk_void, ↓reduceIte, mrt10, mrt11, zl2, zl3, zl4, zl8, Bool.false_eq_true, cx_tub, cx_trial, cx_kept, cx_isKept, cx_tape, cx_reader, cx_sheets, cx_findings, cx_mis, cx_mis37, cx_mis38, cx_bytes, cx_tlen, cx_rtape, cx_token, cx_start, cx_end, cx_number, cx_lnBytes, cx_lnSheets, cx_lnFind, Int32.reduceAdd, Int32.reduceSub, Int32.reduceMul, Int32.reduceLT, zqm0, zqm1, zqm2, zqm3, zqm4, zqm5, zqm6, zqm7, zqm8, zq0m, zq01, zq02, zq03, zq04, zq05, zq06, zq07, zq08, zq1m, zq10, zq12, zq13, zq14, zq15, zq16, zq17, zq18, zq2m, zq20, zq21, zq23, zq24, zq25, zq26, zq27, zq28, zq3m, zq30, zq31, zq32, zq34, zq35, zq36, zq37, zq38, zq4m, zq40, zq41, zq42, zq43, zq45, zq46, zq47, zq48, zq5m, zq50, zq51, zq52, zq53, zq54, zq56, zq57, zq58, zq6m, zq60, zq61, zq62, zq63, zq64, zq65, zq67, zq68, zq7m, zq70, zq71, zq72, zq73, zq74, zq75, zq76, zq78, zq8m, zq80, zq81, zq82, zq83, zq84, zq85, zq86, zq87, e_isLayer, e_isColour, e_isKind, e_isSpot, e_isWithin, cf_0, cf_1, cf_2, cf_3, cf_4, cf_5, cf_6, b2i, mis_1, mis_13, mis_25, lt]
  · rw [show muQ x n T = .inr 0 from if_neg h0]
    refine ⟨U, fnX 0 X, ?_, fun k _ => rfl⟩
    rw [qv_0]
    rw [Ec_go rfl]; show Rn 76 (0, [some (.ref 0), some (.int x), none], [], a, cw h T U V X) = _
    simp only [r76_0, r76_1, r76_4, r76_7, r76_8, r76_10, r76_13, r76_14, r76_15, r76_18, r76_19, r76_20, r76_21, r76_24, r76_27, r76_28, r76_31, r76_32, r76_35, r76_38, r76_39, r76_40, r76_41, r76_44, r76_45, r76_48, r76_51, r76_54, r76_55, r76_57, r76_60, Nl_none, Nl_int, Nl_ref, Nl_null, Kv_some, Ki_some, Kh_some, Bk_some, Bk_void, ↓reduceIte, mrt10, mrt11, zl2, zl3, zl4, zl8, Bool.false_eq_true, cx_tub, cx_trial, cx_kept, cx_isKept, cx_tape, cx_reader, cx_sheets, cx_findings, cx_mis, cx_mis37, cx_mis38, cx_bytes, cx_tlen, cx_rtape, cx_token, cx_start, cx_end, cx_number, cx_lnBytes, cx_lnSheets, cx_lnFind, Int32.reduceAdd, Int32.reduceSub, Int32.reduceMul, Int32.reduceLT, zqm0, zqm1, zqm2, zqm3, zqm4, zqm5, zqm6, zqm7, zqm8, zq0m, zq01, zq02, zq03, zq04, zq05, zq06, zq07, zq08, zq1m, zq10, zq12, zq13, zq14, zq15, zq16, zq17, zq18, zq2m, zq20, zq21, zq23, zq24, zq25, zq26, zq27, zq28, zq3m, zq30, zq31, zq32, zq34, zq35, zq36, zq37, zq38, zq4m, zq40, zq41, zq42, zq43, zq45, zq46, zq47, zq48, zq5m, zq50, zq51, zq52, zq53, zq54, zq56, zq57, zq58, zq6m, zq60, zq61, zq62, zq63, zq64, zq65, zq67, zq68, zq7m, zq70, zq71, zq72, zq73, zq74, zq75, zq76, zq78, zq8m, zq80, zq81, zq82, zq83, zq84, zq85, zq86, zq87, e_isLayer, e_isColour, e_isKind, e_isSpot, e_isWithin, cf_0, cf_1, cf_2, cf_3, cf_4, cf_5, cf_6, b2i, mis_1, mis_13, mis_25, h0]

theorem cq_treaty (ok : Ok n T) : OpQC 77 [.int x, .int y] T V X (trQ x y n T) := by
  intro a h U _
  have h8 := ok.1
  by_cases h0 : hsB x n = true
  · skip
    by_cases h1 : hsB y n = true
    · skip
      by_cases h2 : ¬ x = y
      · skip
        rw [show trQ x y n T = onQ (fnd (trP (iN x) (iN y) n T) 0 201) from if_pos ⟨h0, h1, h2⟩]
        obtain ⟨t, ht, rfl⟩ := hs_of h0 h8
        obtain ⟨u, hu, rfl⟩ := hs_of h1 h8
        rw [iN_of (show t < 2147483648 by omega), iN_of (show u < 2147483648 by omega)]
        have L := lp_find (M := 77) (X := fun j (s' : TS) => (40, [some (.ref 0), some (.int (Int32.ofNat t)), some (.int (Int32.ofNat u)), some (.int (Int32.ofNat j))], [], a, cw h T s' V X)) (f := fun _ s' => yrT 0 n s') (P := fun j s' => TR n s' (ysT 0 n j T)) (p := trP t u n T) (Q := fun o r => ∃ U', r = some (some (.int (qv (onQ o))), a, cw h T U' V (qX (onQ o) X))) (N := 201) ?_ ?_ ?_ 201 0 (tkS n T U) (by omega) (by exact tr_tk ok)
        · obtain ⟨U', L⟩ := L
          refine ⟨U', qX (onQ (fnd (trP t u n T) 0 201)) X, ?_, fun k _ => rfl⟩
          rw [← L]
          rw [Ec_go rfl]; show Rn 77 (0, [some (.ref 0), some (.int (Int32.ofNat t)), some (.int (Int32.ofNat u)), none], [], a, cw h T U V X) = _
          simp only [r77_0, r77_1, r77_4, r77_5, r77_8, r77_11, r77_12, r77_15, r77_16, r77_19, r77_22, r77_23, r77_24, r77_27, r77_28, r77_30, r77_33, r77_34, r77_35, r77_38, r77_39, r77_41, r77_44, r77_47, r77_48, r77_51, r77_52, r77_53, r77_54, r77_57, r77_60, r77_61, r77_64, r77_65, r77_66, r77_67, r77_70, r77_73, r77_74, r77_75, r77_76, r77_79, r77_80, r77_83, r77_86, r77_89, r77_90, r77_92, r77_95, Nl_none, Nl_int, Nl_ref, Nl_null, Kv_some, Ki_some, Kh_some, Bk_some, Bk_void, ↓reduceIte, mrt10, mrt11, zl2, zl3, zl4, zl8, Bool.false_eq_true, cx_tub, cx_trial, cx_kept, cx_isKept, cx_tape, cx_reader, cx_sheets, cx_findings, cx_mis, cx_mis37, cx_mis38, cx_bytes, cx_tlen, cx_rtape, cx_token, cx_start, cx_end, cx_number, cx_lnBytes, cx_lnSheets, cx_lnFind, Int32.reduceAdd, Int32.reduceSub, Int32.reduceMul, Int32.reduceLT, zqm0, zqm1, zqm2, zqm3, zqm4, zqm5, zqm6, zqm7, zqm8, zq0m, zq01, zq02, zq03, zq04, zq05, zq06, zq07, zq08, zq1m, zq10, zq12, zq13, zq14, zq15, zq16, zq17, zq18, zq2m, zq20, zq21, zq23, zq24, zq25, zq26, zq27, zq28, zq3m, zq30, zq31, zq32, zq34, zq35, zq36, zq37, zq38, zq4m, zq40, zq41, zq42, zq43, zq45, zq46, zq47, zq48, zq5m, zq50, zq51, zq52, zq53, zq54, zq56, zq57, zq58, zq6m, zq60, zq61, zq62, zq63, zq64, zq65, zq67, zq68, zq7m, zq70, zq71, zq72, zq73, zq74, zq75, zq76, zq78, zq8m, zq80, zq81, zq82, zq83, zq84, zq85, zq86, zq87, e_isLayer, e_isColour, e_isKind, e_isSpot, e_isWithin, cf_0, cf_1, cf_2, cf_3, cf_4, cf_5, cf_6, b2i, mis_1, mis_13, mis_25, e_begin13 ok, e_has1 ok, h0, h1, h2]
          rfl
        · rintro j s' hj hW q
          have q : ysT 0 n j T (29 + 6 * t) = ysT 0 n j T (29 + 6 * u) ∧ ysT 0 n j T (30 + 6 * t) = ysT 0 n j T (30 + 6 * u) := by simpa only [trP, decide_eq_true_eq] using q
          have t1 : decide (toS t 1 s' = toS u 1 s') = true := decide_eq_true (by rw [← sr_to hW.1 ht, ← sr_to hW.1 hu]; exact q.1)
          have t2 : decide (toS t 2 s' = toS u 2 s') = true := decide_eq_true (by rw [← sr_to hW.1 ht, ← sr_to hW.1 hu]; exact q.2)
          have lt : ((200 : Int32) < Int32.ofNat j) = False := ltF (k := 200) (by omega) (by decide)
          refine ⟨s', ?_⟩
          rw [on_s, qv_l, qX_l, r77_40]
          simp only [r77_0, r77_1, r77_4, r77_5, r77_8, r77_11, r77_12, r77_15, r77_16, r77_19, r77_22, r77_23, r77_24, r77_27, r77_28, r77_30, r77_33, r77_34, r77_35, r77_38, r77_39, r77_41, r77_44, r77_47, r77_48, r77_51, r77_52, r77_53, r77_54, r77_57, r77_60, r77_61, r77_64, r77_65, r77_66, r77_67, r77_70, r77_73, r77_74, r77_75, r77_76, r77_79, r77_80, r77_83, r77_86, r77_89, r77_90, r77_92, r77_95, Nl_none, Nl_int, Nl_ref, Nl_null, Kv_some, Ki_some, Kh_some, Bk_some, Bk_void, ↓reduceIte, mrt10, mrt11, zl2, zl3, zl4, zl8, Bool.false_eq_true, cx_tub, cx_trial, cx_kept, cx_isKept, cx_tape, cx_reader, cx_sheets, cx_findings, cx_mis, cx_mis37, cx_mis38, cx_bytes, cx_tlen, cx_rtape, cx_token, cx_start, cx_end, cx_number, cx_lnBytes, cx_lnSheets, cx_lnFind, Int32.reduceAdd, Int32.reduceSub, Int32.reduceMul, Int32.reduceLT, zqm0, zqm1, zqm2, zqm3, zqm4, zqm5, zqm6, zqm7, zqm8, zq0m, zq01, zq02, zq03, zq04, zq05, zq06, zq07, zq08, zq1m, zq10, zq12, zq13, zq14, zq15, zq16, zq17, zq18, zq2m, zq20, zq21, zq23, zq24, zq25, zq26, zq27, zq28, zq3m, zq30, zq31, zq32, zq34, zq35, zq36, zq37, zq38, zq4m, zq40, zq41, zq42, zq43, zq45, zq46, zq47, zq48, zq5m, zq50, zq51, zq52, zq53, zq54, zq56, zq57, zq58, zq6m, zq60, zq61, zq62, zq63, zq64, zq65, zq67, zq68, zq7m, zq70, zq71, zq72, zq73, zq74, zq75, zq76, zq78, zq8m, zq80, zq81, zq82, zq83, zq84, zq85, zq86, zq87, e_isLayer, e_isColour, e_isKind, e_isSpot, e_isWithin, cf_0, cf_1, cf_2, cf_3, cf_4, cf_5, cf_6, b2i, mis_1, mis_13, mis_25, lt, e_agree13 hW.1.ok ht hu, t1, t2]
        · rintro j s' hj hW q
          have q : ¬ (ysT 0 n j T (29 + 6 * t) = ysT 0 n j T (29 + 6 * u) ∧ ysT 0 n j T (30 + 6 * t) = ysT 0 n j T (30 + 6 * u)) := by simpa only [trP, decide_eq_false_iff_not] using q
          have tt : decide (toS t 1 s' = toS u 1 s') = false ∨ decide (toS t 2 s' = toS u 2 s') = false := by
            rw [← sr_to hW.1 ht, ← sr_to hW.1 hu, ← sr_to hW.1 ht, ← sr_to hW.1 hu]
            by_cases c : ysT 0 n j T (29 + 6 * t) = ysT 0 n j T (29 + 6 * u)
            · exact Or.inr (decide_eq_false (fun e => q ⟨c, e⟩))
            · exact Or.inl (decide_eq_false c)
          have lt : ((200 : Int32) < Int32.ofNat j) = False := ltF (k := 200) (by omega) (by decide)
          refine ⟨?_, by rw [ys_succ]; exact tr_yr hW⟩
          show Rn 77 (40, [some (.ref 0), some (.int (Int32.ofNat t)), some (.int (Int32.ofNat u)), some (.int (Int32.ofNat j))], [], a, cw h T s' V X) = Rn 77 (40, [some (.ref 0), some (.int (Int32.ofNat t)), some (.int (Int32.ofNat u)), some (.int (Int32.ofNat (j + 1)))], [], a, cw h T (yrT 0 n s') V X)
          rw [r77_40]
          by_cases t1 : decide (toS t 1 s' = toS u 1 s') = true
          · have t2 : decide (toS t 2 s' = toS u 2 s') = false := tt.resolve_left (by rw [t1]; decide)
            simp only [r77_0, r77_1, r77_4, r77_5, r77_8, r77_11, r77_12, r77_15, r77_16, r77_19, r77_22, r77_23, r77_24, r77_27, r77_28, r77_30, r77_33, r77_34, r77_35, r77_38, r77_39, r77_41, r77_44, r77_47, r77_48, r77_51, r77_52, r77_53, r77_54, r77_57, r77_60, r77_61, r77_64, r77_65, r77_66, r77_67, r77_70, r77_73, r77_74, r77_75, r77_76, r77_79, r77_80, r77_83, r77_86, r77_89, r77_90, r77_92, r77_95, Nl_none, Nl_int, Nl_ref, Nl_null, Kv_some, Ki_some, Kh_some, Bk_some, Bk_void, ↓reduceIte, mrt10, mrt11, zl2, zl3, zl4, zl8, Bool.false_eq_true, cx_tub, cx_trial, cx_kept, cx_isKept, cx_tape, cx_reader, cx_sheets, cx_findings, cx_mis, cx_mis37, cx_mis38, cx_bytes, cx_tlen, cx_rtape, cx_token, cx_start, cx_end, cx_number, cx_lnBytes, cx_lnSheets, cx_lnFind, Int32.reduceAdd, Int32.reduceSub, Int32.reduceMul, Int32.reduceLT, zqm0, zqm1, zqm2, zqm3, zqm4, zqm5, zqm6, zqm7, zqm8, zq0m, zq01, zq02, zq03, zq04, zq05, zq06, zq07, zq08, zq1m, zq10, zq12, zq13, zq14, zq15, zq16, zq17, zq18, zq2m, zq20, zq21, zq23, zq24, zq25, zq26, zq27, zq28, zq3m, zq30, zq31, zq32, zq34, zq35, zq36, zq37, zq38, zq4m, zq40, zq41, zq42, zq43, zq45, zq46, zq47, zq48, zq5m, zq50, zq51, zq52, zq53, zq54, zq56, zq57, zq58, zq6m, zq60, zq61, zq62, zq63, zq64, zq65, zq67, zq68, zq7m, zq70, zq71, zq72, zq73, zq74, zq75, zq76, zq78, zq8m, zq80, zq81, zq82, zq83, zq84, zq85, zq86, zq87, e_isLayer, e_isColour, e_isKind, e_isSpot, e_isWithin, cf_0, cf_1, cf_2, cf_3, cf_4, cf_5, cf_6, b2i, mis_1, mis_13, mis_25, lt, of_in, e_agree13 hW.1.ok ht hu, e_pass1 hW, t1, t2]
          · simp only [r77_0, r77_1, r77_4, r77_5, r77_8, r77_11, r77_12, r77_15, r77_16, r77_19, r77_22, r77_23, r77_24, r77_27, r77_28, r77_30, r77_33, r77_34, r77_35, r77_38, r77_39, r77_41, r77_44, r77_47, r77_48, r77_51, r77_52, r77_53, r77_54, r77_57, r77_60, r77_61, r77_64, r77_65, r77_66, r77_67, r77_70, r77_73, r77_74, r77_75, r77_76, r77_79, r77_80, r77_83, r77_86, r77_89, r77_90, r77_92, r77_95, Nl_none, Nl_int, Nl_ref, Nl_null, Kv_some, Ki_some, Kh_some, Bk_some, Bk_void, ↓reduceIte, mrt10, mrt11, zl2, zl3, zl4, zl8, Bool.false_eq_true, cx_tub, cx_trial, cx_kept, cx_isKept, cx_tape, cx_reader, cx_sheets, cx_findings, cx_mis, cx_mis37, cx_mis38, cx_bytes, cx_tlen, cx_rtape, cx_token, cx_start, cx_end, cx_number, cx_lnBytes, cx_lnSheets, cx_lnFind, Int32.reduceAdd, Int32.reduceSub, Int32.reduceMul, Int32.reduceLT, zqm0, zqm1, zqm2, zqm3, zqm4, zqm5, zqm6, zqm7, zqm8, zq0m, zq01, zq02, zq03, zq04, zq05, zq06, zq07, zq08, zq1m, zq10, zq12, zq13, zq14, zq15, zq16, zq17, zq18, zq2m, zq20, zq21, zq23, zq24, zq25, zq26, zq27, zq28, zq3m, zq30, zq31, zq32, zq34, zq35, zq36, zq37, zq38, zq4m, zq40, zq41, zq42, zq43, zq45, zq46, zq47, zq48, zq5m, zq50, zq51, zq52, zq53, zq54, zq56, zq57, zq58, zq6m, zq60, zq61, zq62, zq63, zq64, zq65, zq67, zq68, zq7m, zq70, zq71, zq72, zq73, zq74, zq75, zq76, zq78, zq8m, zq80, zq81, zq82, zq83, zq84, zq85, zq86, zq87, e_isLayer, e_isColour, e_isKind, e_isSpot, e_isWithin, cf_0, cf_1, cf_2, cf_3, cf_4, cf_5, cf_6, b2i, mis_1, mis_13, mis_25, lt, of_in, e_agree13 hW.1.ok ht hu, e_pass1 hW, t1]
        · rintro s' hW
          have lt : ((200 : Int32) < Int32.ofNat 201) = True := ltT (k := 200) (by omega) (by decide)
          refine ⟨s', ?_⟩
          rw [on_n, qv_3, qX_r, r77_40]
          simp only [r77_0, r77_1, r77_4, r77_5, r77_8, r77_11, r77_12, r77_15, r77_16, r77_19, r77_22, r77_23, r77_24, r77_27, r77_28, r77_30, r77_33, r77_34, r77_35, r77_38, r77_39, r77_41, r77_44, r77_47, r77_48, r77_51, r77_52, r77_53, r77_54, r77_57, r77_60, r77_61, r77_64, r77_65, r77_66, r77_67, r77_70, r77_73, r77_74, r77_75, r77_76, r77_79, r77_80, r77_83, r77_86, r77_89, r77_90, r77_92, r77_95, Nl_none, Nl_int, Nl_ref, Nl_null, Kv_some, Ki_some, Kh_some, Bk_some, Bk_void, ↓reduceIte, mrt10, mrt11, zl2, zl3, zl4, zl8, Bool.false_eq_true, cx_tub, cx_trial, cx_kept, cx_isKept, cx_tape, cx_reader, cx_sheets, cx_findings, cx_mis, cx_mis37, cx_mis38, cx_bytes, cx_tlen, cx_rtape, cx_token, cx_start, cx_end, cx_number, cx_lnBytes, cx_lnSheets, cx_lnFind, Int32.reduceAdd, Int32.reduceSub, Int32.reduceMul, Int32.reduceLT, zqm0, zqm1, zqm2, zqm3, zqm4, zqm5, zqm6, zqm7, zqm8, zq0m, zq01, zq02, zq03, zq04, zq05, zq06, zq07, zq08, zq1m, zq10, zq12, zq13, zq14, zq15, zq16, zq17, zq18, zq2m, zq20, zq21, zq23, zq24, zq25, zq26, zq27, zq28, zq3m, zq30, zq31, zq32, zq34, zq35, zq36, zq37, zq38, zq4m, zq40, zq41, zq42, zq43, zq45, zq46, zq47, zq48, zq5m, zq50, zq51, zq52, zq53, zq54, zq56, zq57, zq58, zq6m, zq60, zq61, zq62, zq63, zq64, zq65, zq67, zq68, zq7m, zq70, zq71, zq72, zq73, zq74, zq75, zq76, zq78, zq8m, zq80, zq81, zq82, zq83, zq84, zq85, zq86, zq87, e_isLayer, e_isColour, e_isKind, e_isSpot, e_isWithin, cf_0, cf_1, cf_2, cf_3, cf_4, cf_5, cf_6, b2i, mis_1, mis_13, mis_25, lt]
      · rw [show trQ x y n T = .inr 0 from if_neg (fun q => h2 q.2.2)]
        refine ⟨U, fnX 0 X, ?_, fun k _ => rfl⟩
        rw [qv_0]
        rw [Ec_go rfl]; show Rn 77 (0, [some (.ref 0), some (.int x), some (.int y), none], [], a, cw h T U V X) = _
        simp only [r77_0, r77_1, r77_4, r77_5, r77_8, r77_11, r77_12, r77_15, r77_16, r77_19, r77_22, r77_23, r77_24, r77_27, r77_28, r77_30, r77_33, r77_34, r77_35, r77_38, r77_39, r77_40, r77_41, r77_44, r77_47, r77_48, r77_51, r77_52, r77_53, r77_54, r77_57, r77_60, r77_61, r77_64, r77_65, r77_66, r77_67, r77_70, r77_73, r77_74, r77_75, r77_76, r77_79, r77_80, r77_83, r77_86, r77_89, r77_90, r77_92, r77_95, Nl_none, Nl_int, Nl_ref, Nl_null, Kv_some, Ki_some, Kh_some, Bk_some, Bk_void, ↓reduceIte, mrt10, mrt11, zl2, zl3, zl4, zl8, Bool.false_eq_true, cx_tub, cx_trial, cx_kept, cx_isKept, cx_tape, cx_reader, cx_sheets, cx_findings, cx_mis, cx_mis37, cx_mis38, cx_bytes, cx_tlen, cx_rtape, cx_token, cx_start, cx_end, cx_number, cx_lnBytes, cx_lnSheets, cx_lnFind, Int32.reduceAdd, Int32.reduceSub, Int32.reduceMul, Int32.reduceLT, zqm0, zqm1, zqm2, zqm3, zqm4, zqm5, zqm6, zqm7, zqm8, zq0m, zq01, zq02, zq03, zq04, zq05, zq06, zq07, zq08, zq1m, zq10, zq12, zq13, zq14, zq15, zq16, zq17, zq18, zq2m, zq20, zq21, zq23, zq24, zq25, zq26, zq27, zq28, zq3m, zq30, zq31, zq32, zq34, zq35, zq36, zq37, zq38, zq4m, zq40, zq41, zq42, zq43, zq45, zq46, zq47, zq48, zq5m, zq50, zq51, zq52, zq53, zq54, zq56, zq57, zq58, zq6m, zq60, zq61, zq62, zq63, zq64, zq65, zq67, zq68, zq7m, zq70, zq71, zq72, zq73, zq74, zq75, zq76, zq78, zq8m, zq80, zq81, zq82, zq83, zq84, zq85, zq86, zq87, e_isLayer, e_isColour, e_isKind, e_isSpot, e_isWithin, cf_0, cf_1, cf_2, cf_3, cf_4, cf_5, cf_6, b2i, mis_1, mis_13, mis_25, e_has1 ok, h0, h1, Decidable.not_not.mp h2]
    · rw [show trQ x y n T = .inr 0 from if_neg (fun q => h1 q.2.1)]
      refine ⟨U, fnX 0 X, ?_, fun k _ => rfl⟩
      rw [qv_0]
      rw [Ec_go rfl]; show Rn 77 (0, [some (.ref 0), some (.int x), some (.int y), none], [], a, cw h T U V X) = _
      simp only [r77_0, r77_1, r77_4, r77_5, r77_8, r77_11, r77_12, r77_15, r77_16, r77_19, r77_22, r77_23, r77_24, r77_27, r77_28, r77_30, r77_33, r77_34, r77_35, r77_38, r77_39, r77_40, r77_41, r77_44, r77_47, r77_48, r77_51, r77_52, r77_53, r77_54, r77_57, r77_60, r77_61, r77_64, r77_65, r77_66, r77_67, r77_70, r77_73, r77_74, r77_75, r77_76, r77_79, r77_80, r77_83, r77_86, r77_89, r77_90, r77_92, r77_95, Nl_none, Nl_int, Nl_ref, Nl_null, Kv_some, Ki_some, Kh_some, Bk_some, Bk_void, ↓reduceIte, mrt10, mrt11, zl2, zl3, zl4, zl8, Bool.false_eq_true, cx_tub, cx_trial, cx_kept, cx_isKept, cx_tape, cx_reader, cx_sheets, cx_findings, cx_mis, cx_mis37, cx_mis38, cx_bytes, cx_tlen, cx_rtape, cx_token, cx_start, cx_end, cx_number, cx_lnBytes, cx_lnSheets, cx_lnFind, Int32.reduceAdd, Int32.reduceSub, Int32.reduceMul, Int32.reduceLT, zqm0, zqm1, zqm2, zqm3, zqm4, zqm5, zqm6, zqm7, zqm8, zq0m, zq01, zq02, zq03, zq04, zq05, zq06, zq07, zq08, zq1m, zq10, zq12, zq13, zq14, zq15, zq16, zq17, zq18, zq2m, zq20, zq21, zq23, zq24, zq25, zq26, zq27, zq28, zq3m, zq30, zq31, zq32, zq34, zq35, zq36, zq37, zq38, zq4m, zq40, zq41, zq42, zq43, zq45, zq46, zq47, zq48, zq5m, zq50, zq51, zq52, zq53, zq54, zq56, zq57, zq58, zq6m, zq60, zq61, zq62, zq63, zq64, zq65, zq67, zq68, zq7m, zq70, zq71, zq72, zq73, zq74, zq75, zq76, zq78, zq8m, zq80, zq81, zq82, zq83, zq84, zq85, zq86, zq87, e_isLayer, e_isColour, e_isKind, e_isSpot, e_isWithin, cf_0, cf_1, cf_2, cf_3, cf_4, cf_5, cf_6, b2i, mis_1, mis_13, mis_25, e_has1 ok, h0, h1]
  · rw [show trQ x y n T = .inr 0 from if_neg (fun q => h0 q.1)]
    refine ⟨U, fnX 0 X, ?_, fun k _ => rfl⟩
    rw [qv_0]
    rw [Ec_go rfl]; show Rn 77 (0, [some (.ref 0), some (.int x), some (.int y), none], [], a, cw h T U V X) = _
    simp only [r77_0, r77_1, r77_4, r77_5, r77_8, r77_11, r77_12, r77_15, r77_16, r77_19, r77_22, r77_23, r77_24, r77_27, r77_28, r77_30, r77_33, r77_34, r77_35, r77_38, r77_39, r77_40, r77_41, r77_44, r77_47, r77_48, r77_51, r77_52, r77_53, r77_54, r77_57, r77_60, r77_61, r77_64, r77_65, r77_66, r77_67, r77_70, r77_73, r77_74, r77_75, r77_76, r77_79, r77_80, r77_83, r77_86, r77_89, r77_90, r77_92, r77_95, Nl_none, Nl_int, Nl_ref, Nl_null, Kv_some, Ki_some, Kh_some, Bk_some, Bk_void, ↓reduceIte, mrt10, mrt11, zl2, zl3, zl4, zl8, Bool.false_eq_true, cx_tub, cx_trial, cx_kept, cx_isKept, cx_tape, cx_reader, cx_sheets, cx_findings, cx_mis, cx_mis37, cx_mis38, cx_bytes, cx_tlen, cx_rtape, cx_token, cx_start, cx_end, cx_number, cx_lnBytes, cx_lnSheets, cx_lnFind, Int32.reduceAdd, Int32.reduceSub, Int32.reduceMul, Int32.reduceLT, zqm0, zqm1, zqm2, zqm3, zqm4, zqm5, zqm6, zqm7, zqm8, zq0m, zq01, zq02, zq03, zq04, zq05, zq06, zq07, zq08, zq1m, zq10, zq12, zq13, zq14, zq15, zq16, zq17, zq18, zq2m, zq20, zq21, zq23, zq24, zq25, zq26, zq27, zq28, zq3m, zq30, zq31, zq32, zq34, zq35, zq36, zq37, zq38, zq4m, zq40, zq41, zq42, zq43, zq45, zq46, zq47, zq48, zq5m, zq50, zq51, zq52, zq53, zq54, zq56, zq57, zq58, zq6m, zq60, zq61, zq62, zq63, zq64, zq65, zq67, zq68, zq7m, zq70, zq71, zq72, zq73, zq74, zq75, zq76, zq78, zq8m, zq80, zq81, zq82, zq83, zq84, zq85, zq86, zq87, e_isLayer, e_isColour, e_isKind, e_isSpot, e_isWithin, cf_0, cf_1, cf_2, cf_3, cf_4, cf_5, cf_6, b2i, mis_1, mis_13, mis_25, e_has1 ok, h0]

end
