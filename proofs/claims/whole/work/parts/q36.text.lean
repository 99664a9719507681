/-! ===== texts: the reference reads an item, a text ===== -/
section
variable {a : MA} {h : MH} {S K B A Y : TS} {x y z v w tk fr to vv fa : Int32} {n k m L p s : Nat}
theorem m_perhapsT (hL : Y 1 = Int32.ofNat L) (h120 : L ≤ 120) (hs : s ≤ L) (hp : p < 86) : RPo (bA L Y) L Y a h K B A (prP (bA L Y) L true p x S s) fa (Ec 205 [.ref 50, .int 1, .int (Int32.ofNat p), .int x] a (mw h S K B A (rY (bA L Y) L Y s fa))) := m_perhaps (c := true) hL h120 hs hp
/-- what comes behind a part that may stand there: it goes on, or all is false -/
theorem m_thingHere (hL : Y 1 = Int32.ofNat L) (h120 : L ≤ 120) (hs : s ≤ L) (ok : Ok n S) : RPo (bA L Y) L Y a h K B A (thP (bA L Y) L n x S s) fa (Ec 206 [.ref 50, .int x] a (mw h S K B A (rY (bA L Y) L Y s fa))) := by
  have h8 := ok.1
  have a1 := nx_le (g := bA L Y) bA_hi hs
  unfold thP
  by_cases hn : n < 8
  · rw [if_pos hn]
    have e8 : (Int32.ofNat n = (8 : Int32)) = (n = 8) := of_eq (m := 8) (by omega) (by decide)
    have n8 : ¬ n = 8 := by omega
    have e1 : coS n x 0 S 0 = Int32.ofNat (n + 1) := fu_at
    have e2 : Int32.ofNat (n + 1) - 1 = Int32.ofNat n := of_sub (n + 1) 1 (by omega)
    have p1 := m_perhaps (a := a) (h := h) (S := coS n x 0 S) (K := K) (B := B) (A := A) (fa := fa) (x := 7) (p := 29 + 6 * n) (c := wdB (bA L Y) L (nxT (bA L Y) L s) wIn) hL h120 a1.2 (by omega)
    have l1 := pr_le (g := bA L Y) (c := wdB (bA L Y) L (nxT (bA L Y) L s) wIn) (p := 29 + 6 * n) (hi := 7) (T := coS n x 0 S) bA_hi a1.2
    unfold th1 bdP
    cases c1 : prP (bA L Y) L (wdB (bA L Y) L (nxT (bA L Y) L s) wIn) (29 + 6 * n) 7 (coS n x 0 S) (nxT (bA L Y) L s) with
    | inl e =>
      rw [c1] at p1
      obtain ⟨S', p1⟩ := p1
      refine ⟨S', ?_⟩
      rw [Ec_go rfl]; show Rn 206 (0, [some (.ref 50), some (.int x), none], [], a, mw h S K B A (rY (bA L Y) L Y s fa)) = _
      simp only [r206_0, r206_1, r206_4, r206_5, r206_6, r206_8, r206_11, r206_12, r206_15, r206_16, r206_17, r206_18, r206_19, r206_22, r206_23, r206_26, r206_27, r206_28, r206_29, r206_30, r206_31, r206_32, r206_35, r206_36, r206_37, r206_39, r206_41, r206_44, r206_45, r206_46, r206_49, r206_51, r206_54, r206_57, r206_58, r206_59, r206_61, r206_63, r206_66, r206_67, r206_68, r206_71, r206_72, r206_75, r206_78, r206_79, r206_80, r206_82, r206_84, r206_86, r206_88, r206_90, r206_93, r206_94, r206_95, r206_98, r206_101, r206_104, r206_107, r206_108, r206_111, r206_112, Nl_none, Nl_int, Nl_ref, Nl_null, Kv_some, Ki_some, Kh_some, Bk_some, Bk_void, ↓reduceIte, mrt10, mrt11, zl2, zl3, zl4, zl8, Bool.false_eq_true, my_s, my_mis, my_kept, my_before, my_aside, my_isKept, my_findings, my_tape, my_taped, my_bitsOf, my_sizes, my_numbers, my_fitting, my_leastFit, my_token, my_from, my_to, my_value, my_faultAt, Int32.reduceAdd, Int32.reduceSub, Int32.reduceMul, Int32.reduceLT, zqm0, zqm1, zqm2, zqm3, zqm4, zqm5, zqm6, zqm7, zqm8, zq0m, zq01, zq02, zq03, zq04, zq05, zq06, zq07, zq08, zq1m, zq10, zq12, zq13, zq14, zq15, zq16, zq17, zq18, zq2m, zq20, zq21, zq23, zq24, zq25, zq26, zq27, zq28, zq3m, zq30, zq31, zq32, zq34, zq35, zq36, zq37, zq38, zq4m, zq40, zq41, zq42, zq43, zq45, zq46, zq47, zq48, zq5m, zq50, zq51, zq52, zq53, zq54, zq56, zq57, zq58, zq6m, zq60, zq61, zq62, zq63, zq64, zq65, zq67, zq68, zq7m, zq70, zq71, zq72, zq73, zq74, zq75, zq76, zq78, zq8m, zq80, zq81, zq82, zq83, zq84, zq85, zq86, zq87, ml_0, ok.2.1, e8, n8, m_comes ok hn, e1, e2, m_next hL h120 hs, m_isTwo hL h120 a1.2, m_at1, p1]
    | inr r1 =>
      obtain ⟨T1, s1⟩ := r1
      rw [c1] at p1 l1
      have p1 : Ec 205 [.ref 50, .int (b2i (wdB (bA L Y) L (nxT (bA L Y) L s) wIn)), .int (Int32.ofNat (29 + 6 * n)), .int 7] a (mw h (coS n x 0 S) K B A (rY (bA L Y) L Y (nxT (bA L Y) L s) fa)) = some (some (.int 1), a, mw h T1 K B A (rY (bA L Y) L Y s1 fa)) := p1
      have l1 : nxT (bA L Y) L s ≤ s1 ∧ s1 ≤ L := l1
      show RPo _ _ _ _ _ _ _ _ (th2 (bA L Y) L n T1 s1) _ _
      have p2 := m_perhaps (a := a) (h := h) (S := T1) (K := K) (B := B) (A := A) (fa := fa) (x := 2) (p := 30 + 6 * n) (c := wdB (bA L Y) L s1 wOf) hL h120 l1.2 (by omega)
      have l2 := pr_le (g := bA L Y) (c := wdB (bA L Y) L s1 wOf) (p := 30 + 6 * n) (hi := 2) (T := T1) bA_hi l1.2
      unfold th2 bdP
      cases c2 : prP (bA L Y) L (wdB (bA L Y) L s1 wOf) (30 + 6 * n) 2 T1 s1 with
      | inl e =>
        rw [c2] at p2
        obtain ⟨S', p2⟩ := p2
        refine ⟨S', ?_⟩
        rw [Ec_go rfl]; show Rn 206 (0, [some (.ref 50), some (.int x), none], [], a, mw h S K B A (rY (bA L Y) L Y s fa)) = _
        simp only [r206_0, r206_1, r206_4, r206_5, r206_6, r206_8, r206_11, r206_12, r206_15, r206_16, r206_17, r206_18, r206_19, r206_22, r206_23, r206_26, r206_27, r206_28, r206_29, r206_30, r206_31, r206_32, r206_35, r206_36, r206_37, r206_39, r206_41, r206_44, r206_45, r206_46, r206_49, r206_51, r206_54, r206_57, r206_58, r206_59, r206_61, r206_63, r206_66, r206_67, r206_68, r206_71, r206_72, r206_75, r206_78, r206_79, r206_80, r206_82, r206_84, r206_86, r206_88, r206_90, r206_93, r206_94, r206_95, r206_98, r206_101, r206_104, r206_107, r206_108, r206_111, r206_112, Nl_none, Nl_int, Nl_ref, Nl_null, Kv_some, Ki_some, Kh_some, Bk_some, Bk_void, ↓reduceIte, mrt10, mrt11, zl2, zl3, zl4, zl8, Bool.false_eq_true, my_s, my_mis, my_kept, my_before, my_aside, my_isKept, my_findings, my_tape, my_taped, my_bitsOf, my_sizes, my_numbers, my_fitting, my_leastFit, my_token, my_from, my_to, my_value, my_faultAt, Int32.reduceAdd, Int32.reduceSub, Int32.reduceMul, Int32.reduceLT, zqm0, zqm1, zqm2, zqm3, zqm4, zqm5, zqm6, zqm7, zqm8, zq0m, zq01, zq02, zq03, zq04, zq05, zq06, zq07, zq08, zq1m, zq10, zq12, zq13, zq14, zq15, zq16, zq17, zq18, zq2m, zq20, zq21, zq23, zq24, zq25, zq26, zq27, zq28, zq3m, zq30, zq31, zq32, zq34, zq35, zq36, zq37, zq38, zq4m, zq40, zq41, zq42, zq43, zq45, zq46, zq47, zq48, zq5m, zq50, zq51, zq52, zq53, zq54, zq56, zq57, zq58, zq6m, zq60, zq61, zq62, zq63, zq64, zq65, zq67, zq68, zq7m, zq70, zq71, zq72, zq73, zq74, zq75, zq76, zq78, zq8m, zq80, zq81, zq82, zq83, zq84, zq85, zq86, zq87, ml_0, ok.2.1, e8, n8, m_comes ok hn, e1, e2, m_next hL h120 hs, m_isTwo hL h120 a1.2, m_isTwo hL h120 l1.2, m_at1, m_at2, p1, p2]
      | inr r2 =>
        obtain ⟨T2, s2⟩ := r2
        rw [c2] at p2 l2
        have p2 : Ec 205 [.ref 50, .int (b2i (wdB (bA L Y) L s1 wOf)), .int (Int32.ofNat (30 + 6 * n)), .int 2] a (mw h T1 K B A (rY (bA L Y) L Y s1 fa)) = some (some (.int 1), a, mw h T2 K B A (rY (bA L Y) L Y s2 fa)) := p2
        have l2 : s1 ≤ s2 ∧ s2 ≤ L := l2
        show RPo _ _ _ _ _ _ _ _ (th3 (bA L Y) L n T2 s2) _ _
        have p3 := m_perhaps (a := a) (h := h) (S := T2) (K := K) (B := B) (A := A) (fa := fa) (x := 999) (p := 31 + 6 * n) (c := wdB (bA L Y) L s2 wHolds) hL h120 l2.2 (by omega)
        unfold th3
        cases c3 : prP (bA L Y) L (wdB (bA L Y) L s2 wHolds) (31 + 6 * n) 999 T2 s2 with
        | inl e =>
          rw [c3] at p3
          obtain ⟨S', p3⟩ := p3
          refine ⟨S', ?_⟩
          rw [Ec_go rfl]; show Rn 206 (0, [some (.ref 50), some (.int x), none], [], a, mw h S K B A (rY (bA L Y) L Y s fa)) = _
          simp only [r206_0, r206_1, r206_4, r206_5, r206_6, r206_8, r206_11, r206_12, r206_15, r206_16, r206_17, r206_18, r206_19, r206_22, r206_23, r206_26, r206_27, r206_28, r206_29, r206_30, r206_31, r206_32, r206_35, r206_36, r206_37, r206_39, r206_41, r206_44, r206_45, r206_46, r206_49, r206_51, r206_54, r206_57, r206_58, r206_59, r206_61, r206_63, r206_66, r206_67, r206_68, r206_71, r206_72, r206_75, r206_78, r206_79, r206_80, r206_82, r206_84, r206_86, r206_88, r206_90, r206_93, r206_94, r206_95, r206_98, r206_101, r206_104, r206_107, r206_108, r206_111, r206_112, Nl_none, Nl_int, Nl_ref, Nl_null, Kv_some, Ki_some, Kh_some, Bk_some, Bk_void, ↓reduceIte, mrt10, mrt11, zl2, zl3, zl4, zl8, Bool.false_eq_true, my_s, my_mis, my_kept, my_before, my_aside, my_isKept, my_findings, my_tape, my_taped, my_bitsOf, my_sizes, my_numbers, my_fitting, my_leastFit, my_token, my_from, my_to, my_value, my_faultAt, Int32.reduceAdd, Int32.reduceSub, Int32.reduceMul, Int32.reduceLT, zqm0, zqm1, zqm2, zqm3, zqm4, zqm5, zqm6, zqm7, zqm8, zq0m, zq01, zq02, zq03, zq04, zq05, zq06, zq07, zq08, zq1m, zq10, zq12, zq13, zq14, zq15, zq16, zq17, zq18, zq2m, zq20, zq21, zq23, zq24, zq25, zq26, zq27, zq28, zq3m, zq30, zq31, zq32, zq34, zq35, zq36, zq37, zq38, zq4m, zq40, zq41, zq42, zq43, zq45, zq46, zq47, zq48, zq5m, zq50, zq51, zq52, zq53, zq54, zq56, zq57, zq58, zq6m, zq60, zq61, zq62, zq63, zq64, zq65, zq67, zq68, zq7m, zq70, zq71, zq72, zq73, zq74, zq75, zq76, zq78, zq8m, zq80, zq81, zq82, zq83, zq84, zq85, zq86, zq87, ml_0, ok.2.1, e8, n8, m_comes ok hn, e1, e2, m_next hL h120 hs, m_isTwo hL h120 a1.2, m_isTwo hL h120 l1.2, m_isFive hL h120 l2.2, m_at1, m_at2, m_at3, p1, p2, p3]
        | inr r3 =>
          obtain ⟨T3, s3⟩ := r3
          rw [c3] at p3
          have p3 : Ec 205 [.ref 50, .int (b2i (wdB (bA L Y) L s2 wHolds)), .int (Int32.ofNat (31 + 6 * n)), .int 999] a (mw h T2 K B A (rY (bA L Y) L Y s2 fa)) = some (some (.int 1), a, mw h T3 K B A (rY (bA L Y) L Y s3 fa)) := p3
          show _ = some (some (Value.int 1), a, mw h T3 K B A (rY (bA L Y) L Y s3 fa))
          rw [Ec_go rfl]; show Rn 206 (0, [some (.ref 50), some (.int x), none], [], a, mw h S K B A (rY (bA L Y) L Y s fa)) = _
          simp only [r206_0, r206_1, r206_4, r206_5, r206_6, r206_8, r206_11, r206_12, r206_15, r206_16, r206_17, r206_18, r206_19, r206_22, r206_23, r206_26, r206_27, r206_28, r206_29, r206_30, r206_31, r206_32, r206_35, r206_36, r206_37, r206_39, r206_41, r206_44, r206_45, r206_46, r206_49, r206_51, r206_54, r206_57, r206_58, r206_59, r206_61, r206_63, r206_66, r206_67, r206_68, r206_71, r206_72, r206_75, r206_78, r206_79, r206_80, r206_82, r206_84, r206_86, r206_88, r206_90, r206_93, r206_94, r206_95, r206_98, r206_101, r206_104, r206_107, r206_108, r206_111, r206_112, Nl_none, Nl_int, Nl_ref, Nl_null, Kv_some, Ki_some, Kh_some, Bk_some, Bk_void, ↓reduceIte, mrt10, mrt11, zl2, zl3, zl4, zl8, Bool.false_eq_true, my_s, my_mis, my_kept, my_before, my_aside, my_isKept, my_findings, my_tape, my_taped, my_bitsOf, my_sizes, my_numbers, my_fitting, my_leastFit, my_token, my_from, my_to, my_value, my_faultAt, Int32.reduceAdd, Int32.reduceSub, Int32.reduceMul, Int32.reduceLT, zqm0, zqm1, zqm2, zqm3, zqm4, zqm5, zqm6, zqm7, zqm8, zq0m, zq01, zq02, zq03, zq04, zq05, zq06, zq07, zq08, zq1m, zq10, zq12, zq13, zq14, zq15, zq16, zq17, zq18, zq2m, zq20, zq21, zq23, zq24, zq25, zq26, zq27, zq28, zq3m, zq30, zq31, zq32, zq34, zq35, zq36, zq37, zq38, zq4m, zq40, zq41, zq42, zq43, zq45, zq46, zq47, zq48, zq5m, zq50, zq51, zq52, zq53, zq54, zq56, zq57, zq58, zq6m, zq60, zq61, zq62, zq63, zq64, zq65, zq67, zq68, zq7m, zq70, zq71, zq72, zq73, zq74, zq75, zq76, zq78, zq8m, zq80, zq81, zq82, zq83, zq84, zq85, zq86, zq87, ml_0, ok.2.1, e8, n8, m_comes ok hn, e1, e2, m_next hL h120 hs, m_isTwo hL h120 a1.2, m_isTwo hL h120 l1.2, m_isFive hL h120 l2.2, m_at1, m_at2, m_at3, p1, p2, p3]
  · rw [if_neg hn]
    have e : S 0 = 8 := by rw [ok.2.1, show n = 8 by omega]; rfl
    refine ⟨S, ?_⟩
    rw [Ec_go rfl]; show Rn 206 (0, [some (.ref 50), some (.int x), none], [], a, mw h S K B A (rY (bA L Y) L Y s fa)) = _
    simp only [r206_0, r206_1, r206_4, r206_5, r206_6, r206_8, r206_11, r206_12, r206_15, r206_16, r206_17, r206_18, r206_19, r206_22, r206_23, r206_26, r206_27, r206_28, r206_29, r206_30, r206_31, r206_32, r206_35, r206_36, r206_37, r206_39, r206_41, r206_44, r206_45, r206_46, r206_49, r206_51, r206_54, r206_57, r206_58, r206_59, r206_61, r206_63, r206_66, r206_67, r206_68, r206_71, r206_72, r206_75, r206_78, r206_79, r206_80, r206_82, r206_84, r206_86, r206_88, r206_90, r206_93, r206_94, r206_95, r206_98, r206_101, r206_104, r206_107, r206_108, r206_111, r206_112, Nl_none, Nl_int, Nl_ref, Nl_null, Kv_some, Ki_some, Kh_some, Bk_some, Bk_void, ↓reduceIte, mrt10, mrt11, zl2, zl3, zl4, zl8, Bool.false_eq_true, my_s, my_mis, my_kept, my_before, my_aside, my_isKept, my_findings, my_tape, my_taped, my_bitsOf, my_sizes, my_numbers, my_fitting, my_leastFit, my_token, my_from, my_to, my_value, my_faultAt, Int32.reduceAdd, Int32.reduceSub, Int32.reduceMul, Int32.reduceLT, zqm0, zqm1, zqm2, zqm3, zqm4, zqm5, zqm6, zqm7, zqm8, zq0m, zq01, zq02, zq03, zq04, zq05, zq06, zq07, zq08, zq1m, zq10, zq12, zq13, zq14, zq15, zq16, zq17, zq18, zq2m, zq20, zq21, zq23, zq24, zq25, zq26, zq27, zq28, zq3m, zq30, zq31, zq32, zq34, zq35, zq36, zq37, zq38, zq4m, zq40, zq41, zq42, zq43, zq45, zq46, zq47, zq48, zq5m, zq50, zq51, zq52, zq53, zq54, zq56, zq57, zq58, zq6m, zq60, zq61, zq62, zq63, zq64, zq65, zq67, zq68, zq7m, zq70, zq71, zq72, zq73, zq74, zq75, zq76, zq78, zq8m, zq80, zq81, zq82, zq83, zq84, zq85, zq86, zq87, ml_0, e, m_fails]
theorem m_dyeHere (hL : Y 1 = Int32.ofNat L) (h120 : L ≤ 120) (hs : s ≤ L) : RPo (bA L Y) L Y a h K B A (dyP (bA L Y) L S s) fa (Ec 207 [.ref 50] a (mw h S K B A (rY (bA L Y) L Y s fa))) := by
  have a1 := nx_le (g := bA L Y) bA_hi hs
  have a2 := nx_le (g := bA L Y) bA_hi a1.2
  have f7 : ∀ s fa, rY (bA L Y) L Y s fa 7 = vl (bA L Y) L s := fun _ _ => rfl
  unfold dyP
  by_cases q1 : nmB (bA L Y) L 7 (nxT (bA L Y) L s) = true
  · rw [if_pos q1]
    by_cases q2 : nmB (bA L Y) L 2 (nxT (bA L Y) L (nxT (bA L Y) L s)) = true
    · rw [if_pos q2]
      have hx := isL_nm q1
      have hy := isC_nm q2
      have p := m_perhapsT (a := a) (h := h) (S := S) (K := K) (B := B) (A := A) (fa := fa) (x := 999) hL h120 a2.2 (dy_lt hx hy)
      cases c : prP (bA L Y) L true (dyI (vl (bA L Y) L (nxT (bA L Y) L s)) (vl (bA L Y) L (nxT (bA L Y) L (nxT (bA L Y) L s)))) 999 S (nxT (bA L Y) L (nxT (bA L Y) L s)) with
      | inl e =>
        rw [c] at p
        obtain ⟨S', p⟩ := p
        refine ⟨S', ?_⟩
        rw [Ec_go rfl]; show Rn 207 (0, [some (.ref 50), none], [], a, mw h S K B A (rY (bA L Y) L Y s fa)) = _
        simp only [r207_0, r207_1, r207_4, r207_5, r207_6, r207_8, r207_11, r207_14, r207_15, r207_16, r207_17, r207_20, r207_21, r207_22, r207_25, r207_26, r207_27, r207_28, r207_31, r207_34, r207_35, r207_36, r207_37, r207_38, r207_39, r207_40, r207_41, r207_42, r207_43, r207_44, r207_47, r207_48, r207_51, r207_54, Nl_none, Nl_int, Nl_ref, Nl_null, Kv_some, Ki_some, Kh_some, Bk_some, Bk_void, ↓reduceIte, mrt10, mrt11, zl2, zl3, zl4, zl8, Bool.false_eq_true, my_s, my_mis, my_kept, my_before, my_aside, my_isKept, my_findings, my_tape, my_taped, my_bitsOf, my_sizes, my_numbers, my_fitting, my_leastFit, my_token, my_from, my_to, my_value, my_faultAt, Int32.reduceAdd, Int32.reduceSub, Int32.reduceMul, Int32.reduceLT, zqm0, zqm1, zqm2, zqm3, zqm4, zqm5, zqm6, zqm7, zqm8, zq0m, zq01, zq02, zq03, zq04, zq05, zq06, zq07, zq08, zq1m, zq10, zq12, zq13, zq14, zq15, zq16, zq17, zq18, zq2m, zq20, zq21, zq23, zq24, zq25, zq26, zq27, zq28, zq3m, zq30, zq31, zq32, zq34, zq35, zq36, zq37, zq38, zq4m, zq40, zq41, zq42, zq43, zq45, zq46, zq47, zq48, zq5m, zq50, zq51, zq52, zq53, zq54, zq56, zq57, zq58, zq6m, zq60, zq61, zq62, zq63, zq64, zq65, zq67, zq68, zq7m, zq70, zq71, zq72, zq73, zq74, zq75, zq76, zq78, zq8m, zq80, zq81, zq82, zq83, zq84, zq85, zq86, zq87, m_next hL h120 hs, m_next hL h120 a1.2, m_isNumber, q1, q2, b2i, f7, dy_ix hx hy, p]
      | inr r =>
        obtain ⟨T1, s1⟩ := r
        rw [c] at p
        have p : Ec 205 [.ref 50, .int 1, .int (Int32.ofNat (dyI (vl (bA L Y) L (nxT (bA L Y) L s)) (vl (bA L Y) L (nxT (bA L Y) L (nxT (bA L Y) L s))))), .int 999] a (mw h S K B A (rY (bA L Y) L Y (nxT (bA L Y) L (nxT (bA L Y) L s)) fa)) = some (some (.int 1), a, mw h T1 K B A (rY (bA L Y) L Y s1 fa)) := p
        show _ = some (some (Value.int 1), a, mw h T1 K B A (rY (bA L Y) L Y s1 fa))
        rw [Ec_go rfl]; show Rn 207 (0, [some (.ref 50), none], [], a, mw h S K B A (rY (bA L Y) L Y s fa)) = _
        simp only [r207_0, r207_1, r207_4, r207_5, r207_6, r207_8, r207_11, r207_14, r207_15, r207_16, r207_17, r207_20, r207_21, r207_22, r207_25, r207_26, r207_27, r207_28, r207_31, r207_34, r207_35, r207_36, r207_37, r207_38, r207_39, r207_40, r207_41, r207_42, r207_43, r207_44, r207_47, r207_48, r207_51, r207_54, Nl_none, Nl_int, Nl_ref, Nl_null, Kv_some, Ki_some, Kh_some, Bk_some, Bk_void, ↓reduceIte, mrt10, mrt11, zl2, zl3, zl4, zl8, Bool.false_eq_true, my_s, my_mis, my_kept, my_before, my_aside, my_isKept, my_findings, my_tape, my_taped, my_bitsOf, my_sizes, my_numbers, my_fitting, my_leastFit, my_token, my_from, my_to, my_value, my_faultAt, Int32.reduceAdd, Int32.reduceSub, Int32.reduceMul, Int32.reduceLT, zqm0, zqm1, zqm2, zqm3, zqm4, zqm5, zqm6, zqm7, zqm8, zq0m, zq01, zq02, zq03, zq04, zq05, zq06, zq07, zq08, zq1m, zq10, zq12, zq13, zq14, zq15, zq16, zq17, zq18, zq2m, zq20, zq21, zq23, zq24, zq25, zq26, zq27, zq28, zq3m, zq30, zq31, zq32, zq34, zq35, zq36, zq37, zq38, zq4m, zq40, zq41, zq42, zq43, zq45, zq46, zq47, zq48, zq5m, zq50, zq51, zq52, zq53, zq54, zq56, zq57, zq58, zq6m, zq60, zq61, zq62, zq63, zq64, zq65, zq67, zq68, zq7m, zq70, zq71, zq72, zq73, zq74, zq75, zq76, zq78, zq8m, zq80, zq81, zq82, zq83, zq84, zq85, zq86, zq87, m_next hL h120 hs, m_next hL h120 a1.2, m_isNumber, q1, q2, b2i, f7, dy_ix hx hy, p]
    · rw [if_neg q2]
      refine ⟨S, ?_⟩
      rw [Ec_go rfl]; show Rn 207 (0, [some (.ref 50), none], [], a, mw h S K B A (rY (bA L Y) L Y s fa)) = _
      simp only [r207_0, r207_1, r207_4, r207_5, r207_6, r207_8, r207_11, r207_14, r207_15, r207_16, r207_17, r207_20, r207_21, r207_22, r207_25, r207_26, r207_27, r207_28, r207_31, r207_34, r207_35, r207_36, r207_37, r207_38, r207_39, r207_40, r207_41, r207_42, r207_43, r207_44, r207_47, r207_48, r207_51, r207_54, Nl_none, Nl_int, Nl_ref, Nl_null, Kv_some, Ki_some, Kh_some, Bk_some, Bk_void, ↓reduceIte, mrt10, mrt11, zl2, zl3, zl4, zl8, Bool.false_eq_true, my_s, my_mis, my_kept, my_before, my_aside, my_isKept, my_findings, my_tape, my_taped, my_bitsOf, my_sizes, my_numbers, my_fitting, my_leastFit, my_token, my_from, my_to, my_value, my_faultAt, Int32.reduceAdd, Int32.reduceSub, Int32.reduceMul, Int32.reduceLT, zqm0, zqm1, zqm2, zqm3, zqm4, zqm5, zqm6, zqm7, zqm8, zq0m, zq01, zq02, zq03, zq04, zq05, zq06, zq07, zq08, zq1m, zq10, zq12, zq13, zq14, zq15, zq16, zq17, zq18, zq2m, zq20, zq21, zq23, zq24, zq25, zq26, zq27, zq28, zq3m, zq30, zq31, zq32, zq34, zq35, zq36, zq37, zq38, zq4m, zq40, zq41, zq42, zq43, zq45, zq46, zq47, zq48, zq5m, zq50, zq51, zq52, zq53, zq54, zq56, zq57, zq58, zq6m, zq60, zq61, zq62, zq63, zq64, zq65, zq67, zq68, zq7m, zq70, zq71, zq72, zq73, zq74, zq75, zq76, zq78, zq8m, zq80, zq81, zq82, zq83, zq84, zq85, zq86, zq87, m_next hL h120 hs, m_next hL h120 a1.2, m_isNumber, q1, q2, b2i, f7]
  · rw [if_neg q1]
    refine ⟨S, ?_⟩
    rw [Ec_go rfl]; show Rn 207 (0, [some (.ref 50), none], [], a, mw h S K B A (rY (bA L Y) L Y s fa)) = _
    simp only [r207_0, r207_1, r207_4, r207_5, r207_6, r207_8, r207_11, r207_14, r207_15, r207_16, r207_17, r207_20, r207_21, r207_22, r207_25, r207_26, r207_27, r207_28, r207_31, r207_34, r207_35, r207_36, r207_37, r207_38, r207_39, r207_40, r207_41, r207_42, r207_43, r207_44, r207_47, r207_48, r207_51, r207_54, Nl_none, Nl_int, Nl_ref, Nl_null, Kv_some, Ki_some, Kh_some, Bk_some, Bk_void, ↓reduceIte, mrt10, mrt11, zl2, zl3, zl4, zl8, Bool.false_eq_true, my_s, my_mis, my_kept, my_before, my_aside, my_isKept, my_findings, my_tape, my_taped, my_bitsOf, my_sizes, my_numbers, my_fitting, my_leastFit, my_token, my_from, my_to, my_value, my_faultAt, Int32.reduceAdd, Int32.reduceSub, Int32.reduceMul, Int32.reduceLT, zqm0, zqm1, zqm2, zqm3, zqm4, zqm5, zqm6, zqm7, zqm8, zq0m, zq01, zq02, zq03, zq04, zq05, zq06, zq07, zq08, zq1m, zq10, zq12, zq13, zq14, zq15, zq16, zq17, zq18, zq2m, zq20, zq21, zq23, zq24, zq25, zq26, zq27, zq28, zq3m, zq30, zq31, zq32, zq34, zq35, zq36, zq37, zq38, zq4m, zq40, zq41, zq42, zq43, zq45, zq46, zq47, zq48, zq5m, zq50, zq51, zq52, zq53, zq54, zq56, zq57, zq58, zq6m, zq60, zq61, zq62, zq63, zq64, zq65, zq67, zq68, zq7m, zq70, zq71, zq72, zq73, zq74, zq75, zq76, zq78, zq8m, zq80, zq81, zq82, zq83, zq84, zq85, zq86, zq87, m_next hL h120 hs, m_isNumber, q1, b2i]
theorem m_stirHere (hL : Y 1 = Int32.ofNat L) (h120 : L ≤ 120) (hs : s ≤ L) (ok : Ok n S) : RPo (bA L Y) L Y a h K B A (stP (bA L Y) L n S s) fa (Ec 208 [.ref 50] a (mw h S K B A (rY (bA L Y) L Y s fa))) := by
  have a1 := nx_le (g := bA L Y) bA_hi hs
  have a2 := nx_le (g := bA L Y) bA_hi a1.2
  have f7 : ∀ s fa, rY (bA L Y) L Y s fa 7 = vl (bA L Y) L s := fun _ _ => rfl
  unfold stP
  by_cases q1 : nmB (bA L Y) L 7 (nxT (bA L Y) L s) = true
  · rw [if_pos q1]
    by_cases q2 : nmB (bA L Y) L 7 (nxT (bA L Y) L (nxT (bA L Y) L s)) = true
    · rw [if_pos q2]
      have hx := isL_nm q1
      have hy := isL_nm q2
      show _ = some (some (Value.int 1), a, mw h (if vl (bA L Y) L (nxT (bA L Y) L (nxT (bA L Y) L s)) = vl (bA L Y) L (nxT (bA L Y) L s) then S else stS (vl (bA L Y) L (nxT (bA L Y) L s)) (vl (bA L Y) L (nxT (bA L Y) L (nxT (bA L Y) L s))) n S) K B A (rY (bA L Y) L Y (nxT (bA L Y) L (nxT (bA L Y) L (nxT (bA L Y) L s))) fa))
      by_cases q3 : vl (bA L Y) L (nxT (bA L Y) L (nxT (bA L Y) L s)) = vl (bA L Y) L (nxT (bA L Y) L s)
      · rw [if_pos q3]
        rw [Ec_go rfl]; show Rn 208 (0, [some (.ref 50), none], [], a, mw h S K B A (rY (bA L Y) L Y s fa)) = _
        simp only [r208_0, r208_1, r208_4, r208_5, r208_6, r208_8, r208_11, r208_14, r208_15, r208_16, r208_17, r208_20, r208_21, r208_22, r208_25, r208_26, r208_27, r208_29, r208_32, r208_35, r208_36, r208_37, r208_38, r208_41, r208_42, r208_45, r208_46, r208_47, r208_48, r208_51, r208_54, r208_55, r208_58, r208_59, Nl_none, Nl_int, Nl_ref, Nl_null, Kv_some, Ki_some, Kh_some, Bk_some, Bk_void, ↓reduceIte, mrt10, mrt11, zl2, zl3, zl4, zl8, Bool.false_eq_true, my_s, my_mis, my_kept, my_before, my_aside, my_isKept, my_findings, my_tape, my_taped, my_bitsOf, my_sizes, my_numbers, my_fitting, my_leastFit, my_token, my_from, my_to, my_value, my_faultAt, Int32.reduceAdd, Int32.reduceSub, Int32.reduceMul, Int32.reduceLT, zqm0, zqm1, zqm2, zqm3, zqm4, zqm5, zqm6, zqm7, zqm8, zq0m, zq01, zq02, zq03, zq04, zq05, zq06, zq07, zq08, zq1m, zq10, zq12, zq13, zq14, zq15, zq16, zq17, zq18, zq2m, zq20, zq21, zq23, zq24, zq25, zq26, zq27, zq28, zq3m, zq30, zq31, zq32, zq34, zq35, zq36, zq37, zq38, zq4m, zq40, zq41, zq42, zq43, zq45, zq46, zq47, zq48, zq5m, zq50, zq51, zq52, zq53, zq54, zq56, zq57, zq58, zq6m, zq60, zq61, zq62, zq63, zq64, zq65, zq67, zq68, zq7m, zq70, zq71, zq72, zq73, zq74, zq75, zq76, zq78, zq8m, zq80, zq81, zq82, zq83, zq84, zq85, zq86, zq87, m_next hL h120 hs, m_next hL h120 a1.2, m_next hL h120 a2.2, m_isNumber, q1, q2, b2i, f7, q3]
      · rw [if_neg q3]
        have q3' : ¬ vl (bA L Y) L (nxT (bA L Y) L s) = vl (bA L Y) L (nxT (bA L Y) L (nxT (bA L Y) L s)) := fun e => q3 e.symm
        rw [Ec_go rfl]; show Rn 208 (0, [some (.ref 50), none], [], a, mw h S K B A (rY (bA L Y) L Y s fa)) = _
        simp only [r208_0, r208_1, r208_4, r208_5, r208_6, r208_8, r208_11, r208_14, r208_15, r208_16, r208_17, r208_20, r208_21, r208_22, r208_25, r208_26, r208_27, r208_29, r208_32, r208_35, r208_36, r208_37, r208_38, r208_41, r208_42, r208_45, r208_46, r208_47, r208_48, r208_51, r208_54, r208_55, r208_58, r208_59, Nl_none, Nl_int, Nl_ref, Nl_null, Kv_some, Ki_some, Kh_some, Bk_some, Bk_void, ↓reduceIte, mrt10, mrt11, zl2, zl3, zl4, zl8, Bool.false_eq_true, my_s, my_mis, my_kept, my_before, my_aside, my_isKept, my_findings, my_tape, my_taped, my_bitsOf, my_sizes, my_numbers, my_fitting, my_leastFit, my_token, my_from, my_to, my_value, my_faultAt, Int32.reduceAdd, Int32.reduceSub, Int32.reduceMul, Int32.reduceLT, zqm0, zqm1, zqm2, zqm3, zqm4, zqm5, zqm6, zqm7, zqm8, zq0m, zq01, zq02, zq03, zq04, zq05, zq06, zq07, zq08, zq1m, zq10, zq12, zq13, zq14, zq15, zq16, zq17, zq18, zq2m, zq20, zq21, zq23, zq24, zq25, zq26, zq27, zq28, zq3m, zq30, zq31, zq32, zq34, zq35, zq36, zq37, zq38, zq4m, zq40, zq41, zq42, zq43, zq45, zq46, zq47, zq48, zq5m, zq50, zq51, zq52, zq53, zq54, zq56, zq57, zq58, zq6m, zq60, zq61, zq62, zq63, zq64, zq65, zq67, zq68, zq7m, zq70, zq71, zq72, zq73, zq74, zq75, zq76, zq78, zq8m, zq80, zq81, zq82, zq83, zq84, zq85, zq86, zq87, m_next hL h120 hs, m_next hL h120 a1.2, m_next hL h120 a2.2, m_isNumber, q1, q2, b2i, f7, if_neg q3, m_stirs ok hx hy q3']
    · rw [if_neg q2]
      refine ⟨S, ?_⟩
      rw [Ec_go rfl]; show Rn 208 (0, [some (.ref 50), none], [], a, mw h S K B A (rY (bA L Y) L Y s fa)) = _
      simp only [r208_0, r208_1, r208_4, r208_5, r208_6, r208_8, r208_11, r208_14, r208_15, r208_16, r208_17, r208_20, r208_21, r208_22, r208_25, r208_26, r208_27, r208_29, r208_32, r208_35, r208_36, r208_37, r208_38, r208_41, r208_42, r208_45, r208_46, r208_47, r208_48, r208_51, r208_54, r208_55, r208_58, r208_59, Nl_none, Nl_int, Nl_ref, Nl_null, Kv_some, Ki_some, Kh_some, Bk_some, Bk_void, ↓reduceIte, mrt10, mrt11, zl2, zl3, zl4, zl8, Bool.false_eq_true, my_s, my_mis, my_kept, my_before, my_aside, my_isKept, my_findings, my_tape, my_taped, my_bitsOf, my_sizes, my_numbers, my_fitting, my_leastFit, my_token, my_from, my_to, my_value, my_faultAt, Int32.reduceAdd, Int32.reduceSub, Int32.reduceMul, Int32.reduceLT, zqm0, zqm1, zqm2, zqm3, zqm4, zqm5, zqm6, zqm7, zqm8, zq0m, zq01, zq02, zq03, zq04, zq05, zq06, zq07, zq08, zq1m, zq10, zq12, zq13, zq14, zq15, zq16, zq17, zq18, zq2m, zq20, zq21, zq23, zq24, zq25, zq26, zq27, zq28, zq3m, zq30, zq31, zq32, zq34, zq35, zq36, zq37, zq38, zq4m, zq40, zq41, zq42, zq43, zq45, zq46, zq47, zq48, zq5m, zq50, zq51, zq52, zq53, zq54, zq56, zq57, zq58, zq6m, zq60, zq61, zq62, zq63, zq64, zq65, zq67, zq68, zq7m, zq70, zq71, zq72, zq73, zq74, zq75, zq76, zq78, zq8m, zq80, zq81, zq82, zq83, zq84, zq85, zq86, zq87, m_next hL h120 hs, m_next hL h120 a1.2, m_isNumber, q1, q2, b2i, f7]
  · rw [if_neg q1]
    refine ⟨S, ?_⟩
    rw [Ec_go rfl]; show Rn 208 (0, [some (.ref 50), none], [], a, mw h S K B A (rY (bA L Y) L Y s fa)) = _
    simp only [r208_0, r208_1, r208_4, r208_5, r208_6, r208_8, r208_11, r208_14, r208_15, r208_16, r208_17, r208_20, r208_21, r208_22, r208_25, r208_26, r208_27, r208_29, r208_32, r208_35, r208_36, r208_37, r208_38, r208_41, r208_42, r208_45, r208_46, r208_47, r208_48, r208_51, r208_54, r208_55, r208_58, r208_59, Nl_none, Nl_int, Nl_ref, Nl_null, Kv_some, Ki_some, Kh_some, Bk_some, Bk_void, ↓reduceIte, mrt10, mrt11, zl2, zl3, zl4, zl8, Bool.false_eq_true, my_s, my_mis, my_kept, my_before, my_aside, my_isKept, my_findings, my_tape, my_taped, my_bitsOf, my_sizes, my_numbers, my_fitting, my_leastFit, my_token, my_from, my_to, my_value, my_faultAt, Int32.reduceAdd, Int32.reduceSub, Int32.reduceMul, Int32.reduceLT, zqm0, zqm1, zqm2, zqm3, zqm4, zqm5, zqm6, zqm7, zqm8, zq0m, zq01, zq02, zq03, zq04, zq05, zq06, zq07, zq08, zq1m, zq10, zq12, zq13, zq14, zq15, zq16, zq17, zq18, zq2m, zq20, zq21, zq23, zq24, zq25, zq26, zq27, zq28, zq3m, zq30, zq31, zq32, zq34, zq35, zq36, zq37, zq38, zq4m, zq40, zq41, zq42, zq43, zq45, zq46, zq47, zq48, zq5m, zq50, zq51, zq52, zq53, zq54, zq56, zq57, zq58, zq6m, zq60, zq61, zq62, zq63, zq64, zq65, zq67, zq68, zq7m, zq70, zq71, zq72, zq73, zq74, zq75, zq76, zq78, zq8m, zq80, zq81, zq82, zq83, zq84, zq85, zq86, zq87, m_next hL h120 hs, m_isNumber, q1, b2i]
theorem RPo.bk {M pc : Nat} {r : PR} {o o' : Option MR} (h1 : RPo (bA L Y) L Y a h K B A r fa o) (h2 : ∀ v a h, o = some (some (.int v), a, h) → (v = 0 ∨ v = 1) → o' = some (some (.int v), a, h)) : RPo (bA L Y) L Y a h K B A r fa o' := by
  cases r with
  | inl e => obtain ⟨S', e⟩ := h1; exact ⟨S', h2 _ _ _ e (Or.inl rfl)⟩
  | inr r => exact h2 _ _ _ h1 (Or.inr rfl)
theorem mrt_01 {v : Int32} (h : v = 0 ∨ v = 1) : (mrt 1 v = true) = True := by
  rcases h with rfl | rfl <;> decide
theorem wd3 {c1 c2 c3 : Int32} : wdB (bA L Y) L s [c1, c2, c3] = ((decide (kc (bA L Y) s = 1) && decide (en (bA L Y) L s = s + 3)) && mtB (bA L Y) (s + 0) [c1, c2, c3]) := by
  unfold wdB
  simp only [List.length, Nat.reduceAdd, Nat.add_zero, Bool.and_assoc]
theorem m_itemHere (hL : Y 1 = Int32.ofNat L) (h120 : L ≤ 120) (hs : s ≤ L) (ok : Ok n S) : RPo (bA L Y) L Y a h K B A (itP (bA L Y) L n S s) fa (Ec 209 [.ref 50] a (mw h S K B A (rY (bA L Y) L Y s fa))) := by
  unfold itP
  by_cases q : kwS (bA L Y) L s < 0
  · rw [if_pos q]
    by_cases q1 : wdB (bA L Y) L s wDye = true
    · rw [if_pos q1]
      refine RPo.bk (M := 0) (pc := 0) (m_dyeHere (h := h) (a := a) (K := K) (B := B) (A := A) hL h120 hs) (fun v a' h' e hv => ?_)
      rw [wd3, Bool.and_eq_true] at q1
      rw [Ec_go rfl]; show Rn 209 (0, [some (.ref 50), none], [], a, mw h S K B A (rY (bA L Y) L Y s fa)) = _
      simp only [r209_0, r209_1, r209_4, r209_5, r209_6, r209_9, r209_10, r209_11, r209_14, r209_15, r209_16, r209_17, r209_20, r209_23, r209_24, r209_25, r209_27, r209_29, r209_31, r209_34, r209_37, r209_38, r209_41, r209_42, r209_43, r209_44, r209_47, r209_50, r209_51, r209_52, r209_54, r209_56, r209_58, r209_61, r209_64, r209_65, r209_66, r209_67, r209_69, r209_72, r209_73, r209_74, r209_76, r209_78, r209_80, r209_82, r209_85, r209_88, r209_89, r209_92, r209_95, r209_96, r209_99, Nl_none, Nl_int, Nl_ref, Nl_null, Kv_some, Ki_some, Kh_some, Bk_some, Bk_void, ↓reduceIte, mrt10, mrt11, zl2, zl3, zl4, zl8, Bool.false_eq_true, my_s, my_mis, my_kept, my_before, my_aside, my_isKept, my_findings, my_tape, my_taped, my_bitsOf, my_sizes, my_numbers, my_fitting, my_leastFit, my_token, my_from, my_to, my_value, my_faultAt, Int32.reduceAdd, Int32.reduceSub, Int32.reduceMul, Int32.reduceLT, zqm0, zqm1, zqm2, zqm3, zqm4, zqm5, zqm6, zqm7, zqm8, zq0m, zq01, zq02, zq03, zq04, zq05, zq06, zq07, zq08, zq1m, zq10, zq12, zq13, zq14, zq15, zq16, zq17, zq18, zq2m, zq20, zq21, zq23, zq24, zq25, zq26, zq27, zq28, zq3m, zq30, zq31, zq32, zq34, zq35, zq36, zq37, zq38, zq4m, zq40, zq41, zq42, zq43, zq45, zq46, zq47, zq48, zq5m, zq50, zq51, zq52, zq53, zq54, zq56, zq57, zq58, zq6m, zq60, zq61, zq62, zq63, zq64, zq65, zq67, zq68, zq7m, zq70, zq71, zq72, zq73, zq74, zq75, zq76, zq78, zq8m, zq80, zq81, zq82, zq83, zq84, zq85, zq86, zq87, m_kindHere hL h120 hs, q, m_isWord_3 hs h120, m_has3_0 hL h120 hs, q1.1, q1.2, b2i, e, mrt_01 hv]
    rw [if_neg q1]
    by_cases q2 : wdB (bA L Y) L s wLye = true
    · rw [if_pos q2]
      refine RPo.bk (M := 0) (pc := 0) (m_perhapsT (p := 3) (h := h) (a := a) (K := K) (B := B) (A := A) hL h120 hs (by decide)) (fun v a' h' e hv => ?_)
      have e : Ec 205 [.ref 50, .int 1, .int 3, .int 9] a (mw h S K B A (rY (bA L Y) L Y s fa)) = _ := e
      rw [wd3, Bool.and_eq_true] at q2
      rw [wd3, q2.1, Bool.true_and] at q1
      rw [Ec_go rfl]; show Rn 209 (0, [some (.ref 50), none], [], a, mw h S K B A (rY (bA L Y) L Y s fa)) = _
      simp only [r209_0, r209_1, r209_4, r209_5, r209_6, r209_9, r209_10, r209_11, r209_14, r209_15, r209_16, r209_17, r209_20, r209_23, r209_24, r209_25, r209_27, r209_29, r209_31, r209_34, r209_37, r209_38, r209_41, r209_42, r209_43, r209_44, r209_47, r209_50, r209_51, r209_52, r209_54, r209_56, r209_58, r209_61, r209_64, r209_65, r209_66, r209_67, r209_69, r209_72, r209_73, r209_74, r209_76, r209_78, r209_80, r209_82, r209_85, r209_88, r209_89, r209_92, r209_95, r209_96, r209_99, Nl_none, Nl_int, Nl_ref, Nl_null, Kv_some, Ki_some, Kh_some, Bk_some, Bk_void, ↓reduceIte, mrt10, mrt11, zl2, zl3, zl4, zl8, Bool.false_eq_true, my_s, my_mis, my_kept, my_before, my_aside, my_isKept, my_findings, my_tape, my_taped, my_bitsOf, my_sizes, my_numbers, my_fitting, my_leastFit, my_token, my_from, my_to, my_value, my_faultAt, Int32.reduceAdd, Int32.reduceSub, Int32.reduceMul, Int32.reduceLT, zqm0, zqm1, zqm2, zqm3, zqm4, zqm5, zqm6, zqm7, zqm8, zq0m, zq01, zq02, zq03, zq04, zq05, zq06, zq07, zq08, zq1m, zq10, zq12, zq13, zq14, zq15, zq16, zq17, zq18, zq2m, zq20, zq21, zq23, zq24, zq25, zq26, zq27, zq28, zq3m, zq30, zq31, zq32, zq34, zq35, zq36, zq37, zq38, zq4m, zq40, zq41, zq42, zq43, zq45, zq46, zq47, zq48, zq5m, zq50, zq51, zq52, zq53, zq54, zq56, zq57, zq58, zq6m, zq60, zq61, zq62, zq63, zq64, zq65, zq67, zq68, zq7m, zq70, zq71, zq72, zq73, zq74, zq75, zq76, zq78, zq8m, zq80, zq81, zq82, zq83, zq84, zq85, zq86, zq87, m_kindHere hL h120 hs, q, m_isWord_3 hs h120, m_has3_0 hL h120 hs, q1, q2.1, q2.2, b2i, e, mrt_01 hv]
    rw [if_neg q2]
    have hw : ∀ {α : Type} {u v : α}, (if (decide (kc (bA L Y) s = 1) && decide (en (bA L Y) L s = s + 3)) = true then (if mtB (bA L Y) (s + 0) wDye = true then u else v) else v) = v := by
      intro α u v
      rw [wd3, Bool.and_eq_true] at q1
      split
      · rename_i z; rw [if_neg (fun y => q1 ⟨z, y⟩)]
      · rfl
    by_cases q3 : wdB (bA L Y) L s wStir = true
    · rw [if_pos q3]
      refine RPo.bk (M := 0) (pc := 0) (m_stirHere (h := h) (a := a) (K := K) (B := B) (A := A) hL h120 hs ok) (fun v a' h' e hv => ?_)
      have w4 := wd_en q3
      have n3 : ¬ (decide (kc (bA L Y) s = 1) && decide (en (bA L Y) L s = s + 3)) = true := by
        intro z
        simp only [Bool.and_eq_true, decide_eq_true_eq] at z
        have : en (bA L Y) L s = s + 4 := w4
        omega
      rw [Ec_go rfl]; show Rn 209 (0, [some (.ref 50), none], [], a, mw h S K B A (rY (bA L Y) L Y s fa)) = _
      simp only [r209_0, r209_1, r209_4, r209_5, r209_6, r209_9, r209_10, r209_11, r209_14, r209_15, r209_16, r209_17, r209_20, r209_23, r209_24, r209_25, r209_27, r209_29, r209_31, r209_34, r209_37, r209_38, r209_41, r209_42, r209_43, r209_44, r209_47, r209_50, r209_51, r209_52, r209_54, r209_56, r209_58, r209_61, r209_64, r209_65, r209_66, r209_67, r209_69, r209_72, r209_73, r209_74, r209_76, r209_78, r209_80, r209_82, r209_85, r209_88, r209_89, r209_92, r209_95, r209_96, r209_99, Nl_none, Nl_int, Nl_ref, Nl_null, Kv_some, Ki_some, Kh_some, Bk_some, Bk_void, ↓reduceIte, mrt10, mrt11, zl2, zl3, zl4, zl8, Bool.false_eq_true, my_s, my_mis, my_kept, my_before, my_aside, my_isKept, my_findings, my_tape, my_taped, my_bitsOf, my_sizes, my_numbers, my_fitting, my_leastFit, my_token, my_from, my_to, my_value, my_faultAt, Int32.reduceAdd, Int32.reduceSub, Int32.reduceMul, Int32.reduceLT, zqm0, zqm1, zqm2, zqm3, zqm4, zqm5, zqm6, zqm7, zqm8, zq0m, zq01, zq02, zq03, zq04, zq05, zq06, zq07, zq08, zq1m, zq10, zq12, zq13, zq14, zq15, zq16, zq17, zq18, zq2m, zq20, zq21, zq23, zq24, zq25, zq26, zq27, zq28, zq3m, zq30, zq31, zq32, zq34, zq35, zq36, zq37, zq38, zq4m, zq40, zq41, zq42, zq43, zq45, zq46, zq47, zq48, zq5m, zq50, zq51, zq52, zq53, zq54, zq56, zq57, zq58, zq6m, zq60, zq61, zq62, zq63, zq64, zq65, zq67, zq68, zq7m, zq70, zq71, zq72, zq73, zq74, zq75, zq76, zq78, zq8m, zq80, zq81, zq82, zq83, zq84, zq85, zq86, zq87, m_kindHere hL h120 hs, q, m_isWord_3 hs h120, m_isFour hL h120 hs, n3, q3, b2i, e, mrt_01 hv]
    · rw [if_neg q3]
      refine ⟨S, ?_⟩
      rw [Ec_go rfl]; show Rn 209 (0, [some (.ref 50), none], [], a, mw h S K B A (rY (bA L Y) L Y s fa)) = _
      by_cases n3 : (decide (kc (bA L Y) s = 1) && decide (en (bA L Y) L s = s + 3)) = true
      · rw [wd3, n3, Bool.true_and] at q1 q2
        simp only [r209_0, r209_1, r209_4, r209_5, r209_6, r209_9, r209_10, r209_11, r209_14, r209_15, r209_16, r209_17, r209_20, r209_23, r209_24, r209_25, r209_27, r209_29, r209_31, r209_34, r209_37, r209_38, r209_41, r209_42, r209_43, r209_44, r209_47, r209_50, r209_51, r209_52, r209_54, r209_56, r209_58, r209_61, r209_64, r209_65, r209_66, r209_67, r209_69, r209_72, r209_73, r209_74, r209_76, r209_78, r209_80, r209_82, r209_85, r209_88, r209_89, r209_92, r209_95, r209_96, r209_99, Nl_none, Nl_int, Nl_ref, Nl_null, Kv_some, Ki_some, Kh_some, Bk_some, Bk_void, ↓reduceIte, mrt10, mrt11, zl2, zl3, zl4, zl8, Bool.false_eq_true, my_s, my_mis, my_kept, my_before, my_aside, my_isKept, my_findings, my_tape, my_taped, my_bitsOf, my_sizes, my_numbers, my_fitting, my_leastFit, my_token, my_from, my_to, my_value, my_faultAt, Int32.reduceAdd, Int32.reduceSub, Int32.reduceMul, Int32.reduceLT, zqm0, zqm1, zqm2, zqm3, zqm4, zqm5, zqm6, zqm7, zqm8, zq0m, zq01, zq02, zq03, zq04, zq05, zq06, zq07, zq08, zq1m, zq10, zq12, zq13, zq14, zq15, zq16, zq17, zq18, zq2m, zq20, zq21, zq23, zq24, zq25, zq26, zq27, zq28, zq3m, zq30, zq31, zq32, zq34, zq35, zq36, zq37, zq38, zq4m, zq40, zq41, zq42, zq43, zq45, zq46, zq47, zq48, zq5m, zq50, zq51, zq52, zq53, zq54, zq56, zq57, zq58, zq6m, zq60, zq61, zq62, zq63, zq64, zq65, zq67, zq68, zq7m, zq70, zq71, zq72, zq73, zq74, zq75, zq76, zq78, zq8m, zq80, zq81, zq82, zq83, zq84, zq85, zq86, zq87, m_kindHere hL h120 hs, q, m_isWord_3 hs h120, m_has3_0 hL h120 hs, m_isFour hL h120 hs, n3, q1, q2, q3, b2i, m_fails]
      · simp only [r209_0, r209_1, r209_4, r209_5, r209_6, r209_9, r209_10, r209_11, r209_14, r209_15, r209_16, r209_17, r209_20, r209_23, r209_24, r209_25, r209_27, r209_29, r209_31, r209_34, r209_37, r209_38, r209_41, r209_42, r209_43, r209_44, r209_47, r209_50, r209_51, r209_52, r209_54, r209_56, r209_58, r209_61, r209_64, r209_65, r209_66, r209_67, r209_69, r209_72, r209_73, r209_74, r209_76, r209_78, r209_80, r209_82, r209_85, r209_88, r209_89, r209_92, r209_95, r209_96, r209_99, Nl_none, Nl_int, Nl_ref, Nl_null, Kv_some, Ki_some, Kh_some, Bk_some, Bk_void, ↓reduceIte, mrt10, mrt11, zl2, zl3, zl4, zl8, Bool.false_eq_true, my_s, my_mis, my_kept, my_before, my_aside, my_isKept, my_findings, my_tape, my_taped, my_bitsOf, my_sizes, my_numbers, my_fitting, my_leastFit, my_token, my_from, my_to, my_value, my_faultAt, Int32.reduceAdd, Int32.reduceSub, Int32.reduceMul, Int32.reduceLT, zqm0, zqm1, zqm2, zqm3, zqm4, zqm5, zqm6, zqm7, zqm8, zq0m, zq01, zq02, zq03, zq04, zq05, zq06, zq07, zq08, zq1m, zq10, zq12, zq13, zq14, zq15, zq16, zq17, zq18, zq2m, zq20, zq21, zq23, zq24, zq25, zq26, zq27, zq28, zq3m, zq30, zq31, zq32, zq34, zq35, zq36, zq37, zq38, zq4m, zq40, zq41, zq42, zq43, zq45, zq46, zq47, zq48, zq5m, zq50, zq51, zq52, zq53, zq54, zq56, zq57, zq58, zq6m, zq60, zq61, zq62, zq63, zq64, zq65, zq67, zq68, zq7m, zq70, zq71, zq72, zq73, zq74, zq75, zq76, zq78, zq8m, zq80, zq81, zq82, zq83, zq84, zq85, zq86, zq87, m_kindHere hL h120 hs, q, m_isWord_3 hs h120, m_has3_0 hL h120 hs, m_isFour hL h120 hs, n3, q3, b2i, m_fails]
  · rw [if_neg q]
    refine RPo.bk (M := 0) (pc := 0) (m_thingHere (h := h) (a := a) (K := K) (B := B) (A := A) hL h120 hs ok) (fun v a' h' e hv => ?_)
    rw [Ec_go rfl]; show Rn 209 (0, [some (.ref 50), none], [], a, mw h S K B A (rY (bA L Y) L Y s fa)) = _
    simp only [r209_0, r209_1, r209_4, r209_5, r209_6, r209_9, r209_10, r209_11, r209_14, r209_15, r209_16, r209_17, r209_20, r209_23, r209_24, r209_25, r209_27, r209_29, r209_31, r209_34, r209_37, r209_38, r209_41, r209_42, r209_43, r209_44, r209_47, r209_50, r209_51, r209_52, r209_54, r209_56, r209_58, r209_61, r209_64, r209_65, r209_66, r209_67, r209_69, r209_72, r209_73, r209_74, r209_76, r209_78, r209_80, r209_82, r209_85, r209_88, r209_89, r209_92, r209_95, r209_96, r209_99, Nl_none, Nl_int, Nl_ref, Nl_null, Kv_some, Ki_some, Kh_some, Bk_some, Bk_void, ↓reduceIte, mrt10, mrt11, zl2, zl3, zl4, zl8, Bool.false_eq_true, my_s, my_mis, my_kept, my_before, my_aside, my_isKept, my_findings, my_tape, my_taped, my_bitsOf, my_sizes, my_numbers, my_fitting, my_leastFit, my_token, my_from, my_to, my_value, my_faultAt, Int32.reduceAdd, Int32.reduceSub, Int32.reduceMul, Int32.reduceLT, zqm0, zqm1, zqm2, zqm3, zqm4, zqm5, zqm6, zqm7, zqm8, zq0m, zq01, zq02, zq03, zq04, zq05, zq06, zq07, zq08, zq1m, zq10, zq12, zq13, zq14, zq15, zq16, zq17, zq18, zq2m, zq20, zq21, zq23, zq24, zq25, zq26, zq27, zq28, zq3m, zq30, zq31, zq32, zq34, zq35, zq36, zq37, zq38, zq4m, zq40, zq41, zq42, zq43, zq45, zq46, zq47, zq48, zq5m, zq50, zq51, zq52, zq53, zq54, zq56, zq57, zq58, zq6m, zq60, zq61, zq62, zq63, zq64, zq65, zq67, zq68, zq7m, zq70, zq71, zq72, zq73, zq74, zq75, zq76, zq78, zq8m, zq80, zq81, zq82, zq83, zq84, zq85, zq86, zq87, m_kindHere hL h120 hs, q, e, mrt_01 hv]
def TXo (a : MA) (h : MH) (K B A Y : TS) (r : Nat ⊕ (Nat × TS × Nat)) (o : Option MR) : Prop := ∃ Y', (∀ k, (k < 2 ∨ 9 ≤ k) → Y' k = mfu Y 1 0 k) ∧ match r with
  | .inl e => o = some (some (.int (-1 - Int32.ofNat e)), a, mw h B K B A Y')
  | .inr (i, T, _) => o = some (some (.int (Int32.ofNat i)), a, mw h T K B A Y')
theorem ry_mfu1 {c d e f g : Int32} : ∀ k, (k < 2 ∨ 9 ≤ k) → mfu (ry Y c d e f g) 1 0 k = mfu Y 1 0 k := fun k hk => by
  unfold mfu
  by_cases q : k = 1
  · rw [if_pos q, if_pos q]
  · rw [if_neg q, if_neg q, ry_o (by omega)]
theorem it_kc {T T' : TS} {s' : Nat} (hs : s ≤ L) (ok : Ok n T) (e : itP (bA L Y) L n T s = .inr (T', s')) : s < s' ∧ s' ≤ L ∧ Ok (nIt (bA L Y) L n s) T' := by
  have z := sr_it (g := bA L Y) bA_hi hs ok
  rw [e] at z
  exact ⟨z.2.2.1, z.2.2.2, z.2.1⟩
theorem nx_gt {g : Nat → Int32} (hg : ∀ i, L ≤ i → g i = -1) (hs : s ≤ L) (h : kc g s = 3) : s + 1 ≤ nxT g L s ∧ nxT g L s ≤ L := by
  have e := sp_le (g := g) (en_le hg hs).2
  have e2 : en g L s = s + 1 := by unfold en; rw [h]; rfl
  have e : en g L s ≤ nxT g L s ∧ nxT g L s ≤ L := e
  exact ⟨by omega, e.2⟩
theorem m_textL (hL : Y 1 = Int32.ofNat L) (h120 : L ≤ 120) : ∀ (f i n : Nat) (T : TS) (s : Nat) (fa : Int32) (o : Option MR) (good : Int32) (hh : MH), Ok n T → s ≤ L → L ≤ s + 2 * f → i + f ≤ 200 → RPo (bA L Y) L Y a h K B A (itP (bA L Y) L n T s) fa (some (some (.int good), a, hh)) → TXo a h K B A Y (txP (bA L Y) L (f + 1) i n T s) (Rn 210 (27, [some (.ref 50), some (.int (Int32.ofNat i)), some (.int good)], [], a, hh)) := by
  intro f
  induction f with
  | zero =>
    intro i n T s fa o good hh ok hs hf hi r
    show TXo a h K B A Y (match itP (bA L Y) L n T s with
      | .inl e => .inl e
      | .inr (T', s') => if kc (bA L Y) s' = 0 then .inr (i, T', nIt (bA L Y) L n s) else if kc (bA L Y) s' = 3 then txP (bA L Y) L 0 (i + 1) (nIt (bA L Y) L n s) T' (nxT (bA L Y) L s') else .inl s') _
    cases c : itP (bA L Y) L n T s with
    | inl e =>
      rw [c] at r
      obtain ⟨S', r⟩ := r
      cases r
      refine ⟨mfu (rY (bA L Y) L Y e (Int32.ofNat e)) 1 0, ry_mfu1, ?_⟩
      have f8 : mfu (rY (bA L Y) L Y e (Int32.ofNat e)) 1 0 8 = Int32.ofNat e := rfl
      show _ = some (some (Value.int (-1 - Int32.ofNat e)), a, mw h B K B A _)
      simp only [r210_0, r210_1, r210_4, r210_5, r210_8, r210_11, r210_12, r210_13, r210_16, r210_17, r210_20, r210_21, r210_22, r210_23, r210_26, r210_27, r210_28, r210_31, r210_32, r210_35, r210_36, r210_39, r210_40, r210_43, r210_44, r210_47, r210_48, r210_51, r210_54, r210_55, r210_58, r210_59, r210_62, r210_65, r210_66, r210_69, r210_72, r210_73, r210_76, r210_77, r210_78, r210_79, r210_80, r210_83, r210_84, r210_87, r210_88, r210_91, r210_92, r210_95, r210_98, r210_99, r210_102, r210_103, r210_106, r210_107, r210_108, r210_111, r210_112, Nl_none, Nl_int, Nl_ref, Nl_null, Kv_some, Ki_some, Kh_some, Bk_some, Bk_void, ↓reduceIte, mrt10, mrt11, zl2, zl3, zl4, zl8, Bool.false_eq_true, my_s, my_mis, my_kept, my_before, my_aside, my_isKept, my_findings, my_tape, my_taped, my_bitsOf, my_sizes, my_numbers, my_fitting, my_leastFit, my_token, my_from, my_to, my_value, my_faultAt, Int32.reduceAdd, Int32.reduceSub, Int32.reduceMul, Int32.reduceLT, zqm0, zqm1, zqm2, zqm3, zqm4, zqm5, zqm6, zqm7, zqm8, zq0m, zq01, zq02, zq03, zq04, zq05, zq06, zq07, zq08, zq1m, zq10, zq12, zq13, zq14, zq15, zq16, zq17, zq18, zq2m, zq20, zq21, zq23, zq24, zq25, zq26, zq27, zq28, zq3m, zq30, zq31, zq32, zq34, zq35, zq36, zq37, zq38, zq4m, zq40, zq41, zq42, zq43, zq45, zq46, zq47, zq48, zq5m, zq50, zq51, zq52, zq53, zq54, zq56, zq57, zq58, zq6m, zq60, zq61, zq62, zq63, zq64, zq65, zq67, zq68, zq7m, zq70, zq71, zq72, zq73, zq74, zq75, zq76, zq78, zq8m, zq80, zq81, zq82, zq83, zq84, zq85, zq86, zq87, mp_taped, mc_bs, f8]
    | inr r' =>
      obtain ⟨T', s'⟩ := r'
      have z := it_kc hs ok c
      omega
  | succ f ih =>
    intro i n T s fa o good hh ok hs hf hi r
    show TXo a h K B A Y (match itP (bA L Y) L n T s with
      | .inl e => .inl e
      | .inr (T', s') => if kc (bA L Y) s' = 0 then .inr (i, T', nIt (bA L Y) L n s) else if kc (bA L Y) s' = 3 then txP (bA L Y) L (f + 1) (i + 1) (nIt (bA L Y) L n s) T' (nxT (bA L Y) L s') else .inl s') _
    cases c : itP (bA L Y) L n T s with
    | inl e =>
      rw [c] at r
      obtain ⟨S', r⟩ := r
      cases r
      refine ⟨mfu (rY (bA L Y) L Y e (Int32.ofNat e)) 1 0, ry_mfu1, ?_⟩
      have f8 : mfu (rY (bA L Y) L Y e (Int32.ofNat e)) 1 0 8 = Int32.ofNat e := rfl
      show _ = some (some (Value.int (-1 - Int32.ofNat e)), a, mw h B K B A _)
      simp only [r210_0, r210_1, r210_4, r210_5, r210_8, r210_11, r210_12, r210_13, r210_16, r210_17, r210_20, r210_21, r210_22, r210_23, r210_26, r210_27, r210_28, r210_31, r210_32, r210_35, r210_36, r210_39, r210_40, r210_43, r210_44, r210_47, r210_48, r210_51, r210_54, r210_55, r210_58, r210_59, r210_62, r210_65, r210_66, r210_69, r210_72, r210_73, r210_76, r210_77, r210_78, r210_79, r210_80, r210_83, r210_84, r210_87, r210_88, r210_91, r210_92, r210_95, r210_98, r210_99, r210_102, r210_103, r210_106, r210_107, r210_108, r210_111, r210_112, Nl_none, Nl_int, Nl_ref, Nl_null, Kv_some, Ki_some, Kh_some, Bk_some, Bk_void, ↓reduceIte, mrt10, mrt11, zl2, zl3, zl4, zl8, Bool.false_eq_true, my_s, my_mis, my_kept, my_before, my_aside, my_isKept, my_findings, my_tape, my_taped, my_bitsOf, my_sizes, my_numbers, my_fitting, my_leastFit, my_token, my_from, my_to, my_value, my_faultAt, Int32.reduceAdd, Int32.reduceSub, Int32.reduceMul, Int32.reduceLT, zqm0, zqm1, zqm2, zqm3, zqm4, zqm5, zqm6, zqm7, zqm8, zq0m, zq01, zq02, zq03, zq04, zq05, zq06, zq07, zq08, zq1m, zq10, zq12, zq13, zq14, zq15, zq16, zq17, zq18, zq2m, zq20, zq21, zq23, zq24, zq25, zq26, zq27, zq28, zq3m, zq30, zq31, zq32, zq34, zq35, zq36, zq37, zq38, zq4m, zq40, zq41, zq42, zq43, zq45, zq46, zq47, zq48, zq5m, zq50, zq51, zq52, zq53, zq54, zq56, zq57, zq58, zq6m, zq60, zq61, zq62, zq63, zq64, zq65, zq67, zq68, zq7m, zq70, zq71, zq72, zq73, zq74, zq75, zq76, zq78, zq8m, zq80, zq81, zq82, zq83, zq84, zq85, zq86, zq87, mp_taped, mc_bs, f8]
    | inr r' =>
      obtain ⟨T', s'⟩ := r'
      have z := it_kc hs ok c
      rw [c] at r
      cases r
      have f4 : rY (bA L Y) L Y s' fa 4 = kc (bA L Y) s' := rfl
      show TXo a h K B A Y (if kc (bA L Y) s' = 0 then .inr (i, T', nIt (bA L Y) L n s) else if kc (bA L Y) s' = 3 then txP (bA L Y) L (f + 1) (i + 1) (nIt (bA L Y) L n s) T' (nxT (bA L Y) L s') else .inl s') _
      by_cases k0 : kc (bA L Y) s' = 0
      · rw [if_pos k0]
        refine ⟨mfu (rY (bA L Y) L Y s' fa) 1 0, ry_mfu1, ?_⟩
        show _ = some (some (Value.int (Int32.ofNat i)), a, mw h T' K B A _)
        simp only [r210_0, r210_1, r210_4, r210_5, r210_8, r210_11, r210_12, r210_13, r210_16, r210_17, r210_20, r210_21, r210_22, r210_23, r210_26, r210_27, r210_28, r210_31, r210_32, r210_35, r210_36, r210_39, r210_40, r210_43, r210_44, r210_47, r210_48, r210_51, r210_54, r210_55, r210_58, r210_59, r210_62, r210_65, r210_66, r210_69, r210_72, r210_73, r210_76, r210_77, r210_78, r210_79, r210_80, r210_83, r210_84, r210_87, r210_88, r210_91, r210_92, r210_95, r210_98, r210_99, r210_102, r210_103, r210_106, r210_107, r210_108, r210_111, r210_112, Nl_none, Nl_int, Nl_ref, Nl_null, Kv_some, Ki_some, Kh_some, Bk_some, Bk_void, ↓reduceIte, mrt10, mrt11, zl2, zl3, zl4, zl8, Bool.false_eq_true, my_s, my_mis, my_kept, my_before, my_aside, my_isKept, my_findings, my_tape, my_taped, my_bitsOf, my_sizes, my_numbers, my_fitting, my_leastFit, my_token, my_from, my_to, my_value, my_faultAt, Int32.reduceAdd, Int32.reduceSub, Int32.reduceMul, Int32.reduceLT, zqm0, zqm1, zqm2, zqm3, zqm4, zqm5, zqm6, zqm7, zqm8, zq0m, zq01, zq02, zq03, zq04, zq05, zq06, zq07, zq08, zq1m, zq10, zq12, zq13, zq14, zq15, zq16, zq17, zq18, zq2m, zq20, zq21, zq23, zq24, zq25, zq26, zq27, zq28, zq3m, zq30, zq31, zq32, zq34, zq35, zq36, zq37, zq38, zq4m, zq40, zq41, zq42, zq43, zq45, zq46, zq47, zq48, zq5m, zq50, zq51, zq52, zq53, zq54, zq56, zq57, zq58, zq6m, zq60, zq61, zq62, zq63, zq64, zq65, zq67, zq68, zq7m, zq70, zq71, zq72, zq73, zq74, zq75, zq76, zq78, zq8m, zq80, zq81, zq82, zq83, zq84, zq85, zq86, zq87, f4, k0, mp_taped]
      rw [if_neg k0]
      by_cases k3 : kc (bA L Y) s' = 3
      · rw [if_pos k3]
        have g := nx_gt (L := L) (g := bA L Y) bA_hi z.2.1 k3
        have it := m_itemHere (a := a) (h := h) (S := T') (K := K) (B := B) (A := A) (fa := fa) hL h120 g.2 z.2.2
        cases c2 : itP (bA L Y) L (nIt (bA L Y) L n s) T' (nxT (bA L Y) L s') with
        | inl e =>
          rw [c2] at it
          obtain ⟨S', it⟩ := it
          have := ih (i + 1) (nIt (bA L Y) L n s) T' (nxT (bA L Y) L s') fa none 0 (mw h S' K B A (rY (bA L Y) L Y e (Int32.ofNat e))) z.2.2 g.2 (by omega) (by omega) (by rw [c2]; exact ⟨S', rfl⟩)
          rw [r210_27]
          simp only [r210_0, r210_1, r210_4, r210_5, r210_8, r210_11, r210_12, r210_13, r210_16, r210_17, r210_20, r210_21, r210_22, r210_23, r210_26, r210_28, r210_31, r210_32, r210_35, r210_36, r210_39, r210_40, r210_43, r210_44, r210_47, r210_48, r210_51, r210_54, r210_55, r210_58, r210_59, r210_62, r210_65, r210_66, r210_69, r210_72, r210_73, r210_76, r210_77, r210_78, r210_79, r210_80, r210_83, r210_84, r210_87, r210_88, r210_91, r210_92, r210_95, r210_98, r210_99, r210_102, r210_103, r210_106, r210_107, r210_108, r210_111, r210_112, Nl_none, Nl_int, Nl_ref, Nl_null, Kv_some, Ki_some, Kh_some, Bk_some, Bk_void, ↓reduceIte, mrt10, mrt11, zl2, zl3, zl4, zl8, Bool.false_eq_true, my_s, my_mis, my_kept, my_before, my_aside, my_isKept, my_findings, my_tape, my_taped, my_bitsOf, my_sizes, my_numbers, my_fitting, my_leastFit, my_token, my_from, my_to, my_value, my_faultAt, Int32.reduceAdd, Int32.reduceSub, Int32.reduceMul, Int32.reduceLT, zqm0, zqm1, zqm2, zqm3, zqm4, zqm5, zqm6, zqm7, zqm8, zq0m, zq01, zq02, zq03, zq04, zq05, zq06, zq07, zq08, zq1m, zq10, zq12, zq13, zq14, zq15, zq16, zq17, zq18, zq2m, zq20, zq21, zq23, zq24, zq25, zq26, zq27, zq28, zq3m, zq30, zq31, zq32, zq34, zq35, zq36, zq37, zq38, zq4m, zq40, zq41, zq42, zq43, zq45, zq46, zq47, zq48, zq5m, zq50, zq51, zq52, zq53, zq54, zq56, zq57, zq58, zq6m, zq60, zq61, zq62, zq63, zq64, zq65, zq67, zq68, zq7m, zq70, zq71, zq72, zq73, zq74, zq75, zq76, zq78, zq8m, zq80, zq81, zq82, zq83, zq84, zq85, zq86, zq87, f4, k3, m_next hL h120 z.2.1, it, of_in]
          exact this
        | inr r2 =>
          obtain ⟨T2, s2⟩ := r2
          rw [c2] at it
          have it : Ec 209 [.ref 50] a (mw h T' K B A (rY (bA L Y) L Y (nxT (bA L Y) L s') fa)) = some (some (.int 1), a, mw h T2 K B A (rY (bA L Y) L Y s2 fa)) := it
          have := ih (i + 1) (nIt (bA L Y) L n s) T' (nxT (bA L Y) L s') fa none 1 (mw h T2 K B A (rY (bA L Y) L Y s2 fa)) z.2.2 g.2 (by omega) (by omega) (by rw [c2]; exact rfl)
          rw [r210_27]
          simp only [r210_0, r210_1, r210_4, r210_5, r210_8, r210_11, r210_12, r210_13, r210_16, r210_17, r210_20, r210_21, r210_22, r210_23, r210_26, r210_28, r210_31, r210_32, r210_35, r210_36, r210_39, r210_40, r210_43, r210_44, r210_47, r210_48, r210_51, r210_54, r210_55, r210_58, r210_59, r210_62, r210_65, r210_66, r210_69, r210_72, r210_73, r210_76, r210_77, r210_78, r210_79, r210_80, r210_83, r210_84, r210_87, r210_88, r210_91, r210_92, r210_95, r210_98, r210_99, r210_102, r210_103, r210_106, r210_107, r210_108, r210_111, r210_112, Nl_none, Nl_int, Nl_ref, Nl_null, Kv_some, Ki_some, Kh_some, Bk_some, Bk_void, ↓reduceIte, mrt10, mrt11, zl2, zl3, zl4, zl8, Bool.false_eq_true, my_s, my_mis, my_kept, my_before, my_aside, my_isKept, my_findings, my_tape, my_taped, my_bitsOf, my_sizes, my_numbers, my_fitting, my_leastFit, my_token, my_from, my_to, my_value, my_faultAt, Int32.reduceAdd, Int32.reduceSub, Int32.reduceMul, Int32.reduceLT, zqm0, zqm1, zqm2, zqm3, zqm4, zqm5, zqm6, zqm7, zqm8, zq0m, zq01, zq02, zq03, zq04, zq05, zq06, zq07, zq08, zq1m, zq10, zq12, zq13, zq14, zq15, zq16, zq17, zq18, zq2m, zq20, zq21, zq23, zq24, zq25, zq26, zq27, zq28, zq3m, zq30, zq31, zq32, zq34, zq35, zq36, zq37, zq38, zq4m, zq40, zq41, zq42, zq43, zq45, zq46, zq47, zq48, zq5m, zq50, zq51, zq52, zq53, zq54, zq56, zq57, zq58, zq6m, zq60, zq61, zq62, zq63, zq64, zq65, zq67, zq68, zq7m, zq70, zq71, zq72, zq73, zq74, zq75, zq76, zq78, zq8m, zq80, zq81, zq82, zq83, zq84, zq85, zq86, zq87, f4, k3, m_next hL h120 z.2.1, it, of_in]
          exact this
      · rw [if_neg k3]
        refine ⟨mfu (rY (bA L Y) L Y s' (Int32.ofNat s')) 1 0, ry_mfu1, ?_⟩
        have f8 : mfu (rY (bA L Y) L Y s' (Int32.ofNat s')) 1 0 8 = Int32.ofNat s' := rfl
        show _ = some (some (Value.int (-1 - Int32.ofNat s')), a, mw h B K B A _)
        simp only [r210_0, r210_1, r210_4, r210_5, r210_8, r210_11, r210_12, r210_13, r210_16, r210_17, r210_20, r210_21, r210_22, r210_23, r210_26, r210_27, r210_28, r210_31, r210_32, r210_35, r210_36, r210_39, r210_40, r210_43, r210_44, r210_47, r210_48, r210_51, r210_54, r210_55, r210_58, r210_59, r210_62, r210_65, r210_66, r210_69, r210_72, r210_73, r210_76, r210_77, r210_78, r210_79, r210_80, r210_83, r210_84, r210_87, r210_88, r210_91, r210_92, r210_95, r210_98, r210_99, r210_102, r210_103, r210_106, r210_107, r210_108, r210_111, r210_112, Nl_none, Nl_int, Nl_ref, Nl_null, Kv_some, Ki_some, Kh_some, Bk_some, Bk_void, ↓reduceIte, mrt10, mrt11, zl2, zl3, zl4, zl8, Bool.false_eq_true, my_s, my_mis, my_kept, my_before, my_aside, my_isKept, my_findings, my_tape, my_taped, my_bitsOf, my_sizes, my_numbers, my_fitting, my_leastFit, my_token, my_from, my_to, my_value, my_faultAt, Int32.reduceAdd, Int32.reduceSub, Int32.reduceMul, Int32.reduceLT, zqm0, zqm1, zqm2, zqm3, zqm4, zqm5, zqm6, zqm7, zqm8, zq0m, zq01, zq02, zq03, zq04, zq05, zq06, zq07, zq08, zq1m, zq10, zq12, zq13, zq14, zq15, zq16, zq17, zq18, zq2m, zq20, zq21, zq23, zq24, zq25, zq26, zq27, zq28, zq3m, zq30, zq31, zq32, zq34, zq35, zq36, zq37, zq38, zq4m, zq40, zq41, zq42, zq43, zq45, zq46, zq47, zq48, zq5m, zq50, zq51, zq52, zq53, zq54, zq56, zq57, zq58, zq6m, zq60, zq61, zq62, zq63, zq64, zq65, zq67, zq68, zq7m, zq70, zq71, zq72, zq73, zq74, zq75, zq76, zq78, zq8m, zq80, zq81, zq82, zq83, zq84, zq85, zq86, zq87, f4, if_neg k0, if_neg k3, mp_taped, mc_bs, m_fails, f8]
def txR (L n : Nat) (Y T : TS) : Nat ⊕ (Nat × TS × Nat) := txP (bA L Y) L 61 1 n T (sp (bA L Y) L 0)
theorem mo_text (hL : Y 1 = Int32.ofNat L) (h120 : L ≤ 120) (ok : Ok n S) : match txR L n Y S with
    | .inl e => OpR 210 [] S K Y (.int (-1 - Int32.ofNat e)) S K (mfu Y 1 0)
    | .inr (i, T', _) => OpR 210 [] S K Y (.int (Int32.ofNat i)) T' K (mfu Y 1 0) := by
  have key : ∀ (a : MA) (h : MH) (B A : TS), TXo a h K S A Y (txR L n Y S) (Ec 210 [.ref 50] a (mw h S K B A Y)) := by
    intro a h B A
    have s0 := sp_le (g := bA L Y) (Nat.zero_le L)
    have nx := m_nextE (a := a) (h := h) (S := S) (K := K) (B := S) (A := A) (tk := Y 4) (fr := Y 5) (vv := Y 7) (fa := Y 8) hL h120 (Nat.zero_le L)
    have nx : Ec 196 [.ref 50] a (mw h S K S A (ry Y (Y 4) (Y 5) 0 (Y 7) (Y 8))) = _ := nx
    have it := m_itemHere (a := a) (h := h) (S := S) (K := K) (B := S) (A := A) (fa := Y 8) hL h120 s0.2 ok
    have e6 : mfu Y 6 0 = ry Y (Y 4) (Y 5) 0 (Y 7) (Y 8) := by rw [← ryw6 (c := Y 6), ry_id]
    cases c : itP (bA L Y) L n S (sp (bA L Y) L 0) with
    | inl e =>
      rw [c] at it
      obtain ⟨S', it⟩ := it
      have r := m_textL (a := a) (h := h) (K := K) (B := S) (A := A) hL h120 60 1 n S (sp (bA L Y) L 0) (Y 8) none 0 (mw h S' K S A (rY (bA L Y) L Y e (Int32.ofNat e))) ok s0.2 (by omega) (by omega) (by rw [c]; exact ⟨S', rfl⟩)
      have e : Ec 210 [.ref 50] a (mw h S K B A Y) = Rn 210 (27, [some (.ref 50), some (.int (Int32.ofNat 1)), some (.int 0)], [], a, mw h S' K S A (rY (bA L Y) L Y e (Int32.ofNat e))) := by
        rw [Ec_go rfl]; show Rn 210 (0, [some (.ref 50), none, none], [], a, mw h S K B A Y) = _
        simp only [r210_0, r210_1, r210_4, r210_5, r210_8, r210_11, r210_12, r210_13, r210_16, r210_17, r210_20, r210_21, r210_22, r210_23, r210_26, r210_28, r210_31, r210_32, r210_35, r210_36, r210_39, r210_40, r210_43, r210_44, r210_47, r210_48, r210_51, r210_54, r210_55, r210_58, r210_59, r210_62, r210_65, r210_66, r210_69, r210_72, r210_73, r210_76, r210_77, r210_78, r210_79, r210_80, r210_83, r210_84, r210_87, r210_88, r210_91, r210_92, r210_95, r210_98, r210_99, r210_102, r210_103, r210_106, r210_107, r210_108, r210_111, r210_112, Nl_none, Nl_int, Nl_ref, Nl_null, Kv_some, Ki_some, Kh_some, Bk_some, Bk_void, ↓reduceIte, mrt10, mrt11, zl2, zl3, zl4, zl8, Bool.false_eq_true, my_s, my_mis, my_kept, my_before, my_aside, my_isKept, my_findings, my_tape, my_taped, my_bitsOf, my_sizes, my_numbers, my_fitting, my_leastFit, my_token, my_from, my_to, my_value, my_faultAt, mc_sb, mp_to, e6, nx, it]
        rfl
      rw [e]; exact r
    | inr r2 =>
      obtain ⟨T2, s2⟩ := r2
      rw [c] at it
      have it : Ec 209 [.ref 50] a (mw h S K S A (rY (bA L Y) L Y (sp (bA L Y) L 0) (Y 8))) = some (some (.int 1), a, mw h T2 K S A (rY (bA L Y) L Y s2 (Y 8))) := it
      have r := m_textL (a := a) (h := h) (K := K) (B := S) (A := A) hL h120 60 1 n S (sp (bA L Y) L 0) (Y 8) none 1 (mw h T2 K S A (rY (bA L Y) L Y s2 (Y 8))) ok s0.2 (by omega) (by omega) (by rw [c]; exact rfl)
      have e : Ec 210 [.ref 50] a (mw h S K B A Y) = Rn 210 (27, [some (.ref 50), some (.int (Int32.ofNat 1)), some (.int 1)], [], a, mw h T2 K S A (rY (bA L Y) L Y s2 (Y 8))) := by
        rw [Ec_go rfl]; show Rn 210 (0, [some (.ref 50), none, none], [], a, mw h S K B A Y) = _
        simp only [r210_0, r210_1, r210_4, r210_5, r210_8, r210_11, r210_12, r210_13, r210_16, r210_17, r210_20, r210_21, r210_22, r210_23, r210_26, r210_28, r210_31, r210_32, r210_35, r210_36, r210_39, r210_40, r210_43, r210_44, r210_47, r210_48, r210_51, r210_54, r210_55, r210_58, r210_59, r210_62, r210_65, r210_66, r210_69, r210_72, r210_73, r210_76, r210_77, r210_78, r210_79, r210_80, r210_83, r210_84, r210_87, r210_88, r210_91, r210_92, r210_95, r210_98, r210_99, r210_102, r210_103, r210_106, r210_107, r210_108, r210_111, r210_112, Nl_none, Nl_int, Nl_ref, Nl_null, Kv_some, Ki_some, Kh_some, Bk_some, Bk_void, ↓reduceIte, mrt10, mrt11, zl2, zl3, zl4, zl8, Bool.false_eq_true, my_s, my_mis, my_kept, my_before, my_aside, my_isKept, my_findings, my_tape, my_taped, my_bitsOf, my_sizes, my_numbers, my_fitting, my_leastFit, my_token, my_from, my_to, my_value, my_faultAt, mc_sb, mp_to, e6, nx, it]
        rfl
      rw [e]; exact r
  cases c : txR L n Y S with
  | inl e =>
    intro a h B A
    obtain ⟨Y', hy, e'⟩ := key a h B A
    rw [c] at e'
    exact ⟨S, A, Y', e', hy⟩
  | inr r =>
    obtain ⟨i, T', n'⟩ := r
    intro a h B A
    obtain ⟨Y', hy, e'⟩ := key a h B A
    rw [c] at e'
    exact ⟨S, A, Y', e', hy⟩
end
