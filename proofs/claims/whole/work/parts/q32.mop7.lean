/-! ===== the reference's calls: odds, feed ===== -/
theorem lc_eq {l m : Int64} : ((if l < m then (-1 : Int32) else if l = m then 0 else 1) = 0) = (l = m) := by
  by_cases q : l < m
  · rw [if_pos q]
    have : ¬ l = m := by intro e; rw [e, Int64.lt_iff_toInt_lt] at q; omega
    simp only [this]; decide
  · rw [if_neg q]
    by_cases r : l = m
    · rw [if_pos r]; simp only [r]
    · rw [if_neg r]; simp only [r]; decide
def pwL (c : Int64) (m : Nat) : Int64 := lpf (fun _ s => s * c) 0 m 1
def rdF : Nat → Int64 → Int64 → Int64 × Int64
  | 0, a, b => (a, b)
  | k + 1, a, b => if a % 2 = 0 then (if b % 2 = 0 then rdF k (a / 2) (b / 2) else (a, b)) else (a, b)
def rdT : Nat → Int64 → Int64 → Bool
  | 0, _, _ => false
  | k + 1, a, b => if a % 2 = 0 then (if b % 2 = 0 then rdT k (a / 2) (b / 2) else true) else true
def odN (c m : Nat) : Int64 := pwL (Int32.ofNat c).toInt64 m
def odD (c m : Nat) : Int64 := if odN c m = 0 then 1 else pwL 8 m
def odR (c m : Nat) : Int64 × Int64 := rdF 62 (odN c m) (odD c m)
theorem od_term : ∀ c < 9, ∀ m < 21, rdT 62 (odN c m) (odD c m) = true := by decide +kernel
theorem mn_le : ∀ k < 256, ∃ c, c < 9 ∧ mnS (Int32.ofNat k) = Int32.ofNat c := by
  have : ∀ k < 256, (mnS (Int32.ofNat k)).toNatClampNeg < 9 ∧ mnS (Int32.ofNat k) = Int32.ofNat (mnS (Int32.ofNat k)).toNatClampNeg := by decide +kernel
  exact fun k hk => ⟨_, this k hk⟩
theorem cl_lt {T : TS} : ∃ j, j < 256 ∧ clA T = Int32.ofNat j := by
  have e : ∀ j < 256, ∀ k < 8, Int32.ofNat j ||| (1 <<< (Int32.ofNat k &&& 31)) = Int32.ofNat (j ||| 2 ^ k) := by decide +kernel
  exact lpf_inv (f := coF T) (P := fun _ (s : Int32) => ∃ j, j < 256 ∧ s = Int32.ofNat j) (N := 8) (fun k s hk p => by
    obtain ⟨j, hj, rfl⟩ := p
    unfold coF
    split
    · have p : 2 ^ k < 256 := Nat.pow_lt_pow_right (by decide) (show k < 8 from hk)
      exact ⟨j ||| 2 ^ k, Nat.or_lt_two_pow (n := 8) hj p, e j hj k hk⟩
    · exact ⟨j, hj, rfl⟩) 8 0 0 (by omega) ⟨0, by decide, rfl⟩
/-- how many layers are clear -/
def ncN (T : TS) : Nat := iN (mnS (clA T))
theorem nc_eq {T : TS} : ncN T < 9 ∧ mnS (clA T) = Int32.ofNat (ncN T) := by
  obtain ⟨j, hj, e⟩ := cl_lt (T := T)
  obtain ⟨c, hc, e2⟩ := mn_le j hj
  unfold ncN
  rw [e, e2, iN_of (by omega)]
  exact ⟨hc, rfl⟩
def odV (w : Int32) (m : Nat) (T : TS) : Int64 := if w = 0 then (odR (ncN T) m).1 else (odR (ncN T) m).2
section
variable {S K Y : TS} {x y z v w : Int32} {n k m : Nat}
theorem m_oddsL {a : MA} {h : MH} {B A : TS} : ∀ (k : Nat) (p q : Int64), rdT k p q = true → ∀ c j : Int32, Rn 189 (87, [some (.ref 50), some (.int x), some (.int w), some (.long p), none, some (.long q), none, some (.int c), some (.int j)], [], a, mw h S K B A Y) = some (some (.long (if w = 0 then (rdF k p q).1 else (rdF k p q).2)), a, mw h S K B A Y) := by
  have t2 : ((2 : Int64) = 0) = False := by decide
  intro k
  induction k with
  | zero => intro p q e; cases e
  | succ k ih =>
    intro p q e c j
    have e : (if p % 2 = 0 then (if q % 2 = 0 then rdT k (p / 2) (q / 2) else true) else true) = true := e
    show _ = (some (some (Value.long (if w = 0 then (if p % 2 = 0 then (if q % 2 = 0 then rdF k (p / 2) (q / 2) else (p, q)) else (p, q)).1 else (if p % 2 = 0 then (if q % 2 = 0 then rdF k (p / 2) (q / 2) else (p, q)) else (p, q)).2)), a, mw h S K B A Y) : Option MR)
    rw [r189_87]
    by_cases h1 : p % 2 = 0
    · rw [if_pos h1] at e ⊢
      by_cases h2 : q % 2 = 0
      · rw [if_pos h2] at e ⊢
        simp only [r189_0, r189_1, r189_2, r189_3, r189_6, r189_9, r189_12, r189_13, r189_14, r189_15, r189_16, r189_19, r189_22, r189_23, r189_25, r189_28, r189_29, r189_30, r189_31, r189_32, r189_33, r189_35, r189_36, r189_39, r189_42, r189_44, r189_45, r189_47, r189_49, r189_50, r189_53, r189_54, r189_56, r189_57, r189_58, r189_59, r189_61, r189_64, r189_65, r189_67, r189_70, r189_73, r189_74, r189_75, r189_76, r189_79, r189_80, r189_83, r189_85, r189_88, r189_91, r189_92, r189_93, r189_94, r189_97, r189_99, r189_102, r189_103, r189_104, r189_105, r189_108, r189_109, r189_112, r189_113, r189_114, r189_116, r189_119, r189_120, r189_122, r189_125, r189_126, r189_129, r189_130, r189_133, r189_135, Nl_none, Nl_int, Nl_ref, Nl_null, Kv_some, Ki_some, Kh_some, Bk_some, Bk_void, ↓reduceIte, mrt10, mrt11, zl2, zl3, zl4, zl8, Bool.false_eq_true, Int32.reduceAdd, Int32.reduceSub, Int32.reduceMul, Int32.reduceLT, zqm0, zqm1, zqm2, zqm3, zqm4, zqm5, zqm6, zqm7, zqm8, zq0m, zq01, zq02, zq03, zq04, zq05, zq06, zq07, zq08, zq1m, zq10, zq12, zq13, zq14, zq15, zq16, zq17, zq18, zq2m, zq20, zq21, zq23, zq24, zq25, zq26, zq27, zq28, zq3m, zq30, zq31, zq32, zq34, zq35, zq36, zq37, zq38, zq4m, zq40, zq41, zq42, zq43, zq45, zq46, zq47, zq48, zq5m, zq50, zq51, zq52, zq53, zq54, zq56, zq57, zq58, zq6m, zq60, zq61, zq62, zq63, zq64, zq65, zq67, zq68, zq7m, zq70, zq71, zq72, zq73, zq74, zq75, zq76, zq78, zq8m, zq80, zq81, zq82, zq83, zq84, zq85, zq86, zq87, lc_eq, t2]
        rw [if_pos h1, if_pos h2]
        exact ih _ _ e c j
      · rw [if_neg h2]
        by_cases hw : w = 0
        · simp only [r189_0, r189_1, r189_2, r189_3, r189_6, r189_9, r189_12, r189_13, r189_14, r189_15, r189_16, r189_19, r189_22, r189_23, r189_25, r189_28, r189_29, r189_30, r189_31, r189_32, r189_33, r189_35, r189_36, r189_39, r189_42, r189_44, r189_45, r189_47, r189_49, r189_50, r189_53, r189_54, r189_56, r189_57, r189_58, r189_59, r189_61, r189_64, r189_65, r189_67, r189_70, r189_73, r189_74, r189_75, r189_76, r189_79, r189_80, r189_83, r189_85, r189_88, r189_91, r189_92, r189_93, r189_94, r189_97, r189_99, r189_102, r189_103, r189_104, r189_105, r189_108, r189_109, r189_112, r189_113, r189_114, r189_116, r189_119, r189_120, r189_122, r189_125, r189_126, r189_129, r189_130, r189_133, r189_135, Nl_none, Nl_int, Nl_ref, Nl_null, Kv_some, Ki_some, Kh_some, Bk_some, Bk_void, ↓reduceIte, mrt10, mrt11, zl2, zl3, zl4, zl8, Bool.false_eq_true, Int32.reduceAdd, Int32.reduceSub, Int32.reduceMul, Int32.reduceLT, zqm0, zqm1, zqm2, zqm3, zqm4, zqm5, zqm6, zqm7, zqm8, zq0m, zq01, zq02, zq03, zq04, zq05, zq06, zq07, zq08, zq1m, zq10, zq12, zq13, zq14, zq15, zq16, zq17, zq18, zq2m, zq20, zq21, zq23, zq24, zq25, zq26, zq27, zq28, zq3m, zq30, zq31, zq32, zq34, zq35, zq36, zq37, zq38, zq4m, zq40, zq41, zq42, zq43, zq45, zq46, zq47, zq48, zq5m, zq50, zq51, zq52, zq53, zq54, zq56, zq57, zq58, zq6m, zq60, zq61, zq62, zq63, zq64, zq65, zq67, zq68, zq7m, zq70, zq71, zq72, zq73, zq74, zq75, zq76, zq78, zq8m, zq80, zq81, zq82, zq83, zq84, zq85, zq86, zq87, lc_eq, t2, hw]
          rw [if_pos h1, if_neg h2]
        · simp only [r189_0, r189_1, r189_2, r189_3, r189_6, r189_9, r189_12, r189_13, r189_14, r189_15, r189_16, r189_19, r189_22, r189_23, r189_25, r189_28, r189_29, r189_30, r189_31, r189_32, r189_33, r189_35, r189_36, r189_39, r189_42, r189_44, r189_45, r189_47, r189_49, r189_50, r189_53, r189_54, r189_56, r189_57, r189_58, r189_59, r189_61, r189_64, r189_65, r189_67, r189_70, r189_73, r189_74, r189_75, r189_76, r189_79, r189_80, r189_83, r189_85, r189_88, r189_91, r189_92, r189_93, r189_94, r189_97, r189_99, r189_102, r189_103, r189_104, r189_105, r189_108, r189_109, r189_112, r189_113, r189_114, r189_116, r189_119, r189_120, r189_122, r189_125, r189_126, r189_129, r189_130, r189_133, r189_135, Nl_none, Nl_int, Nl_ref, Nl_null, Kv_some, Ki_some, Kh_some, Bk_some, Bk_void, ↓reduceIte, mrt10, mrt11, zl2, zl3, zl4, zl8, Bool.false_eq_true, Int32.reduceAdd, Int32.reduceSub, Int32.reduceMul, Int32.reduceLT, zqm0, zqm1, zqm2, zqm3, zqm4, zqm5, zqm6, zqm7, zqm8, zq0m, zq01, zq02, zq03, zq04, zq05, zq06, zq07, zq08, zq1m, zq10, zq12, zq13, zq14, zq15, zq16, zq17, zq18, zq2m, zq20, zq21, zq23, zq24, zq25, zq26, zq27, zq28, zq3m, zq30, zq31, zq32, zq34, zq35, zq36, zq37, zq38, zq4m, zq40, zq41, zq42, zq43, zq45, zq46, zq47, zq48, zq5m, zq50, zq51, zq52, zq53, zq54, zq56, zq57, zq58, zq6m, zq60, zq61, zq62, zq63, zq64, zq65, zq67, zq68, zq7m, zq70, zq71, zq72, zq73, zq74, zq75, zq76, zq78, zq8m, zq80, zq81, zq82, zq83, zq84, zq85, zq86, zq87, lc_eq, t2, hw]
          rw [if_pos h1, if_neg h2]
    · rw [if_neg h1]
      by_cases hw : w = 0
      · simp only [r189_0, r189_1, r189_2, r189_3, r189_6, r189_9, r189_12, r189_13, r189_14, r189_15, r189_16, r189_19, r189_22, r189_23, r189_25, r189_28, r189_29, r189_30, r189_31, r189_32, r189_33, r189_35, r189_36, r189_39, r189_42, r189_44, r189_45, r189_47, r189_49, r189_50, r189_53, r189_54, r189_56, r189_57, r189_58, r189_59, r189_61, r189_64, r189_65, r189_67, r189_70, r189_73, r189_74, r189_75, r189_76, r189_79, r189_80, r189_83, r189_85, r189_88, r189_91, r189_92, r189_93, r189_94, r189_97, r189_99, r189_102, r189_103, r189_104, r189_105, r189_108, r189_109, r189_112, r189_113, r189_114, r189_116, r189_119, r189_120, r189_122, r189_125, r189_126, r189_129, r189_130, r189_133, r189_135, Nl_none, Nl_int, Nl_ref, Nl_null, Kv_some, Ki_some, Kh_some, Bk_some, Bk_void, ↓reduceIte, mrt10, mrt11, zl2, zl3, zl4, zl8, Bool.false_eq_true, Int32.reduceAdd, Int32.reduceSub, Int32.reduceMul, Int32.reduceLT, zqm0, zqm1, zqm2, zqm3, zqm4, zqm5, zqm6, zqm7, zqm8, zq0m, zq01, zq02, zq03, zq04, zq05, zq06, zq07, zq08, zq1m, zq10, zq12, zq13, zq14, zq15, zq16, zq17, zq18, zq2m, zq20, zq21, zq23, zq24, zq25, zq26, zq27, zq28, zq3m, zq30, zq31, zq32, zq34, zq35, zq36, zq37, zq38, zq4m, zq40, zq41, zq42, zq43, zq45, zq46, zq47, zq48, zq5m, zq50, zq51, zq52, zq53, zq54, zq56, zq57, zq58, zq6m, zq60, zq61, zq62, zq63, zq64, zq65, zq67, zq68, zq7m, zq70, zq71, zq72, zq73, zq74, zq75, zq76, zq78, zq8m, zq80, zq81, zq82, zq83, zq84, zq85, zq86, zq87, lc_eq, t2, hw]
        rw [if_neg h1]
      · simp only [r189_0, r189_1, r189_2, r189_3, r189_6, r189_9, r189_12, r189_13, r189_14, r189_15, r189_16, r189_19, r189_22, r189_23, r189_25, r189_28, r189_29, r189_30, r189_31, r189_32, r189_33, r189_35, r189_36, r189_39, r189_42, r189_44, r189_45, r189_47, r189_49, r189_50, r189_53, r189_54, r189_56, r189_57, r189_58, r189_59, r189_61, r189_64, r189_65, r189_67, r189_70, r189_73, r189_74, r189_75, r189_76, r189_79, r189_80, r189_83, r189_85, r189_88, r189_91, r189_92, r189_93, r189_94, r189_97, r189_99, r189_102, r189_103, r189_104, r189_105, r189_108, r189_109, r189_112, r189_113, r189_114, r189_116, r189_119, r189_120, r189_122, r189_125, r189_126, r189_129, r189_130, r189_133, r189_135, Nl_none, Nl_int, Nl_ref, Nl_null, Kv_some, Ki_some, Kh_some, Bk_some, Bk_void, ↓reduceIte, mrt10, mrt11, zl2, zl3, zl4, zl8, Bool.false_eq_true, Int32.reduceAdd, Int32.reduceSub, Int32.reduceMul, Int32.reduceLT, zqm0, zqm1, zqm2, zqm3, zqm4, zqm5, zqm6, zqm7, zqm8, zq0m, zq01, zq02, zq03, zq04, zq05, zq06, zq07, zq08, zq1m, zq10, zq12, zq13, zq14, zq15, zq16, zq17, zq18, zq2m, zq20, zq21, zq23, zq24, zq25, zq26, zq27, zq28, zq3m, zq30, zq31, zq32, zq34, zq35, zq36, zq37, zq38, zq4m, zq40, zq41, zq42, zq43, zq45, zq46, zq47, zq48, zq5m, zq50, zq51, zq52, zq53, zq54, zq56, zq57, zq58, zq6m, zq60, zq61, zq62, zq63, zq64, zq65, zq67, zq68, zq7m, zq70, zq71, zq72, zq73, zq74, zq75, zq76, zq78, zq8m, zq80, zq81, zq82, zq83, zq84, zq85, zq86, zq87, lc_eq, t2, hw]
        rw [if_neg h1]
theorem mo_odds (h0 : wi x 0 20 = true) (h1 : wi w 0 1 = true) : OpR 189 [.int x, .int w] S K Y (.long (odV w (iN x) S)) S K Y := by
  intro a h B A
  obtain ⟨m, hm, rfl⟩ := wi_nat 20 (by decide) h0
  rw [iN_of (by omega)]
  obtain ⟨hc, ec⟩ := nc_eq (T := S)
  obtain ⟨j, hj, ej⟩ := cl_lt (T := S)
  rw [ej] at ec
  have L := lp_up (M := 189) (X := fun k (s : Int64 × Int64) => (47, [some (.ref 50), some (.int (Int32.ofNat m)), some (.int w), some (.long s.1), none, some (.long s.2), none, some (.int (Int32.ofNat (ncN S))), some (.int (Int32.ofNat k))], [], a, mw h S K B A Y)) (f := fun _ s => (s.1 * (Int32.ofNat (ncN S)).toInt64, s.2 * 8)) (P := fun _ _ => True) (N := m) (fun k s hk _ => ⟨by
    obtain ⟨p, q⟩ := s
    have lt := ltT hk (by omega)
    show Rn 189 (47, [some (.ref 50), some (.int (Int32.ofNat m)), some (.int w), some (.long p), none, some (.long q), none, some (.int (Int32.ofNat (ncN S))), some (.int (Int32.ofNat k))], [], a, mw h S K B A Y) = Rn 189 (47, [some (.ref 50), some (.int (Int32.ofNat m)), some (.int w), some (.long (p * (Int32.ofNat (ncN S)).toInt64)), none, some (.long (q * 8)), none, some (.int (Int32.ofNat (ncN S))), some (.int (Int32.ofNat (k + 1)))], [], a, mw h S K B A Y)
    rw [r189_47]
    simp only [r189_0, r189_1, r189_2, r189_3, r189_6, r189_9, r189_12, r189_13, r189_14, r189_15, r189_16, r189_19, r189_22, r189_23, r189_25, r189_28, r189_29, r189_30, r189_31, r189_32, r189_33, r189_35, r189_36, r189_39, r189_42, r189_44, r189_45, r189_49, r189_50, r189_53, r189_54, r189_56, r189_57, r189_58, r189_59, r189_61, r189_64, r189_65, r189_67, r189_70, r189_73, r189_74, r189_75, r189_76, r189_79, r189_80, r189_83, r189_85, r189_88, r189_91, r189_92, r189_93, r189_94, r189_97, r189_99, r189_102, r189_103, r189_104, r189_105, r189_108, r189_109, r189_112, r189_113, r189_114, r189_116, r189_119, r189_120, r189_122, r189_125, r189_126, r189_129, r189_130, r189_133, r189_135, Nl_none, Nl_int, Nl_ref, Nl_null, Kv_some, Ki_some, Kh_some, Bk_some, Bk_void, ↓reduceIte, mrt10, mrt11, zl2, zl3, zl4, zl8, Bool.false_eq_true, my_s, my_mis, my_kept, my_before, my_aside, my_isKept, my_findings, my_tape, my_taped, my_bitsOf, my_sizes, my_numbers, my_fitting, my_leastFit, my_token, my_from, my_to, my_value, my_faultAt, Int32.reduceAdd, Int32.reduceSub, Int32.reduceMul, Int32.reduceLT, zqm0, zqm1, zqm2, zqm3, zqm4, zqm5, zqm6, zqm7, zqm8, zq0m, zq01, zq02, zq03, zq04, zq05, zq06, zq07, zq08, zq1m, zq10, zq12, zq13, zq14, zq15, zq16, zq17, zq18, zq2m, zq20, zq21, zq23, zq24, zq25, zq26, zq27, zq28, zq3m, zq30, zq31, zq32, zq34, zq35, zq36, zq37, zq38, zq4m, zq40, zq41, zq42, zq43, zq45, zq46, zq47, zq48, zq5m, zq50, zq51, zq52, zq53, zq54, zq56, zq57, zq58, zq6m, zq60, zq61, zq62, zq63, zq64, zq65, zq67, zq68, zq7m, zq70, zq71, zq72, zq73, zq74, zq75, zq76, zq78, zq8m, zq80, zq81, zq82, zq83, zq84, zq85, zq86, zq87, lt, of_in], trivial⟩) m 0 (1, 1) (by omega) trivial
  have e1 : ∀ m1 k (s : Int64 × Int64), lpf (fun _ (s : Int64 × Int64) => (s.1 * (Int32.ofNat (ncN S)).toInt64, s.2 * 8)) k m1 s = (lpf (fun _ s => s * (Int32.ofNat (ncN S)).toInt64) k m1 s.1, lpf (fun _ s => s * 8) k m1 s.2) := by
    intro m1
    induction m1 with
    | zero => intro k s; rfl
    | succ m1 ih => intro k s; exact ih (k + 1) _
  have L1 := L.1
  rw [e1 m 0 (1, 1)] at L1
  refine ⟨B, A, Y, ?_, fun k hk => rfl⟩
  have lf := ltF (Nat.le_refl m) (by omega)
  rw [Ec_go rfl]; show Rn 189 (0, [some (.ref 50), some (.int (Int32.ofNat m)), some (.int w), none, none, none, none, none, none], [], a, mw h S K B A Y) = _
  simp only [r189_0, r189_1, r189_2, r189_3, r189_6, r189_9, r189_12, r189_13, r189_14, r189_15, r189_16, r189_19, r189_22, r189_23, r189_25, r189_28, r189_29, r189_30, r189_31, r189_32, r189_33, r189_35, r189_36, r189_39, r189_42, r189_44, r189_45, r189_49, r189_50, r189_53, r189_54, r189_56, r189_57, r189_58, r189_59, r189_61, r189_64, r189_65, r189_67, r189_70, r189_73, r189_74, r189_75, r189_76, r189_79, r189_80, r189_83, r189_85, r189_88, r189_91, r189_92, r189_93, r189_94, r189_97, r189_99, r189_102, r189_103, r189_104, r189_105, r189_108, r189_109, r189_112, r189_113, r189_114, r189_116, r189_119, r189_120, r189_122, r189_125, r189_126, r189_129, r189_130, r189_133, r189_135, Nl_none, Nl_int, Nl_ref, Nl_null, Kv_some, Ki_some, Kh_some, Bk_some, Bk_void, ↓reduceIte, mrt10, mrt11, zl2, zl3, zl4, zl8, Bool.false_eq_true, my_s, my_mis, my_kept, my_before, my_aside, my_isKept, my_findings, my_tape, my_taped, my_bitsOf, my_sizes, my_numbers, my_fitting, my_leastFit, my_token, my_from, my_to, my_value, my_faultAt, Int32.reduceAdd, Int32.reduceSub, Int32.reduceMul, Int32.reduceLT, zqm0, zqm1, zqm2, zqm3, zqm4, zqm5, zqm6, zqm7, zqm8, zq0m, zq01, zq02, zq03, zq04, zq05, zq06, zq07, zq08, zq1m, zq10, zq12, zq13, zq14, zq15, zq16, zq17, zq18, zq2m, zq20, zq21, zq23, zq24, zq25, zq26, zq27, zq28, zq3m, zq30, zq31, zq32, zq34, zq35, zq36, zq37, zq38, zq4m, zq40, zq41, zq42, zq43, zq45, zq46, zq47, zq48, zq5m, zq50, zq51, zq52, zq53, zq54, zq56, zq57, zq58, zq6m, zq60, zq61, zq62, zq63, zq64, zq65, zq67, zq68, zq7m, zq70, zq71, zq72, zq73, zq74, zq75, zq76, zq78, zq8m, zq80, zq81, zq82, zq83, zq84, zq85, zq86, zq87, m_isLayer, m_isColour, m_isSheet, mi_0_999, mi_0_5, mi_0_9, mi_0_6, mi_0_8, mi_1_60, mi_1_5, mi_0_100, mi_0_30, mi_0_40, mi_0_20, mi_1_20, mi_0_1, mi_1_4, mi_m1_6, mi_0x, mf_0, mf_1, mf_2, mf_3, mf_4, mf_5, mf_6, b2i, h0, h1, m_clearOnes, ej, m_many hj, ec]
  refine L1.trans ?_
  show Rn 189 (47, [some (.ref 50), some (.int (Int32.ofNat m)), some (.int w), some (.long (odN (ncN S) m)), none, some (.long (pwL 8 m)), none, some (.int (Int32.ofNat (ncN S))), some (.int (Int32.ofNat m))], [], a, mw h S K B A Y) = _
  rw [r189_47]
  have T := m_oddsL (S := S) (K := K) (Y := Y) (x := Int32.ofNat m) (w := w) (a := a) (h := h) (B := B) (A := A) 62 (odN (ncN S) m) (odD (ncN S) m) (od_term _ hc m hm) (Int32.ofNat (ncN S)) (Int32.ofNat m)
  have eV : (if w = 0 then (rdF 62 (odN (ncN S) m) (odD (ncN S) m)).1 else (rdF 62 (odN (ncN S) m) (odD (ncN S) m)).2) = odV w m S := rfl
  rw [eV] at T
  by_cases q : odN (ncN S) m = 0
  · have eD : odD (ncN S) m = 1 := if_pos q
    rw [eD, q] at T
    simp only [r189_0, r189_1, r189_2, r189_3, r189_6, r189_9, r189_12, r189_13, r189_14, r189_15, r189_16, r189_19, r189_22, r189_23, r189_25, r189_28, r189_29, r189_30, r189_31, r189_32, r189_33, r189_35, r189_36, r189_39, r189_42, r189_44, r189_45, r189_49, r189_50, r189_53, r189_54, r189_56, r189_57, r189_58, r189_59, r189_61, r189_64, r189_65, r189_67, r189_70, r189_73, r189_74, r189_75, r189_76, r189_79, r189_80, r189_83, r189_85, r189_88, r189_91, r189_92, r189_93, r189_94, r189_97, r189_99, r189_102, r189_103, r189_104, r189_105, r189_108, r189_109, r189_112, r189_113, r189_114, r189_116, r189_119, r189_120, r189_122, r189_125, r189_126, r189_129, r189_130, r189_133, r189_135, Nl_none, Nl_int, Nl_ref, Nl_null, Kv_some, Ki_some, Kh_some, Bk_some, Bk_void, ↓reduceIte, mrt10, mrt11, zl2, zl3, zl4, zl8, Bool.false_eq_true, my_s, my_mis, my_kept, my_before, my_aside, my_isKept, my_findings, my_tape, my_taped, my_bitsOf, my_sizes, my_numbers, my_fitting, my_leastFit, my_token, my_from, my_to, my_value, my_faultAt, Int32.reduceAdd, Int32.reduceSub, Int32.reduceMul, Int32.reduceLT, zqm0, zqm1, zqm2, zqm3, zqm4, zqm5, zqm6, zqm7, zqm8, zq0m, zq01, zq02, zq03, zq04, zq05, zq06, zq07, zq08, zq1m, zq10, zq12, zq13, zq14, zq15, zq16, zq17, zq18, zq2m, zq20, zq21, zq23, zq24, zq25, zq26, zq27, zq28, zq3m, zq30, zq31, zq32, zq34, zq35, zq36, zq37, zq38, zq4m, zq40, zq41, zq42, zq43, zq45, zq46, zq47, zq48, zq5m, zq50, zq51, zq52, zq53, zq54, zq56, zq57, zq58, zq6m, zq60, zq61, zq62, zq63, zq64, zq65, zq67, zq68, zq7m, zq70, zq71, zq72, zq73, zq74, zq75, zq76, zq78, zq8m, zq80, zq81, zq82, zq83, zq84, zq85, zq86, zq87, lf, lc_eq, q]
    exact T
  · have eD : odD (ncN S) m = pwL 8 m := if_neg q
    rw [eD] at T
    simp only [r189_0, r189_1, r189_2, r189_3, r189_6, r189_9, r189_12, r189_13, r189_14, r189_15, r189_16, r189_19, r189_22, r189_23, r189_25, r189_28, r189_29, r189_30, r189_31, r189_32, r189_33, r189_35, r189_36, r189_39, r189_42, r189_44, r189_45, r189_49, r189_50, r189_53, r189_54, r189_56, r189_57, r189_58, r189_59, r189_61, r189_64, r189_65, r189_67, r189_70, r189_73, r189_74, r189_75, r189_76, r189_79, r189_80, r189_83, r189_85, r189_88, r189_91, r189_92, r189_93, r189_94, r189_97, r189_99, r189_102, r189_103, r189_104, r189_105, r189_108, r189_109, r189_112, r189_113, r189_114, r189_116, r189_119, r189_120, r189_122, r189_125, r189_126, r189_129, r189_130, r189_133, r189_135, Nl_none, Nl_int, Nl_ref, Nl_null, Kv_some, Ki_some, Kh_some, Bk_some, Bk_void, ↓reduceIte, mrt10, mrt11, zl2, zl3, zl4, zl8, Bool.false_eq_true, my_s, my_mis, my_kept, my_before, my_aside, my_isKept, my_findings, my_tape, my_taped, my_bitsOf, my_sizes, my_numbers, my_fitting, my_leastFit, my_token, my_from, my_to, my_value, my_faultAt, Int32.reduceAdd, Int32.reduceSub, Int32.reduceMul, Int32.reduceLT, zqm0, zqm1, zqm2, zqm3, zqm4, zqm5, zqm6, zqm7, zqm8, zq0m, zq01, zq02, zq03, zq04, zq05, zq06, zq07, zq08, zq1m, zq10, zq12, zq13, zq14, zq15, zq16, zq17, zq18, zq2m, zq20, zq21, zq23, zq24, zq25, zq26, zq27, zq28, zq3m, zq30, zq31, zq32, zq34, zq35, zq36, zq37, zq38, zq4m, zq40, zq41, zq42, zq43, zq45, zq46, zq47, zq48, zq5m, zq50, zq51, zq52, zq53, zq54, zq56, zq57, zq58, zq6m, zq60, zq61, zq62, zq63, zq64, zq65, zq67, zq68, zq7m, zq70, zq71, zq72, zq73, zq74, zq75, zq76, zq78, zq8m, zq80, zq81, zq82, zq83, zq84, zq85, zq86, zq87, lf, lc_eq]
    rw [if_neg q]
    exact T
theorem mb_odds (hb : ¬ (wi x 0 20 = true ∧ wi w 0 1 = true)) : OpR 189 [.int x, .int w] S K Y (.long ((-1000001 : Int32).toInt64)) S K (fnY 0 Y) := by
  intro a h B A
  refine ⟨B, A, fnY 0 Y, ?_, fun k hk => rfl⟩
  rw [Ec_go rfl]; show Rn 189 (0, [some (.ref 50), some (.int x), some (.int w), none, none, none, none, none, none], [], a, mw h S K B A Y) = _
  by_cases h0 : wi x 0 20 = true
  · by_cases h1 : wi w 0 1 = true
    · exact absurd ⟨h0, h1⟩ hb
    · simp only [r189_0, r189_1, r189_2, r189_3, r189_6, r189_9, r189_12, r189_13, r189_14, r189_15, r189_16, r189_19, r189_22, r189_23, r189_25, r189_28, r189_29, r189_30, r189_31, r189_32, r189_33, r189_35, r189_36, r189_39, r189_42, r189_44, r189_45, r189_47, r189_49, r189_50, r189_53, r189_54, r189_56, r189_57, r189_58, r189_59, r189_61, r189_64, r189_65, r189_67, r189_70, r189_73, r189_74, r189_75, r189_76, r189_79, r189_80, r189_83, r189_85, r189_87, r189_88, r189_91, r189_92, r189_93, r189_94, r189_97, r189_99, r189_102, r189_103, r189_104, r189_105, r189_108, r189_109, r189_112, r189_113, r189_114, r189_116, r189_119, r189_120, r189_122, r189_125, r189_126, r189_129, r189_130, r189_133, r189_135, Nl_none, Nl_int, Nl_ref, Nl_null, Kv_some, Ki_some, Kh_some, Bk_some, Bk_void, ↓reduceIte, mrt10, mrt11, zl2, zl3, zl4, zl8, Bool.false_eq_true, my_s, my_mis, my_kept, my_before, my_aside, my_isKept, my_findings, my_tape, my_taped, my_bitsOf, my_sizes, my_numbers, my_fitting, my_leastFit, my_token, my_from, my_to, my_value, my_faultAt, Int32.reduceAdd, Int32.reduceSub, Int32.reduceMul, Int32.reduceLT, zqm0, zqm1, zqm2, zqm3, zqm4, zqm5, zqm6, zqm7, zqm8, zq0m, zq01, zq02, zq03, zq04, zq05, zq06, zq07, zq08, zq1m, zq10, zq12, zq13, zq14, zq15, zq16, zq17, zq18, zq2m, zq20, zq21, zq23, zq24, zq25, zq26, zq27, zq28, zq3m, zq30, zq31, zq32, zq34, zq35, zq36, zq37, zq38, zq4m, zq40, zq41, zq42, zq43, zq45, zq46, zq47, zq48, zq5m, zq50, zq51, zq52, zq53, zq54, zq56, zq57, zq58, zq6m, zq60, zq61, zq62, zq63, zq64, zq65, zq67, zq68, zq7m, zq70, zq71, zq72, zq73, zq74, zq75, zq76, zq78, zq8m, zq80, zq81, zq82, zq83, zq84, zq85, zq86, zq87, m_isLayer, m_isColour, m_isSheet, mi_0_999, mi_0_5, mi_0_9, mi_0_6, mi_0_8, mi_1_60, mi_1_5, mi_0_100, mi_0_30, mi_0_40, mi_0_20, mi_1_20, mi_0_1, mi_1_4, mi_m1_6, mi_0x, mf_0, mf_1, mf_2, mf_3, mf_4, mf_5, mf_6, b2i, h0, h1]
  · simp only [r189_0, r189_1, r189_2, r189_3, r189_6, r189_9, r189_12, r189_13, r189_14, r189_15, r189_16, r189_19, r189_22, r189_23, r189_25, r189_28, r189_29, r189_30, r189_31, r189_32, r189_33, r189_35, r189_36, r189_39, r189_42, r189_44, r189_45, r189_47, r189_49, r189_50, r189_53, r189_54, r189_56, r189_57, r189_58, r189_59, r189_61, r189_64, r189_65, r189_67, r189_70, r189_73, r189_74, r189_75, r189_76, r189_79, r189_80, r189_83, r189_85, r189_87, r189_88, r189_91, r189_92, r189_93, r189_94, r189_97, r189_99, r189_102, r189_103, r189_104, r189_105, r189_108, r189_109, r189_112, r189_113, r189_114, r189_116, r189_119, r189_120, r189_122, r189_125, r189_126, r189_129, r189_130, r189_133, r189_135, Nl_none, Nl_int, Nl_ref, Nl_null, Kv_some, Ki_some, Kh_some, Bk_some, Bk_void, ↓reduceIte, mrt10, mrt11, zl2, zl3, zl4, zl8, Bool.false_eq_true, my_s, my_mis, my_kept, my_before, my_aside, my_isKept, my_findings, my_tape, my_taped, my_bitsOf, my_sizes, my_numbers, my_fitting, my_leastFit, my_token, my_from, my_to, my_value, my_faultAt, Int32.reduceAdd, Int32.reduceSub, Int32.reduceMul, Int32.reduceLT, zqm0, zqm1, zqm2, zqm3, zqm4, zqm5, zqm6, zqm7, zqm8, zq0m, zq01, zq02, zq03, zq04, zq05, zq06, zq07, zq08, zq1m, zq10, zq12, zq13, zq14, zq15, zq16, zq17, zq18, zq2m, zq20, zq21, zq23, zq24, zq25, zq26, zq27, zq28, zq3m, zq30, zq31, zq32, zq34, zq35, zq36, zq37, zq38, zq4m, zq40, zq41, zq42, zq43, zq45, zq46, zq47, zq48, zq5m, zq50, zq51, zq52, zq53, zq54, zq56, zq57, zq58, zq6m, zq60, zq61, zq62, zq63, zq64, zq65, zq67, zq68, zq7m, zq70, zq71, zq72, zq73, zq74, zq75, zq76, zq78, zq8m, zq80, zq81, zq82, zq83, zq84, zq85, zq86, zq87, m_isLayer, m_isColour, m_isSheet, mi_0_999, mi_0_5, mi_0_9, mi_0_6, mi_0_8, mi_1_60, mi_1_5, mi_0_100, mi_0_30, mi_0_40, mi_0_20, mi_1_20, mi_0_1, mi_1_4, mi_m1_6, mi_0x, mf_0, mf_1, mf_2, mf_3, mf_4, mf_5, mf_6, b2i, h0]
/-! feed: the tape and its length stand at 20.., 1 on both sides -/
def fdF (x : Int32) (m L j : Nat) (Y : TS) : TS := mfu (mfu Y (20 + (L + j)) (x >>> (Int32.ofNat (8 * (m - 1 - j)) &&& 31) &&& 255)) 1 (Int32.ofNat (L + j + 1))
def fdS (x : Int32) (m L : Nat) (Y : TS) : TS := lpf (fdF x m L) 0 m Y
theorem mo_feed {L : Nat} (h0 : wi z 1 4 = true) (hL : Y 1 = Int32.ofNat L) (h1 : L + iN z ≤ 120) : OpR 191 [.int x, .int z] S K Y (.int (Int32.ofNat (L + iN z))) S K (fdS x (iN z) L Y) := by
  intro a h B A
  obtain ⟨m, hm0, hm, rfl⟩ := wi_nat1 4 (by decide) h0
  rw [iN_of (by omega)] at h1 ⊢
  have Lp := lp_up (M := 191) (X := fun j (s : TS) => (41, [some (.ref 50), some (.int x), some (.int (Int32.ofNat m)), some (.int (Int32.ofNat (m - j) + -1))], [], a, mw h S K B A s)) (f := fdF x m L) (P := fun j s => s 1 = Int32.ofNat (L + j)) (N := m) (fun j s hj p => ⟨by
    obtain ⟨i, hi⟩ : ∃ i, j + (i + 1) = m := ⟨m - j - 1, by omega⟩
    have e1 : Int32.ofNat (i + 1) + -1 = Int32.ofNat i := of_dec (by omega)
    have nn : (Int32.ofNat i < 0) = False := of_nn (by omega)
    have e8 : 8 * Int32.ofNat i = Int32.ofNat (8 * i) := of_mul 8 i
    have lj : L + j < 120 := by omega
    have g : ∀ v, mfu s (20 + (L + j)) v 1 = Int32.ofNat (L + j) := fun v => by rw [fu_ne (by omega)]; exact p
    show Rn 191 (41, [some (.ref 50), some (.int x), some (.int (Int32.ofNat m)), some (.int (Int32.ofNat (m - j) + -1))], [], a, mw h S K B A s) = Rn 191 (41, [some (.ref 50), some (.int x), some (.int (Int32.ofNat m)), some (.int (Int32.ofNat (m - (j + 1)) + -1))], [], a, mw h S K B A (fdF x m L j s))
    unfold fdF
    rw [show m - j = i + 1 by omega, show m - (j + 1) = i by omega, show m - 1 - j = i by omega, e1, r191_41]
    simp only [r191_0, r191_1, r191_2, r191_3, r191_6, r191_9, r191_12, r191_13, r191_15, r191_18, r191_19, r191_20, r191_23, r191_24, r191_25, r191_27, r191_30, r191_31, r191_33, r191_36, r191_37, r191_38, r191_39, r191_40, r191_42, r191_45, r191_46, r191_49, r191_50, r191_53, r191_54, r191_56, r191_57, r191_58, r191_59, r191_62, r191_63, r191_64, r191_65, r191_66, r191_69, r191_70, r191_71, r191_74, r191_77, r191_80, r191_81, r191_84, Nl_none, Nl_int, Nl_ref, Nl_null, Kv_some, Ki_some, Kh_some, Bk_some, Bk_void, ↓reduceIte, mrt10, mrt11, zl2, zl3, zl4, zl8, Bool.false_eq_true, my_s, my_mis, my_kept, my_before, my_aside, my_isKept, my_findings, my_tape, my_taped, my_bitsOf, my_sizes, my_numbers, my_fitting, my_leastFit, my_token, my_from, my_to, my_value, my_faultAt, Int32.reduceAdd, Int32.reduceSub, Int32.reduceMul, Int32.reduceLT, zqm0, zqm1, zqm2, zqm3, zqm4, zqm5, zqm6, zqm7, zqm8, zq0m, zq01, zq02, zq03, zq04, zq05, zq06, zq07, zq08, zq1m, zq10, zq12, zq13, zq14, zq15, zq16, zq17, zq18, zq2m, zq20, zq21, zq23, zq24, zq25, zq26, zq27, zq28, zq3m, zq30, zq31, zq32, zq34, zq35, zq36, zq37, zq38, zq4m, zq40, zq41, zq42, zq43, zq45, zq46, zq47, zq48, zq5m, zq50, zq51, zq52, zq53, zq54, zq56, zq57, zq58, zq6m, zq60, zq61, zq62, zq63, zq64, zq65, zq67, zq68, zq7m, zq70, zq71, zq72, zq73, zq74, zq75, zq76, zq78, zq8m, zq80, zq81, zq82, zq83, zq84, zq85, zq86, zq87, nn, p, e8, mp_tape lj, g, mp_taped, of_in], by
    show fdF x m L j s 1 = _
    exact fu_at⟩) m 0 Y (by omega) hL
  have lt : ((120 : Int32) < Int32.ofNat L + Int32.ofNat m) = False := by rw [of_add]; exact ltF (k := 120) (by omega) (by decide)
  refine ⟨B, A, fdS x m L Y, ?_, fun k hk => rfl⟩
  have e1 : Int32.ofNat m - 1 = Int32.ofNat m + -1 := Int32.sub_eq_add_neg _ _
  rw [Ec_go rfl]; show Rn 191 (0, [some (.ref 50), some (.int x), some (.int (Int32.ofNat m)), none], [], a, mw h S K B A Y) = _
  simp only [r191_0, r191_1, r191_2, r191_3, r191_6, r191_9, r191_12, r191_13, r191_15, r191_18, r191_19, r191_20, r191_23, r191_24, r191_25, r191_27, r191_30, r191_31, r191_33, r191_36, r191_37, r191_38, r191_39, r191_40, r191_42, r191_45, r191_46, r191_49, r191_50, r191_53, r191_54, r191_56, r191_57, r191_58, r191_59, r191_62, r191_63, r191_64, r191_65, r191_66, r191_69, r191_70, r191_71, r191_74, r191_77, r191_80, r191_81, r191_84, Nl_none, Nl_int, Nl_ref, Nl_null, Kv_some, Ki_some, Kh_some, Bk_some, Bk_void, ↓reduceIte, mrt10, mrt11, zl2, zl3, zl4, zl8, Bool.false_eq_true, my_s, my_mis, my_kept, my_before, my_aside, my_isKept, my_findings, my_tape, my_taped, my_bitsOf, my_sizes, my_numbers, my_fitting, my_leastFit, my_token, my_from, my_to, my_value, my_faultAt, Int32.reduceAdd, Int32.reduceSub, Int32.reduceMul, Int32.reduceLT, zqm0, zqm1, zqm2, zqm3, zqm4, zqm5, zqm6, zqm7, zqm8, zq0m, zq01, zq02, zq03, zq04, zq05, zq06, zq07, zq08, zq1m, zq10, zq12, zq13, zq14, zq15, zq16, zq17, zq18, zq2m, zq20, zq21, zq23, zq24, zq25, zq26, zq27, zq28, zq3m, zq30, zq31, zq32, zq34, zq35, zq36, zq37, zq38, zq4m, zq40, zq41, zq42, zq43, zq45, zq46, zq47, zq48, zq5m, zq50, zq51, zq52, zq53, zq54, zq56, zq57, zq58, zq6m, zq60, zq61, zq62, zq63, zq64, zq65, zq67, zq68, zq7m, zq70, zq71, zq72, zq73, zq74, zq75, zq76, zq78, zq8m, zq80, zq81, zq82, zq83, zq84, zq85, zq86, zq87, m_isLayer, m_isColour, m_isSheet, mi_0_999, mi_0_5, mi_0_9, mi_0_6, mi_0_8, mi_1_60, mi_1_5, mi_0_100, mi_0_30, mi_0_40, mi_0_20, mi_1_20, mi_0_1, mi_1_4, mi_m1_6, mi_0x, mf_0, mf_1, mf_2, mf_3, mf_4, mf_5, mf_6, b2i, h0, hL, lt, e1]
  refine Lp.1.trans ?_
  have l2 : fdS x m L Y 1 = Int32.ofNat (L + m) := Lp.2
  have f : fdS x m L Y = lpf (fdF x m L) 0 m Y := rfl
  rw [show m - m = 0 by omega, ← f, r191_41]
  simp only [r191_0, r191_1, r191_2, r191_3, r191_6, r191_9, r191_12, r191_13, r191_15, r191_18, r191_19, r191_20, r191_23, r191_24, r191_25, r191_27, r191_30, r191_31, r191_33, r191_36, r191_37, r191_38, r191_39, r191_40, r191_42, r191_45, r191_46, r191_49, r191_50, r191_53, r191_54, r191_56, r191_57, r191_58, r191_59, r191_62, r191_63, r191_64, r191_65, r191_66, r191_69, r191_70, r191_71, r191_74, r191_77, r191_80, r191_81, r191_84, Nl_none, Nl_int, Nl_ref, Nl_null, Kv_some, Ki_some, Kh_some, Bk_some, Bk_void, ↓reduceIte, mrt10, mrt11, zl2, zl3, zl4, zl8, Bool.false_eq_true, my_s, my_mis, my_kept, my_before, my_aside, my_isKept, my_findings, my_tape, my_taped, my_bitsOf, my_sizes, my_numbers, my_fitting, my_leastFit, my_token, my_from, my_to, my_value, my_faultAt, Int32.reduceAdd, Int32.reduceSub, Int32.reduceMul, Int32.reduceLT, zqm0, zqm1, zqm2, zqm3, zqm4, zqm5, zqm6, zqm7, zqm8, zq0m, zq01, zq02, zq03, zq04, zq05, zq06, zq07, zq08, zq1m, zq10, zq12, zq13, zq14, zq15, zq16, zq17, zq18, zq2m, zq20, zq21, zq23, zq24, zq25, zq26, zq27, zq28, zq3m, zq30, zq31, zq32, zq34, zq35, zq36, zq37, zq38, zq4m, zq40, zq41, zq42, zq43, zq45, zq46, zq47, zq48, zq5m, zq50, zq51, zq52, zq53, zq54, zq56, zq57, zq58, zq6m, zq60, zq61, zq62, zq63, zq64, zq65, zq67, zq68, zq7m, zq70, zq71, zq72, zq73, zq74, zq75, zq76, zq78, zq8m, zq80, zq81, zq82, zq83, zq84, zq85, zq86, zq87, Int32.reduceOfNat, show ((0 : Int32) + -1 < 0) = True by decide, l2]
theorem mb_feed (h0 : ¬ wi z 1 4 = true) : OpR 191 [.int x, .int z] S K Y (.int (-1000001)) S K (fnY 0 Y) := by
  intro a h B A
  refine ⟨B, A, fnY 0 Y, ?_, fun k hk => rfl⟩
  rw [Ec_go rfl]; show Rn 191 (0, [some (.ref 50), some (.int x), some (.int z), none], [], a, mw h S K B A Y) = _
  simp only [r191_0, r191_1, r191_2, r191_3, r191_6, r191_9, r191_12, r191_13, r191_15, r191_18, r191_19, r191_20, r191_23, r191_24, r191_25, r191_27, r191_30, r191_31, r191_33, r191_36, r191_37, r191_38, r191_39, r191_40, r191_42, r191_45, r191_46, r191_49, r191_50, r191_53, r191_54, r191_56, r191_57, r191_58, r191_59, r191_62, r191_63, r191_64, r191_65, r191_66, r191_69, r191_70, r191_71, r191_74, r191_77, r191_80, r191_81, r191_84, Nl_none, Nl_int, Nl_ref, Nl_null, Kv_some, Ki_some, Kh_some, Bk_some, Bk_void, ↓reduceIte, mrt10, mrt11, zl2, zl3, zl4, zl8, Bool.false_eq_true, my_s, my_mis, my_kept, my_before, my_aside, my_isKept, my_findings, my_tape, my_taped, my_bitsOf, my_sizes, my_numbers, my_fitting, my_leastFit, my_token, my_from, my_to, my_value, my_faultAt, Int32.reduceAdd, Int32.reduceSub, Int32.reduceMul, Int32.reduceLT, zqm0, zqm1, zqm2, zqm3, zqm4, zqm5, zqm6, zqm7, zqm8, zq0m, zq01, zq02, zq03, zq04, zq05, zq06, zq07, zq08, zq1m, zq10, zq12, zq13, zq14, zq15, zq16, zq17, zq18, zq2m, zq20, zq21, zq23, zq24, zq25, zq26, zq27, zq28, zq3m, zq30, zq31, zq32, zq34, zq35, zq36, zq37, zq38, zq4m, zq40, zq41, zq42, zq43, zq45, zq46, zq47, zq48, zq5m, zq50, zq51, zq52, zq53, zq54, zq56, zq57, zq58, zq6m, zq60, zq61, zq62, zq63, zq64, zq65, zq67, zq68, zq7m, zq70, zq71, zq72, zq73, zq74, zq75, zq76, zq78, zq8m, zq80, zq81, zq82, zq83, zq84, zq85, zq86, zq87, m_isLayer, m_isColour, m_isSheet, mi_0_999, mi_0_5, mi_0_9, mi_0_6, mi_0_8, mi_1_60, mi_1_5, mi_0_100, mi_0_30, mi_0_40, mi_0_20, mi_1_20, mi_0_1, mi_1_4, mi_m1_6, mi_0x, mf_0, mf_1, mf_2, mf_3, mf_4, mf_5, mf_6, b2i, h0]
theorem mb_feedF {L : Nat} (h0 : wi z 1 4 = true) (hL : Y 1 = Int32.ofNat L) (h2 : L ≤ 120) (h1 : ¬ L + iN z ≤ 120) : OpR 191 [.int x, .int z] S K Y (.int (-1000002)) S K (fnY 1 Y) := by
  intro a h B A
  obtain ⟨m, hm0, hm, rfl⟩ := wi_nat1 4 (by decide) h0
  rw [iN_of (by omega)] at h1
  have lt : ((120 : Int32) < Int32.ofNat L + Int32.ofNat m) = True := by rw [of_add]; exact ltT (k := 120) (by omega) (by omega)
  refine ⟨B, A, fnY 1 Y, ?_, fun k hk => rfl⟩
  rw [Ec_go rfl]; show Rn 191 (0, [some (.ref 50), some (.int x), some (.int (Int32.ofNat m)), none], [], a, mw h S K B A Y) = _
  simp only [r191_0, r191_1, r191_2, r191_3, r191_6, r191_9, r191_12, r191_13, r191_15, r191_18, r191_19, r191_20, r191_23, r191_24, r191_25, r191_27, r191_30, r191_31, r191_33, r191_36, r191_37, r191_38, r191_39, r191_40, r191_42, r191_45, r191_46, r191_49, r191_50, r191_53, r191_54, r191_56, r191_57, r191_58, r191_59, r191_62, r191_63, r191_64, r191_65, r191_66, r191_69, r191_70, r191_71, r191_74, r191_77, r191_80, r191_81, r191_84, Nl_none, Nl_int, Nl_ref, Nl_null, Kv_some, Ki_some, Kh_some, Bk_some, Bk_void, ↓reduceIte, mrt10, mrt11, zl2, zl3, zl4, zl8, Bool.false_eq_true, my_s, my_mis, my_kept, my_before, my_aside, my_isKept, my_findings, my_tape, my_taped, my_bitsOf, my_sizes, my_numbers, my_fitting, my_leastFit, my_token, my_from, my_to, my_value, my_faultAt, Int32.reduceAdd, Int32.reduceSub, Int32.reduceMul, Int32.reduceLT, zqm0, zqm1, zqm2, zqm3, zqm4, zqm5, zqm6, zqm7, zqm8, zq0m, zq01, zq02, zq03, zq04, zq05, zq06, zq07, zq08, zq1m, zq10, zq12, zq13, zq14, zq15, zq16, zq17, zq18, zq2m, zq20, zq21, zq23, zq24, zq25, zq26, zq27, zq28, zq3m, zq30, zq31, zq32, zq34, zq35, zq36, zq37, zq38, zq4m, zq40, zq41, zq42, zq43, zq45, zq46, zq47, zq48, zq5m, zq50, zq51, zq52, zq53, zq54, zq56, zq57, zq58, zq6m, zq60, zq61, zq62, zq63, zq64, zq65, zq67, zq68, zq7m, zq70, zq71, zq72, zq73, zq74, zq75, zq76, zq78, zq8m, zq80, zq81, zq82, zq83, zq84, zq85, zq86, zq87, m_isLayer, m_isColour, m_isSheet, mi_0_999, mi_0_5, mi_0_9, mi_0_6, mi_0_8, mi_1_60, mi_1_5, mi_0_100, mi_0_30, mi_0_40, mi_0_20, mi_1_20, mi_0_1, mi_1_4, mi_m1_6, mi_0x, mf_0, mf_1, mf_2, mf_3, mf_4, mf_5, mf_6, b2i, h0, hL, lt]
/-- a shift with sign and one without have the same lowest byte, up to 24 places -/
theorem sh_byte {x : Int32} {i : Nat} (hi : i < 4) : (x.toUInt32 >>> (Int32.toUInt32 (Int32.ofNat (8 * i)) &&& Int32.toUInt32 31)).toInt32 &&& 255 = x >>> (Int32.ofNat (8 * i) &&& 31) &&& 255 := by
  have bits : ∀ (u : BitVec 32) (s : Nat), s ≤ 24 → (u >>> s) &&& 255#32 = (u.sshiftRight s) &&& 255#32 := by
    intro u s hs
    apply BitVec.eq_of_getLsbD_eq
    intro j hj
    rw [BitVec.getLsbD_and, BitVec.getLsbD_and]
    by_cases q : j < 8
    · rw [BitVec.getLsbD_ushiftRight, BitVec.getLsbD_sshiftRight]
      have h1 : decide (32 ≤ j) = false := by simp; omega
      have h2 : s + j < 32 := by omega
      simp [h1, h2]
    · have : (255#32).getLsbD j = false := by
        have : ∀ j < 32, ¬ j < 8 → (255#32).getLsbD j = false := by decide
        exact this j hj q
      rw [this, Bool.and_false, Bool.and_false]
  apply Int32.toBitVec_inj.mp
  have c : i = 0 ∨ i = 1 ∨ i = 2 ∨ i = 3 := by omega
  rcases c with rfl | rfl | rfl | rfl
  · exact bits x.toBitVec 0 (by omega)
  · exact bits x.toBitVec 8 (by omega)
  · exact bits x.toBitVec 16 (by omega)
  · exact bits x.toBitVec 24 (by omega)
end
