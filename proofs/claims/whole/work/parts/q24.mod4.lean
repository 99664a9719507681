/-! ===== the reference: isIn, finds, rows copied, sets counted, sums, what will be ===== -/
/-- the least of m numbers from k on for which p holds -/
def fnd (p : Nat → Bool) : Nat → Nat → Option Nat
  | _, 0 => none
  | k, m + 1 => if p k = true then some k else fnd p (k + 1) m
theorem fnd_eq {p q : Nat → Bool} {N : Nat} (h : ∀ k, k < N → p k = q k) : ∀ m k, k + m = N → fnd p k m = fnd q k m := by
  intro m
  induction m with
  | zero => intro k _; rfl
  | succ m ih =>
    intro k e
    show (if p k = true then some k else fnd p (k + 1) m) = if q k = true then some k else fnd q (k + 1) m
    rw [h k (by omega), ih (k + 1) (by omega)]
theorem fnd_lt {p : Nat → Bool} : ∀ m k j, fnd p k m = some j → k ≤ j ∧ j < k + m ∧ p j = true := by
  intro m
  induction m with
  | zero => intro k j e; cases e
  | succ m ih =>
    intro k j e
    have e : (if p k = true then some k else fnd p (k + 1) m) = some j := e
    by_cases q : p k = true
    · rw [if_pos q] at e; cases e; exact ⟨by omega, by omega, q⟩
    · rw [if_neg q] at e
      have := ih (k + 1) j e
      exact ⟨by omega, by omega, this.2.2⟩
/-- a loop that ends at the first number for which p holds -/
theorem lp_find {α : Type} {M : Nat} {X : Nat → α → MS} {f : Nat → α → α} {P : Nat → α → Prop} {p : Nat → Bool} {Q : Option Nat → Option MR → Prop} {N : Nat} (hit : ∀ k s, k < N → P k s → p k = true → Q (some k) (Rn M (X k s))) (go : ∀ k s, k < N → P k s → p k = false → Rn M (X k s) = Rn M (X (k + 1) (f k s)) ∧ P (k + 1) (f k s)) (last : ∀ s, P N s → Q none (Rn M (X N s))) : ∀ m k s, k + m = N → P k s → Q (fnd p k m) (Rn M (X k s)) := by
  intro m
  induction m with
  | zero => intro k s h q; subst h; exact last s q
  | succ m ih =>
    intro k s h q
    show Q (if p k = true then some k else fnd p (k + 1) m) _
    by_cases e : p k = true
    · rw [if_pos e]; exact hit k s (by omega) q e
    · rw [if_neg e]
      have g := go k s (by omega) q (by simpa using e)
      rw [g.1]; exact ih (k + 1) _ (by omega) g.2
theorem lpf_c {α : Type} {g : α → α} : ∀ m k (s : α), lpf (fun _ => g) k (m + 1) s = g (lpf (fun _ => g) k m s) := by
  intro m
  induction m with
  | zero => intro k s; rfl
  | succ m ih => intro k s; exact ih (k + 1) (g s)
theorem ys_succ {out : Int32} {n m : Nat} {T : TS} : ysT out n (m + 1) T = yrT out n (ysT out n m T) := lpf_c m 0 T
theorem lc_lt {l m : Int64} : ((if l < m then (-1 : Int32) else if l = m then 0 else 1) < 0) = (l < m) := by
  by_cases q : l < m
  · rw [if_pos q]; simp only [q]; decide
  · rw [if_neg q]
    by_cases r : l = m
    · rw [if_pos r]; simp only [q]; decide
    · rw [if_neg r]; simp only [q]; decide
theorem lc_gt {l m : Int64} : (0 < (if l < m then (-1 : Int32) else if l = m then 0 else 1)) = (m < l) := by
  have t : ∀ {x y : Int64}, (x < y) = (x.toInt < y.toInt) := by intro x y; rw [Int64.lt_iff_toInt_lt]
  by_cases q : l < m
  · rw [if_pos q]
    have : ¬ m < l := by rw [t] at q ⊢; omega
    simp only [this]; decide
  · rw [if_neg q]
    by_cases r : l = m
    · rw [if_pos r]
      have : ¬ m < l := by rw [t, r]; omega
      simp only [this]; decide
    · rw [if_neg r]
      have : m < l := by
        rw [t] at q ⊢
        have r : ¬ l.toInt = m.toInt := fun e => r (Int64.toInt_inj.mp e)
        omega
      simp only [this]; decide
theorem l64 {x y : Int32} : (x.toInt64 < y.toInt64) = (x < y) := by
  rw [Int64.lt_iff_toInt_lt, Int32.lt_iff_toInt_lt, Int32.toInt_toInt64, Int32.toInt_toInt64]
section
variable {a : MA} {h : MH} {S K B A Y : TS} {x y z v w out : Int32} {t n k m : Nat}
theorem m_isIn : Ec 123 [.long x.toInt64, .long y.toInt64, .long z.toInt64] a h = some (some (.int (b2i (wi x y z))), a, h) := by
  rw [Ec_go rfl]; show Rn 123 (0, [some (.long x.toInt64), none, some (.long y.toInt64), none, some (.long z.toInt64), none], [], a, h) = _
  simp only [r123_0, r123_1, r123_2, r123_3, r123_6, r123_7, r123_9, r123_10, r123_13, r123_14, r123_17, r123_18, Nl_none, Nl_int, Nl_ref, Nl_null, Kv_some, Ki_some, Kh_some, Bk_some, Bk_void, ↓reduceIte, mrt10, mrt11, zl2, zl3, zl4, zl8, Bool.false_eq_true, lc_lt, lc_gt]
  simp only [l64]
  exact two_bars' (P := x < y) (Q := z < x) (F := fun v => some (some (Value.int v), a, h))
theorem mi_0_999 : Ec 123 [.long x.toInt64, .long (0 : Int64), .long (999 : Int64)] a h = some (some (.int (b2i (wi x 0 999))), a, h) := m_isIn (y := 0) (z := 999)
theorem mi_0_5 : Ec 123 [.long x.toInt64, .long (0 : Int64), .long (5 : Int64)] a h = some (some (.int (b2i (wi x 0 5))), a, h) := m_isIn (y := 0) (z := 5)
theorem mi_0_9 : Ec 123 [.long x.toInt64, .long (0 : Int64), .long (9 : Int64)] a h = some (some (.int (b2i (wi x 0 9))), a, h) := m_isIn (y := 0) (z := 9)
theorem mi_0_6 : Ec 123 [.long x.toInt64, .long (0 : Int64), .long (6 : Int64)] a h = some (some (.int (b2i (wi x 0 6))), a, h) := m_isIn (y := 0) (z := 6)
theorem mi_0_8 : Ec 123 [.long x.toInt64, .long (0 : Int64), .long (8 : Int64)] a h = some (some (.int (b2i (wi x 0 8))), a, h) := m_isIn (y := 0) (z := 8)
theorem mi_1_60 : Ec 123 [.long x.toInt64, .long (1 : Int64), .long (60 : Int64)] a h = some (some (.int (b2i (wi x 1 60))), a, h) := m_isIn (y := 1) (z := 60)
theorem mi_1_5 : Ec 123 [.long x.toInt64, .long (1 : Int64), .long (5 : Int64)] a h = some (some (.int (b2i (wi x 1 5))), a, h) := m_isIn (y := 1) (z := 5)
theorem mi_0_100 : Ec 123 [.long x.toInt64, .long (0 : Int64), .long (100 : Int64)] a h = some (some (.int (b2i (wi x 0 100))), a, h) := m_isIn (y := 0) (z := 100)
theorem mi_0_30 : Ec 123 [.long x.toInt64, .long (0 : Int64), .long (30 : Int64)] a h = some (some (.int (b2i (wi x 0 30))), a, h) := m_isIn (y := 0) (z := 30)
theorem mi_0_40 : Ec 123 [.long x.toInt64, .long (0 : Int64), .long (40 : Int64)] a h = some (some (.int (b2i (wi x 0 40))), a, h) := m_isIn (y := 0) (z := 40)
theorem mi_0_20 : Ec 123 [.long x.toInt64, .long (0 : Int64), .long (20 : Int64)] a h = some (some (.int (b2i (wi x 0 20))), a, h) := m_isIn (y := 0) (z := 20)
theorem mi_1_20 : Ec 123 [.long x.toInt64, .long (1 : Int64), .long (20 : Int64)] a h = some (some (.int (b2i (wi x 1 20))), a, h) := m_isIn (y := 1) (z := 20)
theorem mi_0_1 : Ec 123 [.long x.toInt64, .long (0 : Int64), .long (1 : Int64)] a h = some (some (.int (b2i (wi x 0 1))), a, h) := m_isIn (y := 0) (z := 1)
theorem mi_1_4 : Ec 123 [.long x.toInt64, .long (1 : Int64), .long (4 : Int64)] a h = some (some (.int (b2i (wi x 1 4))), a, h) := m_isIn (y := 1) (z := 4)
theorem mi_m1_6 : Ec 123 [.long x.toInt64, .long (-1 : Int64), .long (6 : Int64)] a h = some (some (.int (b2i (wi x (-1) 6))), a, h) := m_isIn (y := -1) (z := 6)
theorem mi_0x : Ec 123 [.long x.toInt64, .long (0 : Int64), .long z.toInt64] a h = some (some (.int (b2i (wi x 0 z))), a, h) := m_isIn (y := 0)
def fnX (i : Nat) (X : TS) : TS := mfu X (10 + i) (X (10 + i) + 1)
def fnY (i : Nat) (Y : TS) : TS := mfu (mfu Y 10 (Y 10 + 1)) (11 + i) (Y (11 + i) + 1)
theorem ml_find0 : mld (mw h S K B A Y) 55 0 false = some (Y 10) := ml_find (i := 0) (by decide)
theorem mp_find0 : mias (mw h S K B A Y) 55 0 v = some (mw h S K B A (mfu Y 10 v)) := mp_find (i := 0) (by decide)
theorem m_finds {f : Int32} {i : Nat} (hf : -1000001 - f = Int32.ofNat i) (hi : i < 7) : Ec 124 [.ref 50, .int f] a (mw h S K B A Y) = some (some (.int f), a, mw h S K B A (fnY i Y)) := by
  have e1 : ∀ v, mfu Y 10 v (10 + (i + 1)) = Y (11 + i) := fun v => by rw [fu_ne (by omega), show 10 + (i + 1) = 11 + i by omega]
  have e2 : 10 + (i + 1) = 11 + i := by omega
  have h8 : i + 1 < 8 := by omega
  rw [Ec_go rfl]; show Rn 124 (0, [some (.ref 50), some (.int f)], [], a, mw h S K B A Y) = _
  simp only [r124_0, r124_1, r124_4, r124_5, r124_6, r124_7, r124_8, r124_9, r124_10, r124_11, r124_14, r124_16, r124_17, r124_18, r124_19, r124_20, r124_21, r124_22, r124_23, r124_24, r124_25, r124_26, Nl_none, Nl_int, Nl_ref, Nl_null, Kv_some, Ki_some, Kh_some, Bk_some, Bk_void, ↓reduceIte, mrt10, mrt11, zl2, zl3, zl4, zl8, Bool.false_eq_true, my_s, my_mis, my_kept, my_before, my_aside, my_isKept, my_findings, my_tape, my_taped, my_bitsOf, my_sizes, my_numbers, my_fitting, my_leastFit, my_token, my_from, my_to, my_value, my_faultAt, ml_find0, mp_find0, hf, of_in, ml_find h8, mp_find h8, e1, fnY]
  rw [e2]
theorem mf_0 : Ec 124 [.ref 50, .int (-1000001)] a (mw h S K B A Y) = some (some (.int (-1000001)), a, mw h S K B A (fnY 0 Y)) := m_finds (i := 0) (by decide) (by decide)
theorem mf_1 : Ec 124 [.ref 50, .int (-1000002)] a (mw h S K B A Y) = some (some (.int (-1000002)), a, mw h S K B A (fnY 1 Y)) := m_finds (i := 1) (by decide) (by decide)
theorem mf_2 : Ec 124 [.ref 50, .int (-1000003)] a (mw h S K B A Y) = some (some (.int (-1000003)), a, mw h S K B A (fnY 2 Y)) := m_finds (i := 2) (by decide) (by decide)
theorem mf_3 : Ec 124 [.ref 50, .int (-1000004)] a (mw h S K B A Y) = some (some (.int (-1000004)), a, mw h S K B A (fnY 3 Y)) := m_finds (i := 3) (by decide) (by decide)
theorem mf_4 : Ec 124 [.ref 50, .int (-1000005)] a (mw h S K B A Y) = some (some (.int (-1000005)), a, mw h S K B A (fnY 4 Y)) := m_finds (i := 4) (by decide) (by decide)
theorem mf_5 : Ec 124 [.ref 50, .int (-1000006)] a (mw h S K B A Y) = some (some (.int (-1000006)), a, mw h S K B A (fnY 5 Y)) := m_finds (i := 5) (by decide) (by decide)
theorem mf_6 : Ec 124 [.ref 50, .int (-1000007)] a (mw h S K B A Y) = some (some (.int (-1000007)), a, mw h S K B A (fnY 6 Y)) := m_finds (i := 6) (by decide) (by decide)
theorem mup_mup {hh : MH} {q : Nat} {c c' : MC} : mup (mup hh q c) q c' = mup hh q c' := by
  funext p; unfold mup
  by_cases e : p = q
  · rw [if_pos e, if_pos e]
  · rw [if_neg e, if_neg e, if_neg e]
theorem mup_id {hh : MH} {q : Nat} {c : MC} (e : hh q = c) : mup hh q c = hh := by
  funext p; unfold mup
  by_cases r : p = q
  · rw [if_pos r, r, e]
  · rw [if_neg r]
theorem m_copyRow {hh : MH} {F G : TS} {q0 q1 : Nat} (h0 : hh q0 = .inl (86, fun i => if i < 86 then F i else 0)) (h1 : hh q1 = .inl (86, fun i => if i < 86 then G i else 0)) (hne : q0 ≠ q1) : Ec 126 [.ref q0, .ref q1] a hh = some (none, a, mup hh q1 (.inl (86, fun i => if i < 86 then F i else 0))) := by
  have L := lp_up (M := 126) (X := fun k (s : Nat) => (2, [some (.ref q0), some (.ref q1), some (.int (Int32.ofNat k))], [], a, mup hh q1 (.inl (86, fun i => if i < 86 then (if i < k then F i else G i) else 0)))) (f := fun _ s => s) (P := fun _ _ => True) (N := 86) (fun k s hk _ => ⟨by
    have lt : (Int32.ofNat k < (86 : Int32)) = True := ltT (m := 86) hk (by decide)
    have e := iN_of (n := k) (by omega)
    have e0 : ¬ Int32.ofNat k < 0 := by rw [of_nn (by omega)]; exact id
    unfold iN at e
    have l1 : mld (mup hh q1 (.inl (86, fun i => if i < 86 then (if i < k then F i else G i) else 0))) q0 (Int32.ofNat k) false = some (F k) := by
      have : mup hh q1 (.inl (86, fun i => if i < 86 then (if i < k then F i else G i) else 0)) q0 = hh q0 := if_neg hne
      simp only [mld, this, h0, if_neg e0, e]
      rw [if_pos hk, if_pos hk]; rfl
    have p1 : mias (mup hh q1 (.inl (86, fun i => if i < 86 then (if i < k then F i else G i) else 0))) q1 (Int32.ofNat k) (F k) = some (mup hh q1 (.inl (86, fun i => if i < 86 then (if i < k + 1 then F i else G i) else 0))) := by
      have : mup hh q1 (.inl (86, fun i => if i < 86 then (if i < k then F i else G i) else 0)) q1 = .inl (86, fun i => if i < 86 then (if i < k then F i else G i) else 0) := if_pos rfl
      simp only [mias, this, if_neg e0, e, if_pos hk, mup_mup]
      refine congrArg (fun z => some (mup hh q1 (.inl (86, z)))) ?_
      funext j; unfold mfu
      by_cases r : j = k
      · subst r; rw [if_pos rfl, if_pos hk, if_pos (by omega)]
      · rw [if_neg r]
        show (if j < 86 then (if j < k then F j else G j) else 0) = _
        by_cases r2 : j < 86
        · rw [if_pos r2, if_pos r2]
          by_cases r3 : j < k
          · rw [if_pos r3, if_pos (by omega)]
          · rw [if_neg r3, if_neg (by omega)]
        · rw [if_neg r2, if_neg r2]
    show Rn 126 (2, [some (.ref q0), some (.ref q1), some (.int (Int32.ofNat k))], [], a, mup hh q1 (.inl (86, fun i => if i < 86 then (if i < k then F i else G i) else 0))) = Rn 126 (2, [some (.ref q0), some (.ref q1), some (.int (Int32.ofNat (k + 1)))], [], a, mup hh q1 (.inl (86, fun i => if i < 86 then (if i < k + 1 then F i else G i) else 0)))
    generalize mup hh q1 (.inl (86, fun i => if i < 86 then (if i < k then F i else G i) else 0)) = H at l1 p1 ⊢
    generalize mup hh q1 (.inl (86, fun i => if i < 86 then (if i < k + 1 then F i else G i) else 0)) = H' at p1 ⊢
    rw [r126_2]
    simp only [r126_0, r126_1, r126_3, r126_5, r126_8, r126_9, r126_10, r126_11, r126_12, r126_13, r126_14, r126_17, r126_20, Nl_none, Nl_int, Nl_ref, Nl_null, Kv_some, Ki_some, Kh_some, Bk_some, Bk_void, ↓reduceIte, mrt10, mrt11, zl2, zl3, zl4, zl8, Bool.false_eq_true, lt, l1, p1, of_in], trivial⟩) 86 0 0 (by omega) trivial
  rw [Ec_go rfl]; show Rn 126 (0, [some (.ref q0), some (.ref q1), none], [], a, hh) = _
  simp only [r126_0, r126_1, r126_3, r126_5, r126_8, r126_9, r126_10, r126_11, r126_12, r126_13, r126_14, r126_17, r126_20, Nl_none, Nl_int, Nl_ref, Nl_null, Kv_some, Ki_some, Kh_some, Bk_some, Bk_void, ↓reduceIte, mrt10, mrt11, zl2, zl3, zl4, zl8, Bool.false_eq_true]
  have E0 : mup hh q1 (.inl (86, fun i => if i < 86 then (if i < 0 then F i else G i) else 0)) = hh := mup_id (by rw [h1]; rfl)
  have E1 : mup hh q1 (.inl (86, fun i => if i < 86 then (if i < 86 then F i else G i) else 0)) = mup hh q1 (.inl (86, fun i => if i < 86 then F i else 0)) := by
    refine congrArg (fun z => mup hh q1 (.inl (86, z))) (funext fun i => ?_)
    by_cases r : i < 86
    · rw [if_pos r, if_pos r, if_pos r]
    · rw [if_neg r, if_neg r]
  have L1 : Rn 126 (2, [some (.ref q0), some (.ref q1), some (.int 0)], [], a, mup hh q1 (.inl (86, fun i => if i < 86 then (if i < 0 then F i else G i) else 0))) = Rn 126 (2, [some (.ref q0), some (.ref q1), some (.int 86)], [], a, mup hh q1 (.inl (86, fun i => if i < 86 then (if i < 86 then F i else G i) else 0))) := L.1
  rw [E0, E1] at L1
  rw [L1, r126_2]
  simp only [r126_0, r126_1, r126_3, r126_5, r126_8, r126_9, r126_10, r126_11, r126_12, r126_13, r126_14, r126_17, r126_20, Nl_none, Nl_int, Nl_ref, Nl_null, Kv_some, Ki_some, Kh_some, Bk_some, Bk_void, ↓reduceIte, mrt10, mrt11, zl2, zl3, zl4, zl8, Bool.false_eq_true, Int32.reduceAdd, Int32.reduceSub, Int32.reduceMul, Int32.reduceLT, zqm0, zqm1, zqm2, zqm3, zqm4, zqm5, zqm6, zqm7, zqm8, zq0m, zq01, zq02, zq03, zq04, zq05, zq06, zq07, zq08, zq1m, zq10, zq12, zq13, zq14, zq15, zq16, zq17, zq18, zq2m, zq20, zq21, zq23, zq24, zq25, zq26, zq27, zq28, zq3m, zq30, zq31, zq32, zq34, zq35, zq36, zq37, zq38, zq4m, zq40, zq41, zq42, zq43, zq45, zq46, zq47, zq48, zq5m, zq50, zq51, zq52, zq53, zq54, zq56, zq57, zq58, zq6m, zq60, zq61, zq62, zq63, zq64, zq65, zq67, zq68, zq7m, zq70, zq71, zq72, zq73, zq74, zq75, zq76, zq78, zq8m, zq80, zq81, zq82, zq83, zq84, zq85, zq86, zq87]
theorem mc_sa : Ec 126 [.ref 51, .ref 54] a (mw h S K B A Y) = some (none, a, mw h S K B S Y) := by
  rw [m_copyRow (hh := mw h S K B A Y) (q0 := 51) (q1 := 54) (F := S) (G := A) rfl rfl (by decide), mw_A]
theorem mc_as : Ec 126 [.ref 54, .ref 51] a (mw h S K B A Y) = some (none, a, mw h A K B A Y) := by
  rw [m_copyRow (hh := mw h S K B A Y) (q0 := 54) (q1 := 51) (F := A) (G := S) rfl rfl (by decide), mw_S]
theorem mc_sk : Ec 126 [.ref 51, .ref 52] a (mw h S K B A Y) = some (none, a, mw h S S B A Y) := by
  rw [m_copyRow (hh := mw h S K B A Y) (q0 := 51) (q1 := 52) (F := S) (G := K) rfl rfl (by decide), mw_K]
theorem mc_ks : Ec 126 [.ref 52, .ref 51] a (mw h S K B A Y) = some (none, a, mw h K K B A Y) := by
  rw [m_copyRow (hh := mw h S K B A Y) (q0 := 52) (q1 := 51) (F := K) (G := S) rfl rfl (by decide), mw_S]
theorem mc_sb : Ec 126 [.ref 51, .ref 53] a (mw h S K B A Y) = some (none, a, mw h S K S A Y) := by
  rw [m_copyRow (hh := mw h S K B A Y) (q0 := 51) (q1 := 53) (F := S) (G := B) rfl rfl (by decide), mw_B]
theorem mc_bs : Ec 126 [.ref 53, .ref 51] a (mw h S K B A Y) = some (none, a, mw h B K B A Y) := by
  rw [m_copyRow (hh := mw h S K B A Y) (q0 := 53) (q1 := 51) (F := B) (G := S) rfl rfl (by decide), mw_S]
/-! sets counted -/
def mnF : Nat → Int32 → Int32 → Int32
  | 0, _, c => c
  | k + 1, x, c => if x = 0 then c else mnF k (x &&& (x - 1)) (c + 1)
def mnZ : Nat → Int32 → Int32
  | 0, x => x
  | k + 1, x => mnZ k (x &&& (x - 1))
def mnS (x : Int32) : Int32 := mnF 8 x 0
theorem mn_z : ∀ k < 256, mnZ 8 (Int32.ofNat k) = 0 := by decide +kernel
theorem z_and : (0 : Int32) &&& (0 - 1) = 0 := by decide
theorem mnZ_0 : ∀ k, mnZ k 0 = 0 := by
  intro k
  induction k with
  | zero => rfl
  | succ k ih => show mnZ k (0 &&& (0 - 1)) = 0; rw [z_and]; exact ih
theorem m_manyL : ∀ (k : Nat) (x c : Int32), mnZ k x = 0 → ∀ x0 : Int32, Rn 136 (4, [some (.int x0), some (.int c), some (.int x)], [], a, h) = some (some (.int (mnF k x c)), a, h) := by
  intro k
  induction k with
  | zero =>
    intro x c e x0
    have e : x = 0 := e
    subst e
    rw [r136_4]
    simp only [r136_0, r136_1, r136_2, r136_3, r136_5, r136_8, r136_11, r136_12, r136_13, r136_14, r136_15, r136_16, r136_17, r136_20, r136_21, Nl_none, Nl_int, Nl_ref, Nl_null, Kv_some, Ki_some, Kh_some, Bk_some, Bk_void, ↓reduceIte, mrt10, mrt11, zl2, zl3, zl4, zl8, Bool.false_eq_true, mnF]
  | succ k ih =>
    intro x c e x0
    rw [r136_4]
    by_cases q : x = 0
    · simp only [r136_0, r136_1, r136_2, r136_3, r136_5, r136_8, r136_11, r136_12, r136_13, r136_14, r136_15, r136_16, r136_17, r136_20, r136_21, Nl_none, Nl_int, Nl_ref, Nl_null, Kv_some, Ki_some, Kh_some, Bk_some, Bk_void, ↓reduceIte, mrt10, mrt11, zl2, zl3, zl4, zl8, Bool.false_eq_true, mnF, q]
    · have e : mnZ k (x &&& (x - 1)) = 0 := e
      simp only [r136_0, r136_1, r136_2, r136_3, r136_5, r136_8, r136_11, r136_12, r136_13, r136_14, r136_15, r136_16, r136_17, r136_20, r136_21, Nl_none, Nl_int, Nl_ref, Nl_null, Kv_some, Ki_some, Kh_some, Bk_some, Bk_void, ↓reduceIte, mrt10, mrt11, zl2, zl3, zl4, zl8, Bool.false_eq_true, mnF, q]
      exact ih _ _ e x0
theorem m_many (hk : k < 256) : Ec 136 [.int (Int32.ofNat k)] a h = some (some (.int (mnS (Int32.ofNat k))), a, h) := by
  rw [Ec_go rfl]; show Rn 136 (0, [some (.int (Int32.ofNat k)), none, none], [], a, h) = _
  simp only [r136_0, r136_1, r136_2, r136_3, r136_5, r136_8, r136_11, r136_12, r136_13, r136_14, r136_15, r136_16, r136_17, r136_20, r136_21, Nl_none, Nl_int, Nl_ref, Nl_null, Kv_some, Ki_some, Kh_some, Bk_some, Bk_void, ↓reduceIte, mrt10, mrt11, zl2, zl3, zl4, zl8, Bool.false_eq_true]
  exact m_manyL 8 _ _ (mn_z k hk) _
def bcS (x : Int32) : Int32 :=
  let a1 := x - ((x.toUInt32 >>> (Int32.toUInt32 1 &&& Int32.toUInt32 31)).toInt32 &&& 1431655765)
  let a2 := (a1 &&& 858993459) + ((a1.toUInt32 >>> (Int32.toUInt32 2 &&& Int32.toUInt32 31)).toInt32 &&& 858993459)
  let a3 := a2 + (a2.toUInt32 >>> (Int32.toUInt32 4 &&& Int32.toUInt32 31)).toInt32 &&& 252645135
  let a4 := a3 + (a3.toUInt32 >>> (Int32.toUInt32 8 &&& Int32.toUInt32 31)).toInt32
  let a5 := a4 + (a4.toUInt32 >>> (Int32.toUInt32 16 &&& Int32.toUInt32 31)).toInt32
  a5 &&& 63
theorem bc_mn : ∀ k < 256, bcS (Int32.ofNat k) = mnS (Int32.ofNat k) := by decide +kernel
theorem e_bitCount (hk : k < 256) : Ec 226 [.int (Int32.ofNat k)] a h = some (some (.int (mnS (Int32.ofNat k))), a, h) := by
  rw [← bc_mn k hk]
  rw [Ec_go rfl]; show Rn 226 (0, [some (.int (Int32.ofNat k))], [], a, h) = _
  simp only [r226_0, r226_1, r226_2, r226_3, r226_4, r226_7, r226_8, r226_9, r226_10, r226_11, r226_14, r226_15, r226_16, r226_17, r226_18, r226_21, r226_22, r226_23, r226_24, r226_25, r226_26, r226_27, r226_28, r226_29, r226_32, r226_33, r226_34, r226_35, r226_36, r226_38, r226_39, r226_40, r226_41, r226_42, r226_43, r226_45, r226_46, r226_47, r226_48, r226_49, r226_51, r226_52, Nl_none, Nl_int, Nl_ref, Nl_null, Kv_some, Ki_some, Kh_some, Bk_some, Bk_void, ↓reduceIte, mrt10, mrt11, zl2, zl3, zl4, zl8, Bool.false_eq_true, bcS]
end
