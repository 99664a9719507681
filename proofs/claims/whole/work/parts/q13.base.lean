/-! ===== numbers, loops, and how a Tub stands ===== -/
theorem of_nn {n : Nat} (h : n < 2147483648) : (Int32.ofNat n < 0) = False := by
  rw [Int32.lt_iff_toInt_lt, Int32.toInt_ofNat_of_lt h]
  show ((n : Int) < 0) = False
  simp only [eq_iff_iff, iff_false]; omega
theorem of_lt {n m : Nat} (h : n < 2147483648) (h2 : m < 2147483648) : (Int32.ofNat n < Int32.ofNat m) = (n < m) := by
  rw [Int32.lt_iff_toInt_lt, Int32.toInt_ofNat_of_lt h, Int32.toInt_ofNat_of_lt h2]
  simp only [eq_iff_iff]; omega
theorem of_eq {n m : Nat} (h : n < 2147483648) (h2 : m < 2147483648) : (Int32.ofNat n = Int32.ofNat m) = (n = m) := by
  simp only [eq_iff_iff]
  constructor
  · intro e
    have := congrArg Int32.toInt e
    rw [Int32.toInt_ofNat_of_lt h, Int32.toInt_ofNat_of_lt h2] at this
    omega
  · intro e; rw [e]
theorem of_add (n m : Nat) : Int32.ofNat n + Int32.ofNat m = Int32.ofNat (n + m) := (Int32.ofNat_add n m).symm
theorem of_mul (n m : Nat) : Int32.ofNat n * Int32.ofNat m = Int32.ofNat (n * m) := (Int32.ofNat_mul n m).symm
theorem of_sub (n m : Nat) (h : m ≤ n) : Int32.ofNat n - Int32.ofNat m = Int32.ofNat (n - m) := (Int32.ofNat_sub n m h).symm
theorem iN_of {n : Nat} (h : n < 2147483648) : iN (Int32.ofNat n) = n := Int32.toNatClampNeg_ofNat_of_lt h
theorem of_iN {x : Int32} (h : ¬ x < 0) : Int32.ofNat (iN x) = x := Int32.ofNat_toNatClampNeg x (Int32.not_lt.mp h)
theorem iN_lt {x : Int32} {n : Nat} (h : ¬ x < 0) (h1 : x < Int32.ofNat n) (hn : n < 2147483648) : iN x < n := by
  rw [← of_iN h, of_lt (show iN x < 2147483648 from Int32.toNatClampNeg_lt x) hn] at h1
  exact h1
theorem of_in {n : Nat} : Int32.ofNat n + 1 = Int32.ofNat (n + 1) := of_add n 1
theorem ti_of {n : Nat} (h : n < 2147483648) : (Int32.ofNat n).toInt = n := Int32.toInt_ofNat_of_lt h
theorem ti_add {x y : Int32} (h1 : -2147483648 ≤ x.toInt + y.toInt) (h2 : x.toInt + y.toInt < 2147483648) : (x + y).toInt = x.toInt + y.toInt := by
  rw [Int32.toInt_add]; exact Int.bmod_eq_of_le (by omega) (by omega)
theorem ti_sub {x y : Int32} (h1 : -2147483648 ≤ x.toInt - y.toInt) (h2 : x.toInt - y.toInt < 2147483648) : (x - y).toInt = x.toInt - y.toInt := by
  rw [Int32.toInt_sub]; exact Int.bmod_eq_of_le (by omega) (by omega)
theorem ti_mul {x y : Int32} (h1 : -2147483648 ≤ x.toInt * y.toInt) (h2 : x.toInt * y.toInt < 2147483648) : (x * y).toInt = x.toInt * y.toInt := by
  rw [Int32.toInt_mul]; exact Int.bmod_eq_of_le (by omega) (by omega)
theorem lt_ti {x y : Int32} : (x < y) = (x.toInt < y.toInt) := by rw [Int32.lt_iff_toInt_lt]
theorem eq_ti {x y : Int32} : (x = y) = (x.toInt = y.toInt) := by rw [Int32.toInt_inj]
/-- a loop: its state at each turn -/
def lpf {α : Type} (f : Nat → α → α) : Nat → Nat → α → α
  | _, 0, s => s
  | k, m + 1, s => lpf f (k + 1) m (f k s)
theorem lp_up {α : Type} {M : Nat} {X : Nat → α → MS} {f : Nat → α → α} {P : Nat → α → Prop} {N : Nat} (hs : ∀ n s, n < N → P n s → Rn M (X n s) = Rn M (X (n + 1) (f n s)) ∧ P (n + 1) (f n s)) : ∀ m n s, n + m = N → P n s → Rn M (X n s) = Rn M (X N (lpf f n m s)) ∧ P N (lpf f n m s) := by
  intro m
  induction m with
  | zero => intro n s h p; subst h; exact ⟨rfl, p⟩
  | succ m ih =>
    intro n s h p
    have h1 := hs n s (by omega) p
    have h2 := ih (n + 1) (f n s) (by omega) h1.2
    exact ⟨h1.1.trans h2.1, h2.2⟩
theorem lpf_inv {α : Type} {f : Nat → α → α} {P : Nat → α → Prop} {N : Nat} (hs : ∀ n s, n < N → P n s → P (n + 1) (f n s)) : ∀ m n s, n + m = N → P n s → P N (lpf f n m s) := by
  intro m
  induction m with
  | zero => intro n s h p; subst h; exact p
  | succ m ih => intro n s h p; exact ih (n + 1) (f n s) (by omega) (hs n s (by omega) p)
/-- two loops beside each other -/
theorem lpf_rel {α β : Type} {f : Nat → α → α} {g : Nat → β → β} {P : Nat → α → β → Prop} {N : Nat} (hs : ∀ n s t, n < N → P n s t → P (n + 1) (f n s) (g n t)) : ∀ m n s t, n + m = N → P n s t → P N (lpf f n m s) (lpf g n m t) := by
  intro m
  induction m with
  | zero => intro n s t h p; subst h; exact p
  | succ m ih => intro n s t h p; exact ih (n + 1) (f n s) (g n t) (by omega) (hs n s t (by omega) p)
/-- a search: from k on, m turns at most -/
def srf {α : Type} (p : α → Bool) (f : α → α) : Nat → Nat → α → Option Nat
  | _, 0, _ => none
  | k, m + 1, s => if p s = true then some k else srf p f (k + 1) m (f s)
/-- which numbers of a Tub count: a Tub of n things -/
def vsb (n k : Nat) : Prop := k < 28 + 6 * n ∨ (76 ≤ k ∧ k < 86)
def loB (k : Nat) : Int := if k = 2 then -2147483648 else if 76 ≤ k then -1 else 0
def hiB (n k : Nat) : Int := if k = 1 then 99999 else if k = 2 then 2147483647 else if k = 3 then 9 else if k < 28 then 999 else if k < 76 then (if (k - 28) % 6 = 0 then 6 else if (k - 28) % 6 = 1 then 7 else if (k - 28) % 6 = 2 then 2 else 999) else (n : Int) - 1
/-- two rows of numbers stand for one Tub of n things, which is as it should be -/
def SR (n : Nat) (T U : TS) : Prop := n ≤ 8 ∧ T 0 = Int32.ofNat n ∧ U 0 = Int32.ofNat n ∧ ∀ k, 0 < k → vsb n k → T k = U k ∧ loB k ≤ (T k).toInt ∧ (T k).toInt ≤ hiB n k
abbrev Ok (n : Nat) (T : TS) : Prop := SR n T T
theorem SR.ok {n : Nat} {T U : TS} (h : SR n T U) : Ok n T := ⟨h.1, h.2.1, h.2.1, fun k h0 hk => ⟨rfl, (h.2.2.2 k h0 hk).2⟩⟩
theorem SR.sy {n : Nat} {T U : TS} (h : SR n T U) : SR n U T := ⟨h.1, h.2.2.1, h.2.1, fun k h0 hk => by have := h.2.2.2 k h0 hk; rw [← this.1]; exact ⟨rfl, this.2⟩⟩
theorem SR.tr {n : Nat} {T U V : TS} (h : SR n T U) (h2 : SR n U V) : SR n T V := ⟨h.1, h.2.1, h2.2.2.1, fun k h0 hk => ⟨(h.2.2.2 k h0 hk).1.trans (h2.2.2.2 k h0 hk).1, (h.2.2.2 k h0 hk).2⟩⟩
theorem SR.up {n : Nat} {T U : TS} {k : Nat} {v : Int32} (h : SR n T U) (h0 : 0 < k) (hv : vsb n k → loB k ≤ v.toInt ∧ v.toInt ≤ hiB n k) : SR n (mfu T k v) (mfu U k v) := by
  refine ⟨h.1, ?_, ?_, fun j h0 hj => ?_⟩
  · rw [fu_ne (by omega)]; exact h.2.1
  · rw [fu_ne (by omega)]; exact h.2.2.1
  · by_cases e : j = k
    · subst e; rw [fu_at, fu_at]; exact ⟨rfl, hv hj⟩
    · rw [fu_ne e, fu_ne e]; exact h.2.2.2 j h0 hj
section
variable {n t : Nat} {T U : TS}
theorem sr_n8 (h : SR n T U) : n ≤ 8 := h.1
theorem sr_kind (h : SR n T U) (ht : t < n) : U (28 + 6 * t) = T (28 + 6 * t) := (h.2.2.2 _ (by omega) (Or.inl (by omega))).1.symm
theorem sr_layer (h : SR n T U) (ht : t < n) : U (29 + 6 * t) = T (29 + 6 * t) := (h.2.2.2 _ (by omega) (Or.inl (by omega))).1.symm
theorem sr_colour (h : SR n T U) (ht : t < n) : U (30 + 6 * t) = T (30 + 6 * t) := (h.2.2.2 _ (by omega) (Or.inl (by omega))).1.symm
theorem sr_holds (h : SR n T U) (ht : t < n) : U (31 + 6 * t) = T (31 + 6 * t) := (h.2.2.2 _ (by omega) (Or.inl (by omega))).1.symm
theorem sr_soaked (h : SR n T U) (ht : t < n) : U (32 + 6 * t) = T (32 + 6 * t) := (h.2.2.2 _ (by omega) (Or.inl (by omega))).1.symm
theorem sr_seen (h : SR n T U) (ht : t < n) : U (33 + 6 * t) = T (33 + 6 * t) := (h.2.2.2 _ (by omega) (Or.inl (by omega))).1.symm
theorem sr_low {k : Nat} (h : SR n T U) (h0 : 0 < k) (hk : k < 28) : U k = T k := (h.2.2.2 _ h0 (Or.inl (by omega))).1.symm
theorem sr_spot {k : Nat} (h : SR n T U) (hk : k < 10) : U (76 + k) = T (76 + k) := (h.2.2.2 _ (by omega) (Or.inr (by omega))).1.symm
theorem rg_kind (h : SR n T U) (ht : t < n) : 0 ≤ (T (28 + 6 * t)).toInt ∧ (T (28 + 6 * t)).toInt ≤ 6 := by
  have h8 := h.1
  have := (h.2.2.2 (28 + 6 * t) (by omega) (Or.inl (by omega))).2
  have a1 : ¬ 28 + 6 * t = 1 := by omega
  have a2 : ¬ 28 + 6 * t = 2 := by omega
  have a3 : ¬ 28 + 6 * t = 3 := by omega
  have a4 : ¬ 28 + 6 * t < 28 := by omega
  have a5 : 28 + 6 * t < 76 := by omega
  have a6 : (28 + 6 * t - 28) % 6 = 0 := by omega
  simpa only [loB, hiB, a1, a2, a3, a4, a5, a6, if_true, if_false, Nat.not_le.mpr a5] using this
theorem rg_layer (h : SR n T U) (ht : t < n) : 0 ≤ (T (29 + 6 * t)).toInt ∧ (T (29 + 6 * t)).toInt ≤ 7 := by
  have h8 := h.1
  have := (h.2.2.2 (29 + 6 * t) (by omega) (Or.inl (by omega))).2
  have a1 : ¬ 29 + 6 * t = 1 := by omega
  have a2 : ¬ 29 + 6 * t = 2 := by omega
  have a3 : ¬ 29 + 6 * t = 3 := by omega
  have a4 : ¬ 29 + 6 * t < 28 := by omega
  have a5 : 29 + 6 * t < 76 := by omega
  have a6 : (29 + 6 * t - 28) % 6 = 1 := by omega
  simpa only [loB, hiB, a1, a2, a3, a4, a5, a6, if_true, if_false, Nat.not_le.mpr a5, Nat.reduceEqDiff] using this
theorem rg_colour (h : SR n T U) (ht : t < n) : 0 ≤ (T (30 + 6 * t)).toInt ∧ (T (30 + 6 * t)).toInt ≤ 2 := by
  have h8 := h.1
  have := (h.2.2.2 (30 + 6 * t) (by omega) (Or.inl (by omega))).2
  have a1 : ¬ 30 + 6 * t = 1 := by omega
  have a2 : ¬ 30 + 6 * t = 2 := by omega
  have a3 : ¬ 30 + 6 * t = 3 := by omega
  have a4 : ¬ 30 + 6 * t < 28 := by omega
  have a5 : 30 + 6 * t < 76 := by omega
  have a6 : (30 + 6 * t - 28) % 6 = 2 := by omega
  simpa only [loB, hiB, a1, a2, a3, a4, a5, a6, if_true, if_false, Nat.not_le.mpr a5, Nat.reduceEqDiff] using this
theorem rg_much (h : SR n T U) (ht : t < n) {f : Nat} (h3 : 3 ≤ f) (h6 : f < 6) : 0 ≤ (T (28 + 6 * t + f)).toInt ∧ (T (28 + 6 * t + f)).toInt ≤ 999 := by
  have h8 := h.1
  have := (h.2.2.2 (28 + 6 * t + f) (by omega) (Or.inl (by omega))).2
  have a1 : ¬ 28 + 6 * t + f = 1 := by omega
  have a2 : ¬ 28 + 6 * t + f = 2 := by omega
  have a3 : ¬ 28 + 6 * t + f = 3 := by omega
  have a4 : ¬ 28 + 6 * t + f < 28 := by omega
  have a5 : 28 + 6 * t + f < 76 := by omega
  have a6 : ¬ (28 + 6 * t + f - 28) % 6 = 0 := by omega
  have a7 : ¬ (28 + 6 * t + f - 28) % 6 = 1 := by omega
  have a8 : ¬ (28 + 6 * t + f - 28) % 6 = 2 := by omega
  simpa only [loB, hiB, a1, a2, a3, a4, a5, a6, a7, a8, if_true, if_false, Nat.not_le.mpr a5] using this
theorem rg_holds (h : SR n T U) (ht : t < n) : 0 ≤ (T (31 + 6 * t)).toInt ∧ (T (31 + 6 * t)).toInt ≤ 999 := by
  rw [show 31 + 6 * t = 28 + 6 * t + 3 by omega]; exact rg_much h ht (by decide) (by decide)
theorem rg_soaked (h : SR n T U) (ht : t < n) : 0 ≤ (T (32 + 6 * t)).toInt ∧ (T (32 + 6 * t)).toInt ≤ 999 := by
  rw [show 32 + 6 * t = 28 + 6 * t + 4 by omega]; exact rg_much h ht (by decide) (by decide)
theorem rg_seen (h : SR n T U) (ht : t < n) : 0 ≤ (T (33 + 6 * t)).toInt ∧ (T (33 + 6 * t)).toInt ≤ 999 := by
  rw [show 33 + 6 * t = 28 + 6 * t + 5 by omega]; exact rg_much h ht (by decide) (by decide)
theorem rg_dye {k : Nat} (h : SR n T U) (hk : k < 24) : 0 ≤ (T (4 + k)).toInt ∧ (T (4 + k)).toInt ≤ 999 := by
  have := (h.2.2.2 (4 + k) (by omega) (Or.inl (by omega))).2
  have a1 : ¬ 4 + k = 1 := by omega
  have a2 : ¬ 4 + k = 2 := by omega
  have a3 : ¬ 4 + k = 3 := by omega
  have a4 : 4 + k < 28 := by omega
  have a5 : ¬ 76 ≤ 4 + k := by omega
  simpa only [loB, hiB, a1, a2, a3, a4, a5, if_true, if_false] using this
theorem rg_lye (h : SR n T U) : 0 ≤ (T 3).toInt ∧ (T 3).toInt ≤ 9 := (h.2.2.2 3 (by omega) (Or.inl (by omega))).2
theorem rg_year (h : SR n T U) : 0 ≤ (T 1).toInt ∧ (T 1).toInt ≤ 99999 := (h.2.2.2 1 (by omega) (Or.inl (by omega))).2
theorem rg_spot {k : Nat} (h : SR n T U) (hk : k < 10) : -1 ≤ (T (76 + k)).toInt ∧ (T (76 + k)).toInt ≤ (n : Int) - 1 := by
  have := (h.2.2.2 (76 + k) (by omega) (Or.inr (by omega))).2
  have a1 : ¬ 76 + k = 1 := by omega
  have a2 : ¬ 76 + k = 2 := by omega
  have a3 : ¬ 76 + k = 3 := by omega
  have a4 : ¬ 76 + k < 28 := by omega
  have a5 : ¬ 76 + k < 76 := by omega
  have a6 : 76 ≤ 76 + k := by omega
  simpa only [loB, hiB, a1, a2, a3, a4, a5, a6, if_true, if_false] using this
theorem bd_thing {f : Nat} {v : Int32} (h3 : 3 ≤ f) (h6 : f < 6) (ht : t < 8) (h0 : 0 ≤ v.toInt) (h1 : v.toInt ≤ 999) : loB (28 + 6 * t + f) ≤ v.toInt ∧ v.toInt ≤ hiB n (28 + 6 * t + f) := by
  have a1 : ¬ 28 + 6 * t + f = 1 := by omega
  have a2 : ¬ 28 + 6 * t + f = 2 := by omega
  have a3 : ¬ 28 + 6 * t + f = 3 := by omega
  have a4 : ¬ 28 + 6 * t + f < 28 := by omega
  have a5 : 28 + 6 * t + f < 76 := by omega
  have a6 : ¬ (28 + 6 * t + f - 28) % 6 = 0 := by omega
  have a7 : ¬ (28 + 6 * t + f - 28) % 6 = 1 := by omega
  have a8 : ¬ (28 + 6 * t + f - 28) % 6 = 2 := by omega
  simp only [loB, hiB, a1, a2, a3, a4, a5, a6, a7, a8, if_true, if_false, Nat.not_le.mpr a5]
  exact ⟨h0, h1⟩
theorem bd_kind {v : Int32} (ht : t < 8) (h0 : 0 ≤ v.toInt) (h1 : v.toInt ≤ 6) : loB (28 + 6 * t) ≤ v.toInt ∧ v.toInt ≤ hiB n (28 + 6 * t) := by
  have a1 : ¬ 28 + 6 * t = 1 := by omega
  have a2 : ¬ 28 + 6 * t = 2 := by omega
  have a3 : ¬ 28 + 6 * t = 3 := by omega
  have a4 : ¬ 28 + 6 * t < 28 := by omega
  have a5 : 28 + 6 * t < 76 := by omega
  have a6 : (28 + 6 * t - 28) % 6 = 0 := by omega
  simp only [loB, hiB, a1, a2, a3, a4, a5, a6, if_true, if_false, Nat.not_le.mpr a5]
  exact ⟨h0, h1⟩
theorem bd_layer {v : Int32} (ht : t < 8) (h0 : 0 ≤ v.toInt) (h1 : v.toInt ≤ 7) : loB (29 + 6 * t) ≤ v.toInt ∧ v.toInt ≤ hiB n (29 + 6 * t) := by
  have a1 : ¬ 29 + 6 * t = 1 := by omega
  have a2 : ¬ 29 + 6 * t = 2 := by omega
  have a3 : ¬ 29 + 6 * t = 3 := by omega
  have a4 : ¬ 29 + 6 * t < 28 := by omega
  have a5 : 29 + 6 * t < 76 := by omega
  have a6 : ¬ (29 + 6 * t - 28) % 6 = 0 := by omega
  have a7 : (29 + 6 * t - 28) % 6 = 1 := by omega
  simp only [loB, hiB, a1, a2, a3, a4, a5, a6, a7, if_true, if_false, Nat.not_le.mpr a5]
  exact ⟨h0, h1⟩
theorem bd_colour {v : Int32} (ht : t < 8) (h0 : 0 ≤ v.toInt) (h1 : v.toInt ≤ 2) : loB (30 + 6 * t) ≤ v.toInt ∧ v.toInt ≤ hiB n (30 + 6 * t) := by
  have a1 : ¬ 30 + 6 * t = 1 := by omega
  have a2 : ¬ 30 + 6 * t = 2 := by omega
  have a3 : ¬ 30 + 6 * t = 3 := by omega
  have a4 : ¬ 30 + 6 * t < 28 := by omega
  have a5 : 30 + 6 * t < 76 := by omega
  have a6 : ¬ (30 + 6 * t - 28) % 6 = 0 := by omega
  have a7 : ¬ (30 + 6 * t - 28) % 6 = 1 := by omega
  have a8 : (30 + 6 * t - 28) % 6 = 2 := by omega
  simp only [loB, hiB, a1, a2, a3, a4, a5, a6, a7, a8, if_true, if_false, Nat.not_le.mpr a5]
  exact ⟨h0, h1⟩
theorem bd_holds {v : Int32} (ht : t < 8) (h0 : 0 ≤ v.toInt) (h1 : v.toInt ≤ 999) : loB (31 + 6 * t) ≤ v.toInt ∧ v.toInt ≤ hiB n (31 + 6 * t) := by
  rw [show 31 + 6 * t = 28 + 6 * t + 3 by omega]; exact bd_thing (by decide) (by decide) ht h0 h1
theorem bd_soaked {v : Int32} (ht : t < 8) (h0 : 0 ≤ v.toInt) (h1 : v.toInt ≤ 999) : loB (32 + 6 * t) ≤ v.toInt ∧ v.toInt ≤ hiB n (32 + 6 * t) := by
  rw [show 32 + 6 * t = 28 + 6 * t + 4 by omega]; exact bd_thing (by decide) (by decide) ht h0 h1
theorem bd_seen {v : Int32} (ht : t < 8) (h0 : 0 ≤ v.toInt) (h1 : v.toInt ≤ 999) : loB (33 + 6 * t) ≤ v.toInt ∧ v.toInt ≤ hiB n (33 + 6 * t) := by
  rw [show 33 + 6 * t = 28 + 6 * t + 5 by omega]; exact bd_thing (by decide) (by decide) ht h0 h1
theorem bd_dye {k : Nat} {v : Int32} (hk : k < 24) (h0 : 0 ≤ v.toInt) (h1 : v.toInt ≤ 999) : loB (4 + k) ≤ v.toInt ∧ v.toInt ≤ hiB n (4 + k) := by
  have a1 : ¬ 4 + k = 1 := by omega
  have a2 : ¬ 4 + k = 2 := by omega
  have a3 : ¬ 4 + k = 3 := by omega
  have a4 : 4 + k < 28 := by omega
  have a5 : ¬ 76 ≤ 4 + k := by omega
  simp only [loB, hiB, a1, a2, a3, a4, a5, if_true, if_false]
  exact ⟨h0, h1⟩
theorem bd_spot {k : Nat} {v : Int32} (h0 : -1 ≤ v.toInt) (h1 : v.toInt ≤ (n : Int) - 1) : loB (76 + k) ≤ v.toInt ∧ v.toInt ≤ hiB n (76 + k) := by
  have a1 : ¬ 76 + k = 1 := by omega
  have a2 : ¬ 76 + k = 2 := by omega
  have a3 : ¬ 76 + k = 3 := by omega
  have a4 : ¬ 76 + k < 28 := by omega
  have a5 : ¬ 76 + k < 76 := by omega
  have a6 : 76 ≤ 76 + k := by omega
  simp only [loB, hiB, a1, a2, a3, a4, a5, a6, if_true, if_false]
  exact ⟨h0, h1⟩
end
/-- a small number, as one of a few -/
theorem of_rg {x : Int32} {m : Nat} (h0 : 0 ≤ x.toInt) (h1 : x.toInt < (m : Int)) (hm : m < 2147483648) : ∃ k, k < m ∧ x = Int32.ofNat k := by
  refine ⟨x.toInt.toNat, by omega, ?_⟩
  rw [← Int32.toInt_inj, Int32.toInt_ofNat_of_lt (by omega)]
  omega
theorem ly_of {n t : Nat} {T U : TS} (h : SR n T U) (ht : t < n) : ∃ l, l < 8 ∧ T (29 + 6 * t) = Int32.ofNat l := by
  have := rg_layer h ht
  exact of_rg this.1 (by omega) (by decide)
theorem co_of {n t : Nat} {T U : TS} (h : SR n T U) (ht : t < n) : ∃ l, l < 3 ∧ T (30 + 6 * t) = Int32.ofNat l := by
  have := rg_colour h ht
  exact of_rg this.1 (by omega) (by decide)
def cap (v : Int32) : Int32 := if 999 < v then 999 else v
theorem cap_rg {v : Int32} (h : 0 ≤ v.toInt) : 0 ≤ (cap v).toInt ∧ (cap v).toInt ≤ 999 := by
  unfold cap
  by_cases q : 999 < v
  · rw [if_pos q]; decide
  · rw [if_neg q]
    rw [lt_ti] at q
    have : (999 : Int32).toInt = 999 := by decide
    omega
/-! small numbers differ -/
theorem zqm0 : ((-1 : Int32) = 0) = False := by decide
theorem zqm1 : ((-1 : Int32) = 1) = False := by decide
theorem zqm2 : ((-1 : Int32) = 2) = False := by decide
theorem zqm3 : ((-1 : Int32) = 3) = False := by decide
theorem zqm4 : ((-1 : Int32) = 4) = False := by decide
theorem zqm5 : ((-1 : Int32) = 5) = False := by decide
theorem zqm6 : ((-1 : Int32) = 6) = False := by decide
theorem zqm7 : ((-1 : Int32) = 7) = False := by decide
theorem zqm8 : ((-1 : Int32) = 8) = False := by decide
theorem zq0m : ((0 : Int32) = -1) = False := by decide
theorem zq01 : ((0 : Int32) = 1) = False := by decide
theorem zq02 : ((0 : Int32) = 2) = False := by decide
theorem zq03 : ((0 : Int32) = 3) = False := by decide
theorem zq04 : ((0 : Int32) = 4) = False := by decide
theorem zq05 : ((0 : Int32) = 5) = False := by decide
theorem zq06 : ((0 : Int32) = 6) = False := by decide
theorem zq07 : ((0 : Int32) = 7) = False := by decide
theorem zq08 : ((0 : Int32) = 8) = False := by decide
theorem zq1m : ((1 : Int32) = -1) = False := by decide
theorem zq10 : ((1 : Int32) = 0) = False := by decide
theorem zq12 : ((1 : Int32) = 2) = False := by decide
theorem zq13 : ((1 : Int32) = 3) = False := by decide
theorem zq14 : ((1 : Int32) = 4) = False := by decide
theorem zq15 : ((1 : Int32) = 5) = False := by decide
theorem zq16 : ((1 : Int32) = 6) = False := by decide
theorem zq17 : ((1 : Int32) = 7) = False := by decide
theorem zq18 : ((1 : Int32) = 8) = False := by decide
theorem zq2m : ((2 : Int32) = -1) = False := by decide
theorem zq20 : ((2 : Int32) = 0) = False := by decide
theorem zq21 : ((2 : Int32) = 1) = False := by decide
theorem zq23 : ((2 : Int32) = 3) = False := by decide
theorem zq24 : ((2 : Int32) = 4) = False := by decide
theorem zq25 : ((2 : Int32) = 5) = False := by decide
theorem zq26 : ((2 : Int32) = 6) = False := by decide
theorem zq27 : ((2 : Int32) = 7) = False := by decide
theorem zq28 : ((2 : Int32) = 8) = False := by decide
theorem zq3m : ((3 : Int32) = -1) = False := by decide
theorem zq30 : ((3 : Int32) = 0) = False := by decide
theorem zq31 : ((3 : Int32) = 1) = False := by decide
theorem zq32 : ((3 : Int32) = 2) = False := by decide
theorem zq34 : ((3 : Int32) = 4) = False := by decide
theorem zq35 : ((3 : Int32) = 5) = False := by decide
theorem zq36 : ((3 : Int32) = 6) = False := by decide
theorem zq37 : ((3 : Int32) = 7) = False := by decide
theorem zq38 : ((3 : Int32) = 8) = False := by decide
theorem zq4m : ((4 : Int32) = -1) = False := by decide
theorem zq40 : ((4 : Int32) = 0) = False := by decide
theorem zq41 : ((4 : Int32) = 1) = False := by decide
theorem zq42 : ((4 : Int32) = 2) = False := by decide
theorem zq43 : ((4 : Int32) = 3) = False := by decide
theorem zq45 : ((4 : Int32) = 5) = False := by decide
theorem zq46 : ((4 : Int32) = 6) = False := by decide
theorem zq47 : ((4 : Int32) = 7) = False := by decide
theorem zq48 : ((4 : Int32) = 8) = False := by decide
theorem zq5m : ((5 : Int32) = -1) = False := by decide
theorem zq50 : ((5 : Int32) = 0) = False := by decide
theorem zq51 : ((5 : Int32) = 1) = False := by decide
theorem zq52 : ((5 : Int32) = 2) = False := by decide
theorem zq53 : ((5 : Int32) = 3) = False := by decide
theorem zq54 : ((5 : Int32) = 4) = False := by decide
theorem zq56 : ((5 : Int32) = 6) = False := by decide
theorem zq57 : ((5 : Int32) = 7) = False := by decide
theorem zq58 : ((5 : Int32) = 8) = False := by decide
theorem zq6m : ((6 : Int32) = -1) = False := by decide
theorem zq60 : ((6 : Int32) = 0) = False := by decide
theorem zq61 : ((6 : Int32) = 1) = False := by decide
theorem zq62 : ((6 : Int32) = 2) = False := by decide
theorem zq63 : ((6 : Int32) = 3) = False := by decide
theorem zq64 : ((6 : Int32) = 4) = False := by decide
theorem zq65 : ((6 : Int32) = 5) = False := by decide
theorem zq67 : ((6 : Int32) = 7) = False := by decide
theorem zq68 : ((6 : Int32) = 8) = False := by decide
theorem zq7m : ((7 : Int32) = -1) = False := by decide
theorem zq70 : ((7 : Int32) = 0) = False := by decide
theorem zq71 : ((7 : Int32) = 1) = False := by decide
theorem zq72 : ((7 : Int32) = 2) = False := by decide
theorem zq73 : ((7 : Int32) = 3) = False := by decide
theorem zq74 : ((7 : Int32) = 4) = False := by decide
theorem zq75 : ((7 : Int32) = 5) = False := by decide
theorem zq76 : ((7 : Int32) = 6) = False := by decide
theorem zq78 : ((7 : Int32) = 8) = False := by decide
theorem zq8m : ((8 : Int32) = -1) = False := by decide
theorem zq80 : ((8 : Int32) = 0) = False := by decide
theorem zq81 : ((8 : Int32) = 1) = False := by decide
theorem zq82 : ((8 : Int32) = 2) = False := by decide
theorem zq83 : ((8 : Int32) = 3) = False := by decide
theorem zq84 : ((8 : Int32) = 4) = False := by decide
theorem zq85 : ((8 : Int32) = 5) = False := by decide
theorem zq86 : ((8 : Int32) = 6) = False := by decide
theorem zq87 : ((8 : Int32) = 7) = False := by decide
