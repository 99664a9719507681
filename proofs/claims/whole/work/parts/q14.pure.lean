/-! ===== what is done to a Tub, as functions of its numbers; what keeps SR ===== -/
def hsB (x : Int32) (n : Nat) : Bool := decide (¬ x < 0 ∧ x < Int32.ofNat n)
theorem hs_of {x : Int32} {n : Nat} (h : hsB x n = true) (hn : n ≤ 8) : ∃ t, t < n ∧ x = Int32.ofNat t := by
  have := of_decide_eq_true h
  exact ⟨iN x, iN_lt this.1 this.2 (by omega), (of_iN this.1).symm⟩
theorem hs_at {t n : Nat} (ht : t < n) (hn : n ≤ 8) : hsB (Int32.ofNat t) n = true := by
  refine decide_eq_true ⟨?_, ?_⟩
  · rw [of_nn (by omega)]; exact id
  · rw [of_lt (by omega) (by omega)]; exact ht
/-- where a layer's dye of a colour stands -/
def dyI (l c : Int32) : Nat := 4 + (3 * iN l + iN c)
theorem isL_of {x : Int32} (h0 : 0 ≤ x.toInt) (h1 : x.toInt ≤ 7) : isL x = true := by
  refine decide_eq_true ⟨?_, ?_⟩
  · rw [lt_ti]; have : (0 : Int32).toInt = 0 := by decide
    omega
  · rw [lt_ti]; have : (8 : Int32).toInt = 8 := by decide
    omega
theorem isC_of {x : Int32} (h0 : 0 ≤ x.toInt) (h1 : x.toInt ≤ 2) : isC x = true := by
  refine decide_eq_true ⟨?_, ?_⟩
  · rw [lt_ti]; have : (0 : Int32).toInt = 0 := by decide
    omega
  · rw [lt_ti]; have : (3 : Int32).toInt = 3 := by decide
    omega
theorem isL_nat {x : Int32} (h : isL x = true) : ∃ l, l < 8 ∧ x = Int32.ofNat l := by
  have := of_decide_eq_true h
  exact ⟨iN x, iN_lt this.1 this.2 (by decide), (of_iN this.1).symm⟩
theorem isC_nat {x : Int32} (h : isC x = true) : ∃ l, l < 3 ∧ x = Int32.ofNat l := by
  have := of_decide_eq_true h
  exact ⟨iN x, iN_lt this.1 this.2 (by decide), (of_iN this.1).symm⟩
theorem isL_at {l : Nat} (h : l < 8) : isL (Int32.ofNat l) = true := isL_of (by rw [ti_of (by omega)]; omega) (by rw [ti_of (by omega)]; omega)
theorem isC_at {l : Nat} (h : l < 3) : isC (Int32.ofNat l) = true := isC_of (by rw [ti_of (by omega)]; omega) (by rw [ti_of (by omega)]; omega)
theorem isC_0 : isC 0 = true := by decide
theorem isC_1 : isC 1 = true := by decide
theorem isC_2 : isC 2 = true := by decide
theorem isL_0 : isL 0 = true := by decide
theorem dyI_at {l c : Nat} (hl : l < 8) (hc : c < 3) : dyI (Int32.ofNat l) (Int32.ofNat c) = 4 + (3 * l + c) := by
  unfold dyI; rw [iN_of (by omega), iN_of (by omega)]
theorem dyI_rg {x y : Int32} (hx : isL x = true) (hy : isC y = true) : ∃ k, k < 24 ∧ dyI x y = 4 + k := by
  obtain ⟨l, hl, rfl⟩ := isL_nat hx
  obtain ⟨c, hc, rfl⟩ := isC_nat hy
  exact ⟨3 * l + c, by omega, dyI_at hl hc⟩
theorem dyI_ne {x y x' y' : Int32} (hx : isL x = true) (hy : isC y = true) (hx' : isL x' = true) (hy' : isC y' = true) (h : ¬ (x = x' ∧ y = y')) : dyI x y ≠ dyI x' y' := by
  obtain ⟨l, hl, rfl⟩ := isL_nat hx
  obtain ⟨c, hc, rfl⟩ := isC_nat hy
  obtain ⟨l', hl', rfl⟩ := isL_nat hx'
  obtain ⟨c', hc', rfl⟩ := isC_nat hy'
  rw [dyI_at hl hc, dyI_at hl' hc']
  intro e
  refine h ?_
  have : l = l' ∧ c = c' := by omega
  exact ⟨by rw [this.1], by rw [this.2]⟩
theorem sr_isL {n t : Nat} {T U : TS} (h : SR n T U) (ht : t < n) : isL (T (29 + 6 * t)) = true := isL_of (rg_layer h ht).1 (rg_layer h ht).2
theorem sr_isC {n t : Nat} {T U : TS} (h : SR n T U) (ht : t < n) : isC (T (30 + 6 * t)) = true := isC_of (rg_colour h ht).1 (rg_colour h ht).2
theorem sr_dye {n : Nat} {T U : TS} {x y : Int32} (h : SR n T U) (hx : isL x = true) (hy : isC y = true) : U (dyI x y) = T (dyI x y) := by
  obtain ⟨k, hk, e⟩ := dyI_rg hx hy
  rw [e]; exact sr_low h (by omega) (by omega)
theorem rg_dyI {n : Nat} {T U : TS} {x y : Int32} (h : SR n T U) (hx : isL x = true) (hy : isC y = true) : 0 ≤ (T (dyI x y)).toInt ∧ (T (dyI x y)).toInt ≤ 999 := by
  obtain ⟨k, hk, e⟩ := dyI_rg hx hy
  rw [e]; exact rg_dye h hk
theorem SR.upD {n : Nat} {T U : TS} {x y v : Int32} (h : SR n T U) (hx : isL x = true) (hy : isC y = true) (h0 : 0 ≤ v.toInt) (h1 : v.toInt ≤ 999) : SR n (mfu T (dyI x y) v) (mfu U (dyI x y) v) := by
  obtain ⟨k, hk, e⟩ := dyI_rg hx hy
  rw [e]; exact h.up (by omega) (fun _ => bd_dye hk h0 h1)
theorem fu_self {f : Nat → Int32} {k : Nat} : mfu f k (f k) = f := by
  funext j; unfold mfu
  by_cases e : j = k
  · rw [if_pos e, e]
  · rw [if_neg e]
theorem fu_fu {f : Nat → Int32} {k : Nat} {x y : Int32} : mfu (mfu f k x) k y = mfu f k y := by
  funext j; unfold mfu
  by_cases e : j = k
  · rw [if_pos e, if_pos e]
  · rw [if_neg e, if_neg e, if_neg e]
theorem fu_cm {f : Nat → Int32} {k k' : Nat} {x y : Int32} (h : k ≠ k') : mfu (mfu f k x) k' y = mfu (mfu f k' y) k x := by
  funext j; unfold mfu
  by_cases e : j = k'
  · rw [if_pos e, if_neg (by omega), if_pos e]
  · rw [if_neg e]
    by_cases e2 : j = k
    · rw [if_pos e2, if_pos e2]
    · rw [if_neg e2, if_neg e2, if_neg e]
/-! a year -/
def losT (t : Nat) (T : TS) : Int32 := if blS (T (28 + 6 * t)) (T 3) (T (33 + 6 * t)) < T (31 + 6 * t) then blS (T (28 + 6 * t)) (T 3) (T (33 + 6 * t)) else T (31 + 6 * t)
def blT (t : Nat) (T : TS) : TS := mfu (mfu T (31 + 6 * t) (T (31 + 6 * t) - losT t T)) (dyI (T (29 + 6 * t)) (T (30 + 6 * t))) (cap (T (dyI (T (29 + 6 * t)) (T (30 + 6 * t))) + losT t T))
def blB (out : Int32) (t : Nat) (T : TS) : TS := if out >>> (Int32.ofNat t &&& 31) &&& 1 = 0 then blT t T else T
def skS (k : Nat) (T : TS) : TS := mfu (mfu T (4 + k) (T (4 + k) - T (4 + k) / 4)) (7 + k) (cap (T (7 + k) + T (4 + k) / 4))
def chO (d0 d1 d2 own : Int32) : Int32 := if own = 0 then (if d1 < d2 then 2 else 1) else if own = 1 then (if d0 < d2 then 2 else 0) else (if d0 < d1 then 1 else 0)
def othT (t : Nat) (T : TS) : Int32 := chO (T (dyI (T (29 + 6 * t)) 0)) (T (dyI (T (29 + 6 * t)) 1)) (T (dyI (T (29 + 6 * t)) 2)) (T (30 + 6 * t))
def tnT (t : Nat) (T : TS) : TS := if faS (T (28 + 6 * t)) (T 3) < T (dyI (T (29 + 6 * t)) (othT t T)) ∧ T (dyI (T (29 + 6 * t)) (T (30 + 6 * t))) < T (dyI (T (29 + 6 * t)) (othT t T)) then mfu (mfu T (30 + 6 * t) (othT t T)) (31 + 6 * t) (cap (T (31 + 6 * t) + 10)) else T
def upT (t : Nat) (T : TS) : Int32 := upL (T (29 + 6 * t)) (riS (T (28 + 6 * t)) (T (31 + 6 * t)) (T (32 + 6 * t)) (T 1))
def riT (t : Nat) (T : TS) : TS := mfu (mfu (if ¬ T (29 + 6 * t) = 0 ∧ upT t T = 0 then mfu T (33 + 6 * t) (cap (T (33 + 6 * t) + 1)) else T) (29 + 6 * t) (upT t T)) (32 + 6 * t) (cap (T (32 + 6 * t) + 1))
def yeS (v : Int32) : Int32 := if 99999 < v + 1 then 99999 else v + 1
def blA (out : Int32) (n : Nat) (T : TS) : TS := lpf (blB out) 0 n T
def skA (T : TS) : TS := lpf (fun i => skS (20 - i)) 0 21 T
def tnA (n : Nat) (T : TS) : TS := lpf tnT 0 n T
def riA (n : Nat) (T : TS) : TS := lpf riT 0 n T
def yrT (out : Int32) (n : Nat) (T : TS) : TS := mfu (riA n (tnA n (skA (blA out n T)))) 1 (yeS (riA n (tnA n (skA (blA out n T))) 1))
def ysT (out : Int32) (n m : Nat) (T : TS) : TS := lpf (fun _ => yrT out n) 0 m T
theorem blS_rg {k l s : Int32} (hl : 0 ≤ l.toInt ∧ l.toInt ≤ 9) (hs : 0 ≤ s.toInt ∧ s.toInt ≤ 999) : 0 ≤ (blS k l s).toInt ∧ (blS k l s).toInt ≤ 999 := by
  obtain ⟨l, hl', rfl⟩ := of_rg (m := 10) hl.1 (by omega) (by decide)
  have h9 : 0 ≤ (if 9 < s then (9 : Int32) else s).toInt ∧ (if 9 < s then (9 : Int32) else s).toInt ≤ 9 := by
    by_cases q : 9 < s
    · rw [if_pos q]; decide
    · rw [if_neg q]; rw [lt_ti] at q
      have : (9 : Int32).toInt = 9 := by decide
      omega
  obtain ⟨m, hm, e⟩ := of_rg (m := 10) h9.1 (by omega) (by decide)
  unfold blS
  rw [e]
  have A : ∀ l < 10, ∀ m < 10, (0 ≤ (4 + Int32.ofNat l + 3).toInt ∧ (4 + Int32.ofNat l + 3).toInt ≤ 999) ∧ (0 ≤ ((4 + Int32.ofNat l) / 2).toInt ∧ ((4 + Int32.ofNat l) / 2).toInt ≤ 999) ∧ (0 ≤ ((4 + Int32.ofNat l) / 2 + 5).toInt ∧ ((4 + Int32.ofNat l) / 2 + 5).toInt ≤ 999) ∧ (0 ≤ ((4 + Int32.ofNat l) / 2 + 5 + Int32.ofNat m).toInt ∧ ((4 + Int32.ofNat l) / 2 + 5 + Int32.ofNat m).toInt ≤ 999) ∧ (0 ≤ (4 + Int32.ofNat l).toInt ∧ (4 + Int32.ofNat l).toInt ≤ 999) := by decide
  have := A l hl' m hm
  split
  · exact this.1
  split
  · exact this.2.1
  split
  · exact this.2.2.1
  split
  · exact this.2.2.2.1
  split
  · decide
  split
  · decide
  · exact this.2.2.2.2
theorem lpf_sr {n N : Nat} {T U : TS} (f : Nat → TS → TS) (hs : ∀ k T U, k < N → SR n T U → SR n (f k T) (f k U)) (h : SR n T U) : SR n (lpf f 0 N T) (lpf f 0 N U) :=
  lpf_rel (f := f) (g := f) (P := fun _ T U => SR n T U) (N := N) (fun k s t hk p => hs k s t hk p) N 0 T U (Nat.zero_add N) h
section
variable {n t : Nat} {T U : TS} {out : Int32}
theorem los_rg (h : SR n T U) (ht : t < n) : 0 ≤ (losT t T).toInt ∧ (losT t T).toInt ≤ (T (31 + 6 * t)).toInt := by
  have h1 := blS_rg (k := T (28 + 6 * t)) (rg_lye h) (rg_seen h ht)
  have h2 := rg_holds h ht
  unfold losT
  by_cases q : blS (T (28 + 6 * t)) (T 3) (T (33 + 6 * t)) < T (31 + 6 * t)
  · rw [if_pos q]; rw [lt_ti] at q; omega
  · rw [if_neg q]; omega
theorem sr_los (h : SR n T U) (ht : t < n) : losT t U = losT t T := by
  unfold losT; rw [sr_kind h ht, sr_seen h ht, sr_holds h ht, sr_low h (k := 3) (by omega) (by omega)]
theorem sr_bl (h : SR n T U) (ht : t < n) : SR n (blT t T) (blT t U) := by
  have hn := h.1
  have hL := sr_isL h ht
  have hC := sr_isC h ht
  have l1 := los_rg h ht
  have h2 := rg_holds h ht
  have h3 := rg_dyI h hL hC
  unfold blT
  rw [sr_los h ht, sr_holds h ht, sr_layer h ht, sr_colour h ht, sr_dye h hL hC]
  refine (h.up (by omega) (fun _ => bd_holds (by omega) ?_ ?_)).upD hL hC ?_ ?_
  · rw [ti_sub (by omega) (by omega)]; omega
  · rw [ti_sub (by omega) (by omega)]; omega
  · exact (cap_rg (by rw [ti_add (by omega) (by omega)]; omega)).1
  · exact (cap_rg (by rw [ti_add (by omega) (by omega)]; omega)).2
theorem sr_blB (h : SR n T U) (ht : t < n) : SR n (blB out t T) (blB out t U) := by
  unfold blB
  by_cases q : out >>> (Int32.ofNat t &&& 31) &&& 1 = 0
  · rw [if_pos q, if_pos q]; exact sr_bl h ht
  · rw [if_neg q, if_neg q]; exact h
theorem sr_blA (h : SR n T U) : SR n (blA out n T) (blA out n U) := lpf_sr (blB out) (fun k s t hk p => sr_blB p hk) h
theorem q4_rg {x : Int32} (h : 0 ≤ x.toInt ∧ x.toInt ≤ 999) : 0 ≤ (x / 4).toInt ∧ (x / 4).toInt ≤ x.toInt := by
  have e : (4 : Int32).toInt = 4 := by decide
  rw [Int32.toInt_div_of_ne_right x 4 (by decide), e, Int.tdiv_eq_ediv_of_nonneg h.1]
  omega
theorem sr_sk {k : Nat} (h : SR n T U) (hk : k < 21) : SR n (skS k T) (skS k U) := by
  have h1 := rg_dye h (k := k) (by omega)
  have h2 := rg_dye h (k := 3 + k) (by omega)
  rw [show 4 + (3 + k) = 7 + k by omega] at h2
  have h3 := q4_rg h1
  unfold skS
  rw [sr_low h (k := 4 + k) (by omega) (by omega), sr_low h (k := 7 + k) (by omega) (by omega)]
  refine (h.up (by omega) (fun _ => bd_dye (by omega) ?_ ?_)).up (by omega) (fun _ => ?_)
  · rw [ti_sub (by omega) (by omega)]; omega
  · rw [ti_sub (by omega) (by omega)]; omega
  · have := cap_rg (v := T (7 + k) + T (4 + k) / 4) (by rw [ti_add (by omega) (by omega)]; omega)
    rw [show 7 + k = 4 + (3 + k) by omega] at this ⊢
    exact bd_dye (by omega) this.1 this.2
theorem sr_skA (h : SR n T U) : SR n (skA T) (skA U) := lpf_sr (fun i => skS (20 - i)) (fun k s t hk p => sr_sk (k := 20 - k) p (by omega)) h
theorem chO_isC {a b c o : Int32} : isC (chO a b c o) = true := by
  unfold chO
  repeat' split
  all_goals decide
theorem sr_oth (h : SR n T U) (ht : t < n) : othT t U = othT t T := by
  unfold othT
  rw [sr_layer h ht, sr_colour h ht, sr_dye h (sr_isL h ht) isC_0, sr_dye h (sr_isL h ht) isC_1, sr_dye h (sr_isL h ht) isC_2]
theorem isC_rg {x : Int32} (h : isC x = true) : 0 ≤ x.toInt ∧ x.toInt ≤ 2 := by
  obtain ⟨c, hc, rfl⟩ := isC_nat h
  rw [ti_of (by omega)]; omega
theorem isL_rg {x : Int32} (h : isL x = true) : 0 ≤ x.toInt ∧ x.toInt ≤ 7 := by
  obtain ⟨c, hc, rfl⟩ := isL_nat h
  rw [ti_of (by omega)]; omega
theorem sr_tn (h : SR n T U) (ht : t < n) : SR n (tnT t T) (tnT t U) := by
  have hn := h.1
  have hL := sr_isL h ht
  have hC := sr_isC h ht
  have hO : isC (othT t T) = true := chO_isC
  have h2 := rg_holds h ht
  unfold tnT
  rw [sr_oth h ht, sr_holds h ht, sr_layer h ht, sr_colour h ht, sr_dye h hL hC, sr_dye h hL hO, sr_kind h ht, sr_low h (k := 3) (by omega) (by omega)]
  split
  · have e : (10 : Int32).toInt = 10 := by decide
    have := cap_rg (v := T (31 + 6 * t) + 10) (by rw [ti_add (by omega) (by omega)]; omega)
    exact (h.up (by omega) (fun _ => bd_colour (by omega) (isC_rg hO).1 (isC_rg hO).2)).up (by omega) (fun _ => bd_holds (by omega) this.1 this.2)
  · exact h
theorem sr_tnA (h : SR n T U) : SR n (tnA n T) (tnA n U) := lpf_sr tnT (fun k s t hk p => sr_tn p hk) h
theorem upL_rg {l r : Int32} : 0 ≤ (upL l r).toInt ∧ (upL l r).toInt ≤ 7 := by
  unfold upL
  generalize l - r = v
  have e7 : (7 : Int32).toInt = 7 := by decide
  have e0 : (0 : Int32).toInt = 0 := by decide
  by_cases q : 7 < v
  · rw [if_pos q]; decide
  · rw [if_neg q]
    by_cases q2 : 0 < v
    · rw [if_pos q2]; rw [lt_ti] at q q2; omega
    · rw [if_neg q2]; decide
theorem sr_up (h : SR n T U) (ht : t < n) : upT t U = upT t T := by
  unfold upT; rw [sr_layer h ht, sr_kind h ht, sr_holds h ht, sr_soaked h ht, sr_low h (k := 1) (by omega) (by omega)]
theorem cap1_rg {x : Int32} (h : 0 ≤ x.toInt ∧ x.toInt ≤ 999) : 0 ≤ (cap (x + 1)).toInt ∧ (cap (x + 1)).toInt ≤ 999 := by
  have e : (1 : Int32).toInt = 1 := by decide
  exact cap_rg (by rw [ti_add (by omega) (by omega)]; omega)
theorem sr_ri (h : SR n T U) (ht : t < n) : SR n (riT t T) (riT t U) := by
  have hn := h.1
  have c1 := cap1_rg (rg_seen h ht)
  have c2 := cap1_rg (rg_soaked h ht)
  have hu : 0 ≤ (upT t T).toInt ∧ (upT t T).toInt ≤ 7 := upL_rg
  unfold riT
  rw [sr_up h ht, sr_layer h ht, sr_seen h ht, sr_soaked h ht]
  refine ((SR.up ?_ (by omega) (fun _ => bd_layer (by omega) hu.1 hu.2))).up (by omega) (fun _ => bd_soaked (by omega) c2.1 c2.2)
  split
  · exact h.up (by omega) (fun _ => bd_seen (by omega) c1.1 c1.2)
  · exact h
theorem sr_riA (h : SR n T U) : SR n (riA n T) (riA n U) := lpf_sr riT (fun k s t hk p => sr_ri p hk) h
theorem yeS_rg {x : Int32} (h : 0 ≤ x.toInt ∧ x.toInt ≤ 99999) : 0 ≤ (yeS x).toInt ∧ (yeS x).toInt ≤ 99999 ∧ (yeS x).toInt ≤ x.toInt + 1 := by
  have e : (1 : Int32).toInt = 1 := by decide
  have e9 : (99999 : Int32).toInt = 99999 := by decide
  have s : (x + 1).toInt = x.toInt + 1 := by rw [ti_add (by omega) (by omega), e]
  unfold yeS
  by_cases q : 99999 < x + 1
  · rw [if_pos q]; rw [lt_ti, s, e9] at q; omega
  · rw [if_neg q]; rw [lt_ti, s, e9] at q; omega
theorem sr_yr (h : SR n T U) : SR n (yrT out n T) (yrT out n U) := by
  unfold yrT
  have h1 := sr_riA (sr_tnA (sr_skA (sr_blA (out := out) h)))
  rw [sr_low h1 (k := 1) (by omega) (by omega)]
  have h2 := yeS_rg (rg_year h1)
  exact h1.up (by omega) (fun _ => ⟨h2.1, h2.2.1⟩)
theorem sr_ys {m : Nat} (h : SR n T U) : SR n (ysT out n m T) (ysT out n m U) := lpf_sr (fun _ => yrT out n) (fun k s t hk p => sr_yr p) h
end
/-! two layers stirred; a new thing; numbers set -/
def exF (x y c : Int32) (T : TS) : TS := mfu (mfu T (dyI x c) (T (dyI y c))) (dyI y c) (T (dyI x c))
def exT (x y : Int32) (t : Nat) (T : TS) : TS := mfu T (29 + 6 * t) (if T (29 + 6 * t) = x then y else if T (29 + 6 * t) = y then x else T (29 + 6 * t))
def stS (x y : Int32) (n : Nat) (T : TS) : TS := lpf (exT x y) 0 n (exF x y 2 (exF x y 1 (exF x y 0 T)))
def coS (n : Nat) (k l : Int32) (T : TS) : TS := mfu (mfu (mfu (mfu (mfu (mfu (mfu T (28 + 6 * n) k) (29 + 6 * n) l) (30 + 6 * n) 0) (31 + 6 * n) 60) (32 + 6 * n) 0) (33 + 6 * n) 0) 0 (Int32.ofNat (n + 1))
section
variable {n t : Nat} {T U : TS} {x y c k l : Int32}
theorem sr_exF (h : SR n T U) (hx : isL x = true) (hy : isL y = true) (hc : isC c = true) : SR n (exF x y c T) (exF x y c U) := by
  unfold exF
  rw [sr_dye h hx hc, sr_dye h hy hc]
  have h1 := rg_dyI h hx hc
  have h2 := rg_dyI h hy hc
  exact (h.upD hx hc h2.1 h2.2).upD hy hc h1.1 h1.2
theorem sr_exT (h : SR n T U) (ht : t < n) (hx : isL x = true) (hy : isL y = true) : SR n (exT x y t T) (exT x y t U) := by
  have hn := h.1
  unfold exT
  rw [sr_layer h ht]
  refine h.up (by omega) (fun _ => ?_)
  have h1 := isL_rg hx
  have h2 := isL_rg hy
  have h3 := rg_layer h ht
  split
  · exact bd_layer (by omega) h2.1 h2.2
  split
  · exact bd_layer (by omega) h1.1 h1.2
  · exact bd_layer (by omega) h3.1 h3.2
theorem sr_st (h : SR n T U) (hx : isL x = true) (hy : isL y = true) : SR n (stS x y n T) (stS x y n U) :=
  lpf_sr (exT x y) (fun k s t hk p => sr_exT p hk hx hy) (sr_exF (sr_exF (sr_exF h hx hy isC_0) hx hy isC_1) hx hy isC_2)
theorem hi_up {n j : Nat} : hiB n j ≤ hiB (n + 1) j := by
  unfold hiB
  repeat' split
  all_goals omega
theorem sr_co (h : SR n T U) (hn : n < 8) (hk : 0 ≤ k.toInt ∧ k.toInt ≤ 6) (hl : isL l = true) : SR (n + 1) (coS n k l T) (coS n k l U) := by
  have hl := isL_rg hl
  refine ⟨by omega, fu_at, fu_at, fun j h0 hj => ?_⟩
  unfold coS
  have z0 : ∀ (f : TS) (v : Int32), mfu f 0 v j = f j := fun f v => fu_ne (by omega)
  rw [z0, z0]
  by_cases e : j = 33 + 6 * n
  · rw [e, fu_at, fu_at]; exact ⟨rfl, bd_seen hn (by decide) (by decide)⟩
  rw [fu_ne e, fu_ne e]
  by_cases e : j = 32 + 6 * n
  · rw [e, fu_at, fu_at]; exact ⟨rfl, bd_soaked hn (by decide) (by decide)⟩
  rw [fu_ne e, fu_ne e]
  by_cases e : j = 31 + 6 * n
  · rw [e, fu_at, fu_at]; exact ⟨rfl, bd_holds hn (by decide) (by decide)⟩
  rw [fu_ne e, fu_ne e]
  by_cases e : j = 30 + 6 * n
  · rw [e, fu_at, fu_at]; exact ⟨rfl, bd_colour hn (by decide) (by decide)⟩
  rw [fu_ne e, fu_ne e]
  by_cases e : j = 29 + 6 * n
  · rw [e, fu_at, fu_at]; exact ⟨rfl, bd_layer hn hl.1 hl.2⟩
  rw [fu_ne e, fu_ne e]
  by_cases e : j = 28 + 6 * n
  · rw [e, fu_at, fu_at]; exact ⟨rfl, bd_kind hn hk.1 hk.2⟩
  rw [fu_ne e, fu_ne e]
  have := h.2.2.2 j h0 (by unfold vsb at hj ⊢; omega)
  exact ⟨this.1, this.2.1, Int.le_trans this.2.2 hi_up⟩
end
/-- a Tub's numbers taken over -/
def tkS (n : Nat) (U T : TS) : TS := fun k => if k = 86 then 0 else if k < 28 + 6 * n ∨ 76 ≤ k ∧ k < 86 then U k else T k
theorem sr_tk {n : Nat} {T U V : TS} (h : SR n U V) : SR n (tkS n U T) V := by
  have h8 := h.1
  have e : ∀ k, vsb n k → tkS n U T k = U k := fun k hk => by
    unfold tkS; unfold vsb at hk
    rw [if_neg (by omega), if_pos hk]
  exact ⟨h.1, (e 0 (Or.inl (by omega))).trans h.2.1, h.2.2.1, fun k h0 hk => by rw [e k hk]; exact h.2.2.2 k h0 hk⟩
/-! what is asked of a Tub -/
def toS (t : Nat) (w : Int32) (T : TS) : Int32 := if w = 0 then T (28 + 6 * t) else if w = 1 then T (29 + 6 * t) else if w = 2 then T (30 + 6 * t) else if w = 3 then T (31 + 6 * t) else if w = 4 then T (32 + 6 * t) else if w = 5 then T (33 + 6 * t) else if w = 6 then blS (T (28 + 6 * t)) (T 3) (T (33 + 6 * t)) else if w = 7 then riS (T (28 + 6 * t)) (T (31 + 6 * t)) (T (32 + 6 * t)) (T 1) else if w = 8 then faS (T (28 + 6 * t)) (T 3) else 0
def beS (t : Nat) (w v : Int32) (T : TS) : TS := if w = 0 then mfu T (28 + 6 * t) v else if w = 1 then mfu T (29 + 6 * t) v else if w = 2 then mfu T (30 + 6 * t) v else if w = 3 then mfu T (31 + 6 * t) v else if w = 4 then mfu T (32 + 6 * t) v else if w = 5 then mfu T (33 + 6 * t) v else T
def dsS (x : Int32) (T : TS) : Int32 := T (dyI x 0) + T (dyI x 1) + T (dyI x 2)
def thF (x : Int32) (T : TS) (t : Nat) (s : Int32) : Int32 := if T (29 + 6 * t) = x then s ||| (1 <<< (Int32.ofNat t &&& 31)) else s
def thS (x : Int32) (n : Nat) (T : TS) : Int32 := lpf (thF x T) 0 n 0
def csF (T : TS) (t : Nat) (s : Int32) : Int32 := s ||| (1 <<< (T (30 + 6 * t) &&& 31))
def csS (n : Nat) (T : TS) : Int32 := lpf (csF T) 0 n 0
def suF (w : Int32) (T : TS) (t : Nat) (s : Int32) : Int32 := s + toS t w T
def suS (w : Int32) (n : Nat) (T : TS) : Int32 := lpf (suF w T) 0 n 0
def spF (T : TS) (k : Nat) (s : Int32) : Int32 := if T (76 + k) = -1 then s else s + 1
def spS (T : TS) : Int32 := lpf (spF T) 0 10 0
def adF (T : TS) (k : Nat) (s : Int32) : Int32 := s + dsS (Int32.ofNat k) T
def adS (T : TS) : Int32 := lpf (adF T) 0 8 0
def clS (x : Int32) (T : TS) : Bool := decide (¬ 9 < dsS x T)
def coF (T : TS) (k : Nat) (s : Int32) : Int32 := if clS (Int32.ofNat k) T = true then s ||| (1 <<< (Int32.ofNat k &&& 31)) else s
def clA (T : TS) : Int32 := lpf (coF T) 0 8 0
def ch3 (d0 d1 d2 : Int32) : Int32 := if d0 < d1 then (if d1 < d2 then 2 else 1) else (if d0 < d2 then 2 else 0)
section
variable {n t : Nat} {T U : TS} {x y w v : Int32}
theorem sr_to (h : SR n T U) (ht : t < n) : toS t w U = toS t w T := by
  unfold toS
  rw [sr_kind h ht, sr_layer h ht, sr_colour h ht, sr_holds h ht, sr_soaked h ht, sr_seen h ht, sr_low h (k := 3) (by omega) (by omega), sr_low h (k := 1) (by omega) (by omega)]
theorem sr_ds (h : SR n T U) (hx : isL x = true) : dsS x U = dsS x T := by
  unfold dsS
  rw [sr_dye h hx isC_0, sr_dye h hx isC_1, sr_dye h hx isC_2]
theorem lpf_eq {α : Type} {f g : Nat → α → α} {N : Nat} (hs : ∀ n s, n < N → f n s = g n s) : ∀ m n s, n + m = N → lpf f n m s = lpf g n m s := by
  intro m
  induction m with
  | zero => intro n s h; rfl
  | succ m ih =>
    intro n s h
    show lpf f (n + 1) m (f n s) = lpf g (n + 1) m (g n s)
    rw [hs n s (by omega)]
    exact ih (n + 1) _ (by omega)
theorem sr_th (h : SR n T U) : thS x n U = thS x n T := lpf_eq (fun k s hk => by unfold thF; rw [sr_layer h hk]) n 0 0 (by omega)
theorem sr_cs (h : SR n T U) : csS n U = csS n T := lpf_eq (fun k s hk => by unfold csF; rw [sr_colour h hk]) n 0 0 (by omega)
theorem sr_su (h : SR n T U) : suS w n U = suS w n T := lpf_eq (fun k s hk => by unfold suF; rw [sr_to h hk]) n 0 0 (by omega)
theorem sr_sp (h : SR n T U) : spS U = spS T := lpf_eq (fun k s hk => by unfold spF; rw [sr_spot h hk]) 10 0 0 (by omega)
theorem sr_ad (h : SR n T U) : adS U = adS T := lpf_eq (fun k s hk => by unfold adF; rw [sr_ds h (isL_at hk)]) 8 0 0 (by omega)
theorem sr_cl (h : SR n T U) (hx : isL x = true) : clS x U = clS x T := by unfold clS; rw [sr_ds h hx]
theorem sr_clA (h : SR n T U) : clA U = clA T := lpf_eq (fun k s hk => by unfold coF; rw [sr_cl h (isL_at hk)]) 8 0 0 (by omega)
end
