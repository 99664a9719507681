/-! ===== the reference's calls: what to do ===== -/
def sw2 (i j k : Nat) : Nat := if k = j then i else if k = i then j else k
def swL (x y l : Int32) : Int32 := if l = x then y else if l = y then x else l
theorem sw_sw {i j k : Nat} : sw2 i j (sw2 i j k) = k := by
  unfold sw2
  by_cases h : k = j
  · rw [if_pos h]
    by_cases e : i = j
    · rw [if_pos e]; omega
    · rw [if_neg e, if_pos rfl]; exact h.symm
  · rw [if_neg h]
    by_cases e : k = i
    · rw [if_pos e, if_pos rfl]; exact e.symm
    · rw [if_neg e, if_neg h, if_neg e]
theorem sw_cm {i j i' j' k : Nat} (h1 : i ≠ i') (h2 : i ≠ j') (h3 : j ≠ i') (h4 : j ≠ j') : sw2 i j (sw2 i' j' k) = sw2 i' j' (sw2 i j k) := by
  unfold sw2
  by_cases a : k = j
  · subst a; rw [if_pos rfl, if_neg h4, if_neg h3, if_pos rfl, if_neg h2, if_neg h1]
  · rw [if_neg a]
    by_cases b : k = i
    · subst b; rw [if_pos rfl, if_neg h2, if_neg h1, if_neg a, if_pos rfl, if_neg h4, if_neg h3]
    · rw [if_neg b]
      by_cases c : k = j'
      · rw [if_pos c, if_neg h3.symm, if_neg h1.symm]
      · rw [if_neg c]
        by_cases d : k = i'
        · rw [if_pos d, if_neg h4.symm, if_neg h2.symm]
        · rw [if_neg d, if_neg a, if_neg b]
theorem sw_lo {i j k : Nat} (hi : i < 28) (hj : j < 28) : (k < 28 → sw2 i j k < 28) ∧ (28 ≤ k → sw2 i j k = k) := by
  unfold sw2
  constructor
  · intro h; split
    · exact hi
    split
    · exact hj
    · exact h
  · intro h; rw [if_neg (by omega), if_neg (by omega)]
theorem exF_at {x y c : Int32} {T : TS} {k : Nat} : exF x y c T k = T (sw2 (dyI x c) (dyI y c) k) := by
  unfold exF mfu sw2
  by_cases a : k = dyI y c
  · rw [if_pos a, if_pos a]
  · rw [if_neg a, if_neg a]
    by_cases b : k = dyI x c
    · rw [if_pos b, if_pos b]
    · rw [if_neg b, if_neg b]
theorem exT_at {x y : Int32} {n : Nat} {s : TS} : ∀ k, lpf (exT x y) 0 n s k = if 29 ≤ k ∧ (k - 29) % 6 = 0 ∧ (k - 29) / 6 < n then swL x y (s k) else s k :=
  lpf_inv (f := exT x y) (P := fun m (r : TS) => ∀ k, r k = if 29 ≤ k ∧ (k - 29) % 6 = 0 ∧ (k - 29) / 6 < m then swL x y (s k) else s k) (N := n) (fun m r hm p k => by
    have e : exT x y m r = mfu r (29 + 6 * m) (swL x y (r (29 + 6 * m))) := rfl
    rw [e]
    by_cases q : k = 29 + 6 * m
    · rw [q, fu_at, p (29 + 6 * m), if_neg (by omega), if_pos (by omega)]
    · rw [fu_ne q, p k]
      by_cases r : 29 ≤ k ∧ (k - 29) % 6 = 0 ∧ (k - 29) / 6 < m
      · rw [if_pos r, if_pos (by omega)]
      · rw [if_neg r, if_neg (by omega)]) n 0 s (by omega) (fun k => by rw [if_neg (by omega)])
theorem swL2 {x y l : Int32} : swL x y (swL x y l) = l := by
  unfold swL
  by_cases h : l = x
  · rw [if_pos h]
    by_cases e : y = x
    · rw [if_pos e, e, h]
    · rw [if_neg e, if_pos rfl, h]
  · rw [if_neg h]
    by_cases e : l = y
    · rw [if_pos e, if_pos rfl, e]
    · rw [if_neg e, if_neg h, if_neg e]
theorem st_at2 {x y : Int32} {n : Nat} {T : TS} (hx : isL x = true) (hy : isL y = true) (k : Nat) : stS x y n T k = if 29 ≤ k ∧ (k - 29) % 6 = 0 ∧ (k - 29) / 6 < n then swL x y (T k) else T (sw2 (dyI x 0) (dyI y 0) (sw2 (dyI x 1) (dyI y 1) (sw2 (dyI x 2) (dyI y 2) k))) := by
  unfold stS
  rw [exT_at, exF_at, exF_at, exF_at]
  split
  · rename_i r
    obtain ⟨a, ha, rfl⟩ := isL_nat hx
    obtain ⟨b, hb, rfl⟩ := isL_nat hy
    have d : ∀ l < 8, ∀ c < 3, dyI (Int32.ofNat l) (Int32.ofNat c) < 28 := fun l hl c hc => by rw [dyI_at hl hc]; omega
    have p : ∀ c < 3, sw2 (dyI (Int32.ofNat a) (Int32.ofNat c)) (dyI (Int32.ofNat b) (Int32.ofNat c)) k = k := fun c hc => (sw_lo (d a ha c hc) (d b hb c hc)).2 (by omega)
    have p0 : sw2 (dyI (Int32.ofNat a) 0) (dyI (Int32.ofNat b) 0) k = k := p 0 (by omega)
    have p1 : sw2 (dyI (Int32.ofNat a) 1) (dyI (Int32.ofNat b) 1) k = k := p 1 (by omega)
    have p2 : sw2 (dyI (Int32.ofNat a) 2) (dyI (Int32.ofNat b) 2) k = k := p 2 (by omega)
    rw [p2, p1, p0]
  · rfl
theorem st_st2 {x y : Int32} {n : Nat} {T : TS} (hx : isL x = true) (hy : isL y = true) (hxy : ¬ x = y) : stS x y n (stS x y n T) = T := by
  funext k
  rw [st_at2 hx hy]
  by_cases r : 29 ≤ k ∧ (k - 29) % 6 = 0 ∧ (k - 29) / 6 < n
  · rw [if_pos r, st_at2 hx hy, if_pos r, swL2]
  · rw [if_neg r, st_at2 hx hy]
    obtain ⟨a, ha, rfl⟩ := isL_nat hx
    obtain ⟨b, hb, rfl⟩ := isL_nat hy
    have hab : a ≠ b := fun e => hxy (by rw [e])
    have d : ∀ l < 8, ∀ c < 3, dyI (Int32.ofNat l) (Int32.ofNat c) = 4 + (3 * l + c) := fun l hl c hc => dyI_at hl hc
    have a0 := d a ha 0 (by omega)
    have a1 := d a ha 1 (by omega)
    have a2 := d a ha 2 (by omega)
    have b0 := d b hb 0 (by omega)
    have b1 := d b hb 1 (by omega)
    have b2 := d b hb 2 (by omega)
    generalize hi0 : dyI (Int32.ofNat a) 0 = i0
    generalize hi1 : dyI (Int32.ofNat a) 1 = i1
    generalize hi2 : dyI (Int32.ofNat a) 2 = i2
    generalize hj0 : dyI (Int32.ofNat b) 0 = j0
    generalize hj1 : dyI (Int32.ofNat b) 1 = j1
    generalize hj2 : dyI (Int32.ofNat b) 2 = j2
    have a0 : i0 = 4 + (3 * a + 0) := hi0.symm.trans a0
    have a1 : i1 = 4 + (3 * a + 1) := hi1.symm.trans a1
    have a2 : i2 = 4 + (3 * a + 2) := hi2.symm.trans a2
    have b0 : j0 = 4 + (3 * b + 0) := hj0.symm.trans b0
    have b1 : j1 = 4 + (3 * b + 1) := hj1.symm.trans b1
    have b2 : j2 = 4 + (3 * b + 2) := hj2.symm.trans b2
    have lo2 := sw_lo (i := i2) (j := j2) (k := k) (by omega) (by omega)
    have lo1 := sw_lo (i := i1) (j := j1) (k := sw2 i2 j2 k) (by omega) (by omega)
    have lo0 := sw_lo (i := i0) (j := j0) (k := sw2 i1 j1 (sw2 i2 j2 k)) (by omega) (by omega)
    rw [if_neg]
    · rw [sw_cm (i := i2) (j := j2) (i' := i0) (j' := j0) (by omega) (by omega) (by omega) (by omega), sw_cm (i := i1) (j := j1) (i' := i0) (j' := j0) (by omega) (by omega) (by omega) (by omega), sw_sw, sw_cm (i := i2) (j := j2) (i' := i1) (j' := j1) (by omega) (by omega) (by omega) (by omega), sw_sw, sw_sw]
    · intro z
      by_cases q : k < 28
      · have := lo2.1 q; have := lo1.1 this; have := lo0.1 this; omega
      · have e2 := lo2.2 (by omega)
        have e1 := lo1.2 (by omega)
        have e0 := lo0.2 (by omega)
        rw [e0, e1, e2] at z
        exact r z
/-- the best of what is tried: which, how much -/
def beF (f : Nat → Int32) (k : Nat) (s : Int32 × Int32) : Int32 × Int32 := if s.2 < f k then (Int32.ofNat k, f k) else s
def beG (f : Nat → Nat → Int32) (i : Nat) (k : Nat) (s : Int32 × Int32) : Int32 × Int32 := if s.2 < f i k then (Int32.ofNat (8 * i + k), f i k) else s
def beH (f : Nat → Nat → Int32) (i : Nat) (s : Int32 × Int32) : Int32 × Int32 := lpf (beG f i) (i + 1) (7 - i) s
def sfV (t n m : Nat) (T : TS) (i k : Nat) : Int32 := ysT 0 n m (stS (Int32.ofNat i) (Int32.ofNat k) n T) (33 + 6 * t)
def buV (f g t n m : Nat) (T : TS) (v : Nat) : Int32 := ysT 0 n m (mfu T (28 + f + 6 * t) (Int32.ofNat v)) (28 + g + 6 * t)
def sfQ (x z : Int32) (n : Nat) (T : TS) : QR := if hsB x n = true ∧ wi z 0 30 = true then .inl (lpf (beH (sfV (iN x) n (iN z) T)) 0 8 (0, -1)).1 else .inr 0
def puQ (x z : Int32) (n : Nat) (T : TS) : QR := if hsB x n = true ∧ wi z 0 30 = true then .inl (lpf (beF (buV 1 5 (iN x) n (iN z) T)) 0 8 (0, -1)).1 else .inr 0
def kfQ (x z : Int32) (n : Nat) (T : TS) : QR := if hsB x n = true ∧ wi z 0 40 = true then .inl (lpf (beF (buV 0 3 (iN x) n (iN z) T)) 0 7 (0, -1)).1 else .inr 0
def hfP (t n m : Nat) (T : TS) (v : Nat) : Bool := decide (ysT 0 n m (mfu T (31 + 6 * t) (Int32.ofNat v)) (30 + 6 * t) = T (30 + 6 * t))
def hfQ (x z : Int32) (n : Nat) (T : TS) : QR := if hsB x n = true ∧ wi z 0 40 = true then onQ (fnd (hfP (iN x) n (iN z) T) 0 201) else .inr 0
def lfP (x : Int32) (n m : Nat) (T : TS) (j : Nat) : Bool := clS x (ysT 0 n m (mfu T 3 (Int32.ofNat (9 - j))))
def l9Q (o : Option Nat) : QR := match o with
  | some k => .inl (Int32.ofNat (9 - k))
  | none => .inr 3
theorem l9_s {k : Nat} : l9Q (some k) = .inl (Int32.ofNat (9 - k)) := rfl
theorem l9_n : l9Q none = .inr 3 := rfl
def lfQ (x z : Int32) (n : Nat) (T : TS) : QR := if isL x = true ∧ wi z 0 40 = true then l9Q (fnd (lfP x n (iN z) T) 0 10) else .inr 0
def ouF (x : Int32) (n m : Nat) (T : TS) (k : Nat) (s : Int32) : Int32 := if (s < 0 ∨ mnS (Int32.ofNat k) < mnS s) ∧ clS x (ysT (Int32.ofNat k) n m T) = true then Int32.ofNat k else s
def ou0 (v : Int32) : QR := if v < 0 then .inr 3 else .inl v
def ouQ (x z : Int32) (n : Nat) (T : TS) : QR := if isL x = true ∧ wi z 0 20 = true then ou0 (lpf (ouF x n (iN z) T) 0 (2 ^ n) (-1)) else .inr 0
theorem mx_eq {u v : Int32} : (if v < u then u else v) = (if u < v then v else u) := by
  by_cases q : v < u
  · rw [if_pos q, if_neg]; rw [lt_ti] at q ⊢; omega
  · rw [if_neg q]
    by_cases r : u < v
    · rw [if_pos r]
    · rw [if_neg r, eq_ti]; rw [lt_ti] at q r; omega
theorem up_1 {T : TS} {k : Nat} {v : Int32} (hk : k ≠ 1) : mfu T k v 1 = T 1 := fu_ne hk.symm
theorem st_1 {T : TS} {x y : Int32} {n : Nat} (hx : isL x = true) (hy : isL y = true) : stS x y n T 1 = T 1 := by
  obtain ⟨a, ha, rfl⟩ := isL_nat hx
  obtain ⟨b, hb, rfl⟩ := isL_nat hy
  have d : ∀ l < 8, ∀ c < 3, dyI (Int32.ofNat l) (Int32.ofNat c) = 4 + (3 * l + c) := fun l hl c hc => dyI_at hl hc
  have e : ∀ (T : TS) (c : Nat), c < 3 → exF (Int32.ofNat a) (Int32.ofNat b) (Int32.ofNat c) T 1 = T 1 := fun T c hc => by
    unfold exF; rw [d a ha c hc, d b hb c hc, fu_ne (by omega), fu_ne (by omega)]
  unfold stS
  rw [exT_at, if_neg (by omega)]
  exact (e _ 2 (by omega)).trans ((e _ 1 (by omega)).trans (e _ 0 (by omega)))
section
variable {S K Y : TS} {x y z v w : Int32} {n k m : Nat}
theorem ok_layer {T : TS} {t v : Nat} (ok : Ok n T) (ht : t < n) (hv : v < 8) : Ok n (mfu T (29 + 6 * t) (Int32.ofNat v)) := by
  have h8 := ok.1
  exact SR.up ok (by omega) (fun _ => bd_layer (by omega) (by rw [ti_of (by omega)]; omega) (by rw [ti_of (by omega)]; omega))
theorem ok_kind {T : TS} {t v : Nat} (ok : Ok n T) (ht : t < n) (hv : v < 7) : Ok n (mfu T (28 + 6 * t) (Int32.ofNat v)) := by
  have h8 := ok.1
  exact SR.up ok (by omega) (fun _ => bd_kind (by omega) (by rw [ti_of (by omega)]; omega) (by rw [ti_of (by omega)]; omega))
theorem ok_holds {T : TS} {t v : Nat} (ok : Ok n T) (ht : t < n) (hv : v < 1000) : Ok n (mfu T (31 + 6 * t) (Int32.ofNat v)) := by
  have h8 := ok.1
  exact SR.up ok (by omega) (fun _ => bd_holds (by omega) (by rw [ti_of (by omega)]; omega) (by rw [ti_of (by omega)]; omega))
theorem ok_lye {T : TS} {v : Nat} (ok : Ok n T) (hv : v < 10) : Ok n (mfu T 3 (Int32.ofNat v)) :=
  SR.up ok (by omega) (fun _ => ⟨by rw [ti_of (by omega)]; show (0 : Int) ≤ v; omega, by rw [ti_of (by omega)]; show (v : Int) ≤ 9; omega⟩)
theorem mq_stirFor (ok : Ok n S) (hy : (S 1).toInt ≤ 60000) : OpQ 173 [.int x, .int z] S K Y (sfQ x z n S) := by
  intro a h B A
  have h8 := ok.1
  by_cases h0 : hsB x n = true
  · by_cases h1 : wi z 0 30 = true
    · rw [show sfQ x z n S = .inl (lpf (beH (sfV (iN x) n (iN z) S)) 0 8 (0, -1)).1 from if_pos ⟨h0, h1⟩]
      obtain ⟨t, ht, rfl⟩ := hs_of h0 h8
      obtain ⟨m, hm, rfl⟩ := wi_nat 30 (by decide) h1
      rw [iN_of (show t < 2147483648 by omega), iN_of (show m < 2147483648 by omega)]
      have t8 : t < 8 := by omega
      have hp : 33 + 6 * t < 86 := by omega
      have hm' : m ≤ 300 := by omega
      have inner : ∀ i, i < 8 → ∀ (s : (Int32 × Int32) × TS × Option Value × Option Value), ∃ A' u1 u2, Rn 173 (35, [some (.ref 50), some (.int (Int32.ofNat t)), some (.int (Int32.ofNat m)), some (.int s.1.1), some (.int s.1.2), some (.int (Int32.ofNat i)), s.2.2.1, s.2.2.2], [], a, mw h S K B s.2.1 Y) = Rn 173 (35, [some (.ref 50), some (.int (Int32.ofNat t)), some (.int (Int32.ofNat m)), some (.int (beH (sfV t n m S) i s.1).1), some (.int (beH (sfV t n m S) i s.1).2), some (.int (Int32.ofNat (i + 1))), u1, u2], [], a, mw h S K B A' Y) := by
        intro i hi s
        have hL := isL_at hi
        have L := lp_up (M := 173) (X := fun k (r : (Int32 × Int32) × TS × Option Value) => (48, [some (.ref 50), some (.int (Int32.ofNat t)), some (.int (Int32.ofNat m)), some (.int r.1.1), some (.int r.1.2), some (.int (Int32.ofNat i)), some (.int (Int32.ofNat k)), r.2.2], [], a, mw h S K B r.2.1 Y)) (f := fun k r => (beG (sfV t n m S) i k r.1, stS (Int32.ofNat i) (Int32.ofNat k) n S, some (.int (sfV t n m S i k)))) (P := fun k _ => i < k) (N := 8) (fun k r hk hik => ⟨by
          obtain ⟨⟨b1, m1⟩, A1, u⟩ := r
          have hK := isL_at hk
          have hne : ¬ Int32.ofNat i = Int32.ofNat k := by rw [of_eq (by omega) (by omega)]; omega
          have ok' : Ok n (stS (Int32.ofNat i) (Int32.ofNat k) n S) := sr_st ok hL hK
          have hy' : (stS (Int32.ofNat i) (Int32.ofNat k) n S 1).toInt ≤ 60000 := by rw [st_1 hL hK]; exact hy
          have ix : 8 * Int32.ofNat i + Int32.ofNat k = Int32.ofNat (8 * i + k) := by rw [← of_add, ← of_mul]; rfl
          have mv : ysT 0 n m (stS (Int32.ofNat i) (Int32.ofNat k) n S) (33 + 6 * t) = sfV t n m S i k := rfl
          show Rn 173 (48, [some (.ref 50), some (.int (Int32.ofNat t)), some (.int (Int32.ofNat m)), some (.int b1), some (.int m1), some (.int (Int32.ofNat i)), some (.int (Int32.ofNat k)), u], [], a, mw h S K B A1 Y) = Rn 173 (48, [some (.ref 50), some (.int (Int32.ofNat t)), some (.int (Int32.ofNat m)), some (.int (beG (sfV t n m S) i k (b1, m1)).1), some (.int (beG (sfV t n m S) i k (b1, m1)).2), some (.int (Int32.ofNat i)), some (.int (Int32.ofNat (k + 1))), some (.int (sfV t n m S i k))], [], a, mw h S K B (stS (Int32.ofNat i) (Int32.ofNat k) n S) Y)
          rw [r173_48]
          unfold beG
          by_cases q : m1 < sfV t n m S i k
          · have q' : ¬ sfV t n m S i k < m1 := by rw [lt_ti] at q ⊢; omega
            simp only [r173_0, r173_1, r173_2, r173_5, r173_8, r173_9, r173_10, r173_11, r173_14, r173_17, r173_20, r173_21, r173_23, r173_26, r173_27, r173_28, r173_29, r173_30, r173_32, r173_33, r173_37, r173_39, r173_42, r173_44, r173_45, r173_46, r173_50, r173_52, r173_55, r173_56, r173_58, r173_60, r173_63, r173_64, r173_65, r173_66, r173_69, r173_70, r173_73, r173_75, r173_76, r173_78, r173_80, r173_83, r173_85, r173_87, r173_90, r173_92, r173_94, r173_95, r173_97, r173_98, r173_101, r173_102, r173_103, r173_105, r173_107, r173_110, r173_112, r173_115, r173_118, r173_121, r173_124, r173_125, Nl_none, Nl_int, Nl_ref, Nl_null, Kv_some, Ki_some, Kh_some, Bk_some, Bk_void, ↓reduceIte, mrt10, mrt11, zl2, zl3, zl4, zl8, Bool.false_eq_true, my_s, my_mis, my_kept, my_before, my_aside, my_isKept, my_findings, my_tape, my_taped, my_bitsOf, my_sizes, my_numbers, my_fitting, my_leastFit, my_token, my_from, my_to, my_value, my_faultAt, Int32.reduceAdd, Int32.reduceSub, Int32.reduceMul, Int32.reduceLT, zqm0, zqm1, zqm2, zqm3, zqm4, zqm5, zqm6, zqm7, zqm8, zq0m, zq01, zq02, zq03, zq04, zq05, zq06, zq07, zq08, zq1m, zq10, zq12, zq13, zq14, zq15, zq16, zq17, zq18, zq2m, zq20, zq21, zq23, zq24, zq25, zq26, zq27, zq28, zq3m, zq30, zq31, zq32, zq34, zq35, zq36, zq37, zq38, zq4m, zq40, zq41, zq42, zq43, zq45, zq46, zq47, zq48, zq5m, zq50, zq51, zq52, zq53, zq54, zq56, zq57, zq58, zq6m, zq60, zq61, zq62, zq63, zq64, zq65, zq67, zq68, zq7m, zq70, zq71, zq72, zq73, zq74, zq75, zq76, zq78, zq8m, zq80, zq81, zq82, zq83, zq84, zq85, zq86, zq87, lt8 hk, m_stirs ok hL hK hne, m_at5, m_thenAt ok' hp hm' hy', mv, m_stirs ok' hL hK hne, st_st2 hL hK hne, ix, m_greatest, q, q', of_in]
          · simp only [r173_0, r173_1, r173_2, r173_5, r173_8, r173_9, r173_10, r173_11, r173_14, r173_17, r173_20, r173_21, r173_23, r173_26, r173_27, r173_28, r173_29, r173_30, r173_32, r173_33, r173_37, r173_39, r173_42, r173_44, r173_45, r173_46, r173_50, r173_52, r173_55, r173_56, r173_58, r173_60, r173_63, r173_64, r173_65, r173_66, r173_69, r173_70, r173_73, r173_75, r173_76, r173_78, r173_80, r173_83, r173_85, r173_87, r173_90, r173_92, r173_94, r173_95, r173_97, r173_98, r173_101, r173_102, r173_103, r173_105, r173_107, r173_110, r173_112, r173_115, r173_118, r173_121, r173_124, r173_125, Nl_none, Nl_int, Nl_ref, Nl_null, Kv_some, Ki_some, Kh_some, Bk_some, Bk_void, ↓reduceIte, mrt10, mrt11, zl2, zl3, zl4, zl8, Bool.false_eq_true, my_s, my_mis, my_kept, my_before, my_aside, my_isKept, my_findings, my_tape, my_taped, my_bitsOf, my_sizes, my_numbers, my_fitting, my_leastFit, my_token, my_from, my_to, my_value, my_faultAt, Int32.reduceAdd, Int32.reduceSub, Int32.reduceMul, Int32.reduceLT, zqm0, zqm1, zqm2, zqm3, zqm4, zqm5, zqm6, zqm7, zqm8, zq0m, zq01, zq02, zq03, zq04, zq05, zq06, zq07, zq08, zq1m, zq10, zq12, zq13, zq14, zq15, zq16, zq17, zq18, zq2m, zq20, zq21, zq23, zq24, zq25, zq26, zq27, zq28, zq3m, zq30, zq31, zq32, zq34, zq35, zq36, zq37, zq38, zq4m, zq40, zq41, zq42, zq43, zq45, zq46, zq47, zq48, zq5m, zq50, zq51, zq52, zq53, zq54, zq56, zq57, zq58, zq6m, zq60, zq61, zq62, zq63, zq64, zq65, zq67, zq68, zq7m, zq70, zq71, zq72, zq73, zq74, zq75, zq76, zq78, zq8m, zq80, zq81, zq82, zq83, zq84, zq85, zq86, zq87, lt8 hk, m_stirs ok hL hK hne, m_at5, m_thenAt ok' hp hm' hy', mv, m_stirs ok' hL hK hne, st_st2 hL hK hne, ix, m_greatest, mx_eq, q, of_in], by omega⟩) (7 - i) (i + 1) (s.1, s.2.1, s.2.2.2) (by omega) (by omega)
        have e1 : ∀ m1 k (s : (Int32 × Int32) × TS × Option Value), (lpf (fun k (r : (Int32 × Int32) × TS × Option Value) => (beG (sfV t n m S) i k r.1, stS (Int32.ofNat i) (Int32.ofNat k) n S, some (Value.int (sfV t n m S i k)))) k m1 s).1 = lpf (beG (sfV t n m S) i) k m1 s.1 := by
          intro m1
          induction m1 with
          | zero => intro k s; rfl
          | succ m1 ih => intro k s; exact ih (k + 1) _
        have e2 := e1 (7 - i) (i + 1) (s.1, s.2.1, s.2.2.2)
        generalize lpf (fun k (r : (Int32 × Int32) × TS × Option Value) => (beG (sfV t n m S) i k r.1, stS (Int32.ofNat i) (Int32.ofNat k) n S, some (Value.int (sfV t n m S i k)))) (i + 1) (7 - i) (s.1, s.2.1, s.2.2.2) = s' at L e2
        obtain ⟨s0, A', u'⟩ := s'
        have e2 : s0 = beH (sfV t n m S) i s.1 := e2
        subst e2
        refine ⟨A', some (.int 8), u', ?_⟩
        obtain ⟨⟨b1, m1⟩, A1, u1, u2⟩ := s
        rw [r173_35]
        simp only [r173_0, r173_1, r173_2, r173_5, r173_8, r173_9, r173_10, r173_11, r173_14, r173_17, r173_20, r173_21, r173_23, r173_26, r173_27, r173_28, r173_29, r173_30, r173_32, r173_33, r173_37, r173_39, r173_42, r173_44, r173_45, r173_46, r173_50, r173_52, r173_55, r173_56, r173_58, r173_60, r173_63, r173_64, r173_65, r173_66, r173_69, r173_70, r173_73, r173_75, r173_76, r173_78, r173_80, r173_83, r173_85, r173_87, r173_90, r173_92, r173_94, r173_95, r173_97, r173_98, r173_101, r173_102, r173_103, r173_105, r173_107, r173_110, r173_112, r173_115, r173_118, r173_121, r173_124, r173_125, Nl_none, Nl_int, Nl_ref, Nl_null, Kv_some, Ki_some, Kh_some, Bk_some, Bk_void, ↓reduceIte, mrt10, mrt11, zl2, zl3, zl4, zl8, Bool.false_eq_true, my_s, my_mis, my_kept, my_before, my_aside, my_isKept, my_findings, my_tape, my_taped, my_bitsOf, my_sizes, my_numbers, my_fitting, my_leastFit, my_token, my_from, my_to, my_value, my_faultAt, Int32.reduceAdd, Int32.reduceSub, Int32.reduceMul, Int32.reduceLT, zqm0, zqm1, zqm2, zqm3, zqm4, zqm5, zqm6, zqm7, zqm8, zq0m, zq01, zq02, zq03, zq04, zq05, zq06, zq07, zq08, zq1m, zq10, zq12, zq13, zq14, zq15, zq16, zq17, zq18, zq2m, zq20, zq21, zq23, zq24, zq25, zq26, zq27, zq28, zq3m, zq30, zq31, zq32, zq34, zq35, zq36, zq37, zq38, zq4m, zq40, zq41, zq42, zq43, zq45, zq46, zq47, zq48, zq5m, zq50, zq51, zq52, zq53, zq54, zq56, zq57, zq58, zq6m, zq60, zq61, zq62, zq63, zq64, zq65, zq67, zq68, zq7m, zq70, zq71, zq72, zq73, zq74, zq75, zq76, zq78, zq8m, zq80, zq81, zq82, zq83, zq84, zq85, zq86, zq87, lt8 hi, of_in]
        refine L.1.trans ?_
        rw [r173_48]
        simp only [r173_0, r173_1, r173_2, r173_5, r173_8, r173_9, r173_10, r173_11, r173_14, r173_17, r173_20, r173_21, r173_23, r173_26, r173_27, r173_28, r173_29, r173_30, r173_32, r173_33, r173_37, r173_39, r173_42, r173_44, r173_45, r173_46, r173_50, r173_52, r173_55, r173_56, r173_58, r173_60, r173_63, r173_64, r173_65, r173_66, r173_69, r173_70, r173_73, r173_75, r173_76, r173_78, r173_80, r173_83, r173_85, r173_87, r173_90, r173_92, r173_94, r173_95, r173_97, r173_98, r173_101, r173_102, r173_103, r173_105, r173_107, r173_110, r173_112, r173_115, r173_118, r173_121, r173_124, r173_125, Nl_none, Nl_int, Nl_ref, Nl_null, Kv_some, Ki_some, Kh_some, Bk_some, Bk_void, ↓reduceIte, mrt10, mrt11, zl2, zl3, zl4, zl8, Bool.false_eq_true, my_s, my_mis, my_kept, my_before, my_aside, my_isKept, my_findings, my_tape, my_taped, my_bitsOf, my_sizes, my_numbers, my_fitting, my_leastFit, my_token, my_from, my_to, my_value, my_faultAt, Int32.reduceAdd, Int32.reduceSub, Int32.reduceMul, Int32.reduceLT, zqm0, zqm1, zqm2, zqm3, zqm4, zqm5, zqm6, zqm7, zqm8, zq0m, zq01, zq02, zq03, zq04, zq05, zq06, zq07, zq08, zq1m, zq10, zq12, zq13, zq14, zq15, zq16, zq17, zq18, zq2m, zq20, zq21, zq23, zq24, zq25, zq26, zq27, zq28, zq3m, zq30, zq31, zq32, zq34, zq35, zq36, zq37, zq38, zq4m, zq40, zq41, zq42, zq43, zq45, zq46, zq47, zq48, zq5m, zq50, zq51, zq52, zq53, zq54, zq56, zq57, zq58, zq6m, zq60, zq61, zq62, zq63, zq64, zq65, zq67, zq68, zq7m, zq70, zq71, zq72, zq73, zq74, zq75, zq76, zq78, zq8m, zq80, zq81, zq82, zq83, zq84, zq85, zq86, zq87, Int32.reduceOfNat, of_in]
      have outer : ∀ j i, i + j = 8 → ∀ (s : (Int32 × Int32) × TS × Option Value × Option Value), ∃ A', Rn 173 (35, [some (.ref 50), some (.int (Int32.ofNat t)), some (.int (Int32.ofNat m)), some (.int s.1.1), some (.int s.1.2), some (.int (Int32.ofNat i)), s.2.2.1, s.2.2.2], [], a, mw h S K B s.2.1 Y) = some (some (.int (lpf (beH (sfV t n m S)) i j s.1).1), a, mw h S K B A' Y) := by
        intro j
        induction j with
        | zero =>
          intro i hi s
          obtain rfl : i = 8 := by omega
          refine ⟨s.2.1, ?_⟩
          rw [r173_35]
          simp only [r173_0, r173_1, r173_2, r173_5, r173_8, r173_9, r173_10, r173_11, r173_14, r173_17, r173_20, r173_21, r173_23, r173_26, r173_27, r173_28, r173_29, r173_30, r173_32, r173_33, r173_37, r173_39, r173_42, r173_44, r173_45, r173_46, r173_50, r173_52, r173_55, r173_56, r173_58, r173_60, r173_63, r173_64, r173_65, r173_66, r173_69, r173_70, r173_73, r173_75, r173_76, r173_78, r173_80, r173_83, r173_85, r173_87, r173_90, r173_92, r173_94, r173_95, r173_97, r173_98, r173_101, r173_102, r173_103, r173_105, r173_107, r173_110, r173_112, r173_115, r173_118, r173_121, r173_124, r173_125, Nl_none, Nl_int, Nl_ref, Nl_null, Kv_some, Ki_some, Kh_some, Bk_some, Bk_void, ↓reduceIte, mrt10, mrt11, zl2, zl3, zl4, zl8, Bool.false_eq_true, my_s, my_mis, my_kept, my_before, my_aside, my_isKept, my_findings, my_tape, my_taped, my_bitsOf, my_sizes, my_numbers, my_fitting, my_leastFit, my_token, my_from, my_to, my_value, my_faultAt, Int32.reduceAdd, Int32.reduceSub, Int32.reduceMul, Int32.reduceLT, zqm0, zqm1, zqm2, zqm3, zqm4, zqm5, zqm6, zqm7, zqm8, zq0m, zq01, zq02, zq03, zq04, zq05, zq06, zq07, zq08, zq1m, zq10, zq12, zq13, zq14, zq15, zq16, zq17, zq18, zq2m, zq20, zq21, zq23, zq24, zq25, zq26, zq27, zq28, zq3m, zq30, zq31, zq32, zq34, zq35, zq36, zq37, zq38, zq4m, zq40, zq41, zq42, zq43, zq45, zq46, zq47, zq48, zq5m, zq50, zq51, zq52, zq53, zq54, zq56, zq57, zq58, zq6m, zq60, zq61, zq62, zq63, zq64, zq65, zq67, zq68, zq7m, zq70, zq71, zq72, zq73, zq74, zq75, zq76, zq78, zq8m, zq80, zq81, zq82, zq83, zq84, zq85, zq86, zq87, Int32.reduceOfNat, lpf]
        | succ j ih =>
          intro i hi s
          obtain ⟨A1, u1, u2, e⟩ := inner i (by omega) s
          obtain ⟨A2, e'⟩ := ih (i + 1) (by omega) (beH (sfV t n m S) i s.1, A1, u1, u2)
          exact ⟨A2, e.trans e'⟩
      obtain ⟨A', e⟩ := outer 8 0 rfl ((0, -1), A, none, none)
      refine ⟨B, A', Y, ?_, fun k _ => rfl⟩
      rw [qv_l]
      rw [Ec_go rfl]; show Rn 173 (0, [some (.ref 50), some (.int (Int32.ofNat t)), some (.int (Int32.ofNat m)), none, none, none, none, none], [], a, mw h S K B A Y) = _
      simp only [r173_0, r173_1, r173_2, r173_5, r173_8, r173_9, r173_10, r173_11, r173_14, r173_17, r173_20, r173_21, r173_23, r173_26, r173_27, r173_28, r173_29, r173_30, r173_32, r173_33, r173_37, r173_39, r173_42, r173_44, r173_45, r173_46, r173_50, r173_52, r173_55, r173_56, r173_58, r173_60, r173_63, r173_64, r173_65, r173_66, r173_69, r173_70, r173_73, r173_75, r173_76, r173_78, r173_80, r173_83, r173_85, r173_87, r173_90, r173_92, r173_94, r173_95, r173_97, r173_98, r173_101, r173_102, r173_103, r173_105, r173_107, r173_110, r173_112, r173_115, r173_118, r173_121, r173_124, r173_125, Nl_none, Nl_int, Nl_ref, Nl_null, Kv_some, Ki_some, Kh_some, Bk_some, Bk_void, ↓reduceIte, mrt10, mrt11, zl2, zl3, zl4, zl8, Bool.false_eq_true, my_s, my_mis, my_kept, my_before, my_aside, my_isKept, my_findings, my_tape, my_taped, my_bitsOf, my_sizes, my_numbers, my_fitting, my_leastFit, my_token, my_from, my_to, my_value, my_faultAt, Int32.reduceAdd, Int32.reduceSub, Int32.reduceMul, Int32.reduceLT, zqm0, zqm1, zqm2, zqm3, zqm4, zqm5, zqm6, zqm7, zqm8, zq0m, zq01, zq02, zq03, zq04, zq05, zq06, zq07, zq08, zq1m, zq10, zq12, zq13, zq14, zq15, zq16, zq17, zq18, zq2m, zq20, zq21, zq23, zq24, zq25, zq26, zq27, zq28, zq3m, zq30, zq31, zq32, zq34, zq35, zq36, zq37, zq38, zq4m, zq40, zq41, zq42, zq43, zq45, zq46, zq47, zq48, zq5m, zq50, zq51, zq52, zq53, zq54, zq56, zq57, zq58, zq6m, zq60, zq61, zq62, zq63, zq64, zq65, zq67, zq68, zq7m, zq70, zq71, zq72, zq73, zq74, zq75, zq76, zq78, zq8m, zq80, zq81, zq82, zq83, zq84, zq85, zq86, zq87, m_isLayer, m_isColour, m_isSheet, mi_0_999, mi_0_5, mi_0_9, mi_0_6, mi_0_8, mi_1_60, mi_1_5, mi_0_100, mi_0_30, mi_0_40, mi_0_20, mi_1_20, mi_0_1, mi_1_4, mi_m1_6, mi_0x, mf_0, mf_1, mf_2, mf_3, mf_4, mf_5, mf_6, b2i, m_isThing ok, h0, h1]
      exact e
    · rw [show sfQ x z n S = .inr 0 from if_neg (fun q => h1 q.2)]
      refine ⟨B, A, fnY 0 Y, ?_, fun k _ => rfl⟩
      rw [qv_0]
      rw [Ec_go rfl]; show Rn 173 (0, [some (.ref 50), some (.int x), some (.int z), none, none, none, none, none], [], a, mw h S K B A Y) = _
      simp only [r173_0, r173_1, r173_2, r173_5, r173_8, r173_9, r173_10, r173_11, r173_14, r173_17, r173_20, r173_21, r173_23, r173_26, r173_27, r173_28, r173_29, r173_30, r173_32, r173_33, r173_37, r173_39, r173_42, r173_44, r173_45, r173_46, r173_50, r173_52, r173_55, r173_56, r173_58, r173_60, r173_63, r173_64, r173_65, r173_66, r173_69, r173_70, r173_73, r173_75, r173_76, r173_78, r173_80, r173_83, r173_85, r173_87, r173_90, r173_92, r173_94, r173_95, r173_97, r173_98, r173_101, r173_102, r173_103, r173_105, r173_107, r173_110, r173_112, r173_115, r173_118, r173_121, r173_124, r173_125, Nl_none, Nl_int, Nl_ref, Nl_null, Kv_some, Ki_some, Kh_some, Bk_some, Bk_void, ↓reduceIte, mrt10, mrt11, zl2, zl3, zl4, zl8, Bool.false_eq_true, my_s, my_mis, my_kept, my_before, my_aside, my_isKept, my_findings, my_tape, my_taped, my_bitsOf, my_sizes, my_numbers, my_fitting, my_leastFit, my_token, my_from, my_to, my_value, my_faultAt, Int32.reduceAdd, Int32.reduceSub, Int32.reduceMul, Int32.reduceLT, zqm0, zqm1, zqm2, zqm3, zqm4, zqm5, zqm6, zqm7, zqm8, zq0m, zq01, zq02, zq03, zq04, zq05, zq06, zq07, zq08, zq1m, zq10, zq12, zq13, zq14, zq15, zq16, zq17, zq18, zq2m, zq20, zq21, zq23, zq24, zq25, zq26, zq27, zq28, zq3m, zq30, zq31, zq32, zq34, zq35, zq36, zq37, zq38, zq4m, zq40, zq41, zq42, zq43, zq45, zq46, zq47, zq48, zq5m, zq50, zq51, zq52, zq53, zq54, zq56, zq57, zq58, zq6m, zq60, zq61, zq62, zq63, zq64, zq65, zq67, zq68, zq7m, zq70, zq71, zq72, zq73, zq74, zq75, zq76, zq78, zq8m, zq80, zq81, zq82, zq83, zq84, zq85, zq86, zq87, m_isLayer, m_isColour, m_isSheet, mi_0_999, mi_0_5, mi_0_9, mi_0_6, mi_0_8, mi_1_60, mi_1_5, mi_0_100, mi_0_30, mi_0_40, mi_0_20, mi_1_20, mi_0_1, mi_1_4, mi_m1_6, mi_0x, mf_0, mf_1, mf_2, mf_3, mf_4, mf_5, mf_6, b2i, m_isThing ok, h0, h1]
  · rw [show sfQ x z n S = .inr 0 from if_neg (fun q => h0 q.1)]
    refine ⟨B, A, fnY 0 Y, ?_, fun k _ => rfl⟩
    rw [qv_0]
    rw [Ec_go rfl]; show Rn 173 (0, [some (.ref 50), some (.int x), some (.int z), none, none, none, none, none], [], a, mw h S K B A Y) = _
    simp only [r173_0, r173_1, r173_2, r173_5, r173_8, r173_9, r173_10, r173_11, r173_14, r173_17, r173_20, r173_21, r173_23, r173_26, r173_27, r173_28, r173_29, r173_30, r173_32, r173_33, r173_37, r173_39, r173_42, r173_44, r173_45, r173_46, r173_50, r173_52, r173_55, r173_56, r173_58, r173_60, r173_63, r173_64, r173_65, r173_66, r173_69, r173_70, r173_73, r173_75, r173_76, r173_78, r173_80, r173_83, r173_85, r173_87, r173_90, r173_92, r173_94, r173_95, r173_97, r173_98, r173_101, r173_102, r173_103, r173_105, r173_107, r173_110, r173_112, r173_115, r173_118, r173_121, r173_124, r173_125, Nl_none, Nl_int, Nl_ref, Nl_null, Kv_some, Ki_some, Kh_some, Bk_some, Bk_void, ↓reduceIte, mrt10, mrt11, zl2, zl3, zl4, zl8, Bool.false_eq_true, my_s, my_mis, my_kept, my_before, my_aside, my_isKept, my_findings, my_tape, my_taped, my_bitsOf, my_sizes, my_numbers, my_fitting, my_leastFit, my_token, my_from, my_to, my_value, my_faultAt, Int32.reduceAdd, Int32.reduceSub, Int32.reduceMul, Int32.reduceLT, zqm0, zqm1, zqm2, zqm3, zqm4, zqm5, zqm6, zqm7, zqm8, zq0m, zq01, zq02, zq03, zq04, zq05, zq06, zq07, zq08, zq1m, zq10, zq12, zq13, zq14, zq15, zq16, zq17, zq18, zq2m, zq20, zq21, zq23, zq24, zq25, zq26, zq27, zq28, zq3m, zq30, zq31, zq32, zq34, zq35, zq36, zq37, zq38, zq4m, zq40, zq41, zq42, zq43, zq45, zq46, zq47, zq48, zq5m, zq50, zq51, zq52, zq53, zq54, zq56, zq57, zq58, zq6m, zq60, zq61, zq62, zq63, zq64, zq65, zq67, zq68, zq7m, zq70, zq71, zq72, zq73, zq74, zq75, zq76, zq78, zq8m, zq80, zq81, zq82, zq83, zq84, zq85, zq86, zq87, m_isLayer, m_isColour, m_isSheet, mi_0_999, mi_0_5, mi_0_9, mi_0_6, mi_0_8, mi_1_60, mi_1_5, mi_0_100, mi_0_30, mi_0_40, mi_0_20, mi_1_20, mi_0_1, mi_1_4, mi_m1_6, mi_0x, mf_0, mf_1, mf_2, mf_3, mf_4, mf_5, mf_6, b2i, m_isThing ok, h0]
theorem m_gr1 {a : MA} {h : MH} : Ec 151 [.int 1] a h = some (some (.int 7), a, h) := m_greatestOf
theorem m_bestBy1 {a : MA} {h : MH} {B A : TS} {t : Nat} (ok : Ok n S) (ht : t < n) (hm : m ≤ 300) (hy : (S 1).toInt ≤ 60000) : ∃ A', Ec 174 [.ref 50, .int (Int32.ofNat t), .int 1, .int 5, .int (Int32.ofNat m)] a (mw h S K B A Y) = some (some (.int (lpf (beF (buV 1 5 t n m S)) 0 8 (0, -1)).1), a, mw h S K B A' Y) := by
  have h8 := ok.1
  have t8 : t < 8 := by omega
  have hp : 33 + 6 * t < 86 := by omega
  have L := lp_up (M := 174) (X := fun k (r : (Int32 × Int32) × Int32 × TS × Option Value) => (17, [some (.ref 50), some (.int (Int32.ofNat t)), some (.int 1), some (.int 5), some (.int (Int32.ofNat m)), some (.int (S (29 + 6 * t))), some (.int r.1.1), some (.int r.1.2), some (.int (Int32.ofNat k)), r.2.2.2], [], a, mw h (mfu S (29 + 6 * t) r.2.1) K B r.2.2.1 Y)) (f := fun k r => (beF (buV 1 5 t n m S) k r.1, Int32.ofNat k, mfu S (29 + 6 * t) (Int32.ofNat k), some (.int (buV 1 5 t n m S k)))) (P := fun _ _ => True) (N := 8) (fun k r hk _ => ⟨by
    obtain ⟨⟨b1, m1⟩, p1, A1, u⟩ := r
    have lt : ((7 : Int32) < Int32.ofNat k) = False := ltF (k := 7) (by omega) (by decide)
    have ok' := ok_layer ok ht hk
    have hy' : (mfu S (29 + 6 * t) (Int32.ofNat k) 1).toInt ≤ 60000 := by rw [up_1 (by omega)]; exact hy
    have mv : ysT 0 n m (mfu S (29 + 6 * t) (Int32.ofNat k)) (33 + 6 * t) = buV 1 5 t n m S k := rfl
    show Rn 174 (17, [some (.ref 50), some (.int (Int32.ofNat t)), some (.int 1), some (.int 5), some (.int (Int32.ofNat m)), some (.int (S (29 + 6 * t))), some (.int b1), some (.int m1), some (.int (Int32.ofNat k)), u], [], a, mw h (mfu S (29 + 6 * t) p1) K B A1 Y) = Rn 174 (17, [some (.ref 50), some (.int (Int32.ofNat t)), some (.int 1), some (.int 5), some (.int (Int32.ofNat m)), some (.int (S (29 + 6 * t))), some (.int (beF (buV 1 5 t n m S) k (b1, m1)).1), some (.int (beF (buV 1 5 t n m S) k (b1, m1)).2), some (.int (Int32.ofNat (k + 1))), some (.int (buV 1 5 t n m S k))], [], a, mw h (mfu S (29 + 6 * t) (Int32.ofNat k)) K B (mfu S (29 + 6 * t) (Int32.ofNat k)) Y)
    rw [r174_17]
    unfold beF
    by_cases q : m1 < buV 1 5 t n m S k
    · have q' : ¬ buV 1 5 t n m S k < m1 := by rw [lt_ti] at q ⊢; omega
      simp only [r174_0, r174_1, r174_2, r174_3, r174_6, r174_8, r174_9, r174_11, r174_12, r174_14, r174_15, r174_19, r174_20, r174_23, r174_26, r174_27, r174_30, r174_31, r174_32, r174_35, r174_37, r174_38, r174_39, r174_40, r174_41, r174_44, r174_46, r174_49, r174_51, r174_53, r174_55, r174_58, r174_60, r174_63, r174_65, r174_67, r174_69, r174_71, r174_74, r174_76, r174_79, r174_82, r174_83, r174_86, r174_87, r174_88, r174_91, r174_93, r174_94, r174_96, Nl_none, Nl_int, Nl_ref, Nl_null, Kv_some, Ki_some, Kh_some, Bk_some, Bk_void, ↓reduceIte, mrt10, mrt11, zl2, zl3, zl4, zl8, Bool.false_eq_true, my_s, my_mis, my_kept, my_before, my_aside, my_isKept, my_findings, my_tape, my_taped, my_bitsOf, my_sizes, my_numbers, my_fitting, my_leastFit, my_token, my_from, my_to, my_value, my_faultAt, Int32.reduceAdd, Int32.reduceSub, Int32.reduceMul, Int32.reduceLT, zqm0, zqm1, zqm2, zqm3, zqm4, zqm5, zqm6, zqm7, zqm8, zq0m, zq01, zq02, zq03, zq04, zq05, zq06, zq07, zq08, zq1m, zq10, zq12, zq13, zq14, zq15, zq16, zq17, zq18, zq2m, zq20, zq21, zq23, zq24, zq25, zq26, zq27, zq28, zq3m, zq30, zq31, zq32, zq34, zq35, zq36, zq37, zq38, zq4m, zq40, zq41, zq42, zq43, zq45, zq46, zq47, zq48, zq5m, zq50, zq51, zq52, zq53, zq54, zq56, zq57, zq58, zq6m, zq60, zq61, zq62, zq63, zq64, zq65, zq67, zq68, zq7m, zq70, zq71, zq72, zq73, zq74, zq75, zq76, zq78, zq8m, zq80, zq81, zq82, zq83, zq84, zq85, zq86, zq87, m_gr1, lt, m_at1, m_at5, mp_th1 t8, fu_fu, m_thenAt ok' hp hm hy', mv, m_greatest, q, q', of_in]
    · simp only [r174_0, r174_1, r174_2, r174_3, r174_6, r174_8, r174_9, r174_11, r174_12, r174_14, r174_15, r174_19, r174_20, r174_23, r174_26, r174_27, r174_30, r174_31, r174_32, r174_35, r174_37, r174_38, r174_39, r174_40, r174_41, r174_44, r174_46, r174_49, r174_51, r174_53, r174_55, r174_58, r174_60, r174_63, r174_65, r174_67, r174_69, r174_71, r174_74, r174_76, r174_79, r174_82, r174_83, r174_86, r174_87, r174_88, r174_91, r174_93, r174_94, r174_96, Nl_none, Nl_int, Nl_ref, Nl_null, Kv_some, Ki_some, Kh_some, Bk_some, Bk_void, ↓reduceIte, mrt10, mrt11, zl2, zl3, zl4, zl8, Bool.false_eq_true, my_s, my_mis, my_kept, my_before, my_aside, my_isKept, my_findings, my_tape, my_taped, my_bitsOf, my_sizes, my_numbers, my_fitting, my_leastFit, my_token, my_from, my_to, my_value, my_faultAt, Int32.reduceAdd, Int32.reduceSub, Int32.reduceMul, Int32.reduceLT, zqm0, zqm1, zqm2, zqm3, zqm4, zqm5, zqm6, zqm7, zqm8, zq0m, zq01, zq02, zq03, zq04, zq05, zq06, zq07, zq08, zq1m, zq10, zq12, zq13, zq14, zq15, zq16, zq17, zq18, zq2m, zq20, zq21, zq23, zq24, zq25, zq26, zq27, zq28, zq3m, zq30, zq31, zq32, zq34, zq35, zq36, zq37, zq38, zq4m, zq40, zq41, zq42, zq43, zq45, zq46, zq47, zq48, zq5m, zq50, zq51, zq52, zq53, zq54, zq56, zq57, zq58, zq6m, zq60, zq61, zq62, zq63, zq64, zq65, zq67, zq68, zq7m, zq70, zq71, zq72, zq73, zq74, zq75, zq76, zq78, zq8m, zq80, zq81, zq82, zq83, zq84, zq85, zq86, zq87, m_gr1, lt, m_at1, m_at5, mp_th1 t8, fu_fu, m_thenAt ok' hp hm hy', mv, m_greatest, mx_eq, q, of_in], trivial⟩) 8 0 ((0, -1), S (29 + 6 * t), A, none) (by omega) trivial
  have e1 : ∀ m1 k (s : (Int32 × Int32) × Int32 × TS × Option Value), (lpf (fun k (r : (Int32 × Int32) × Int32 × TS × Option Value) => (beF (buV 1 5 t n m S) k r.1, Int32.ofNat k, mfu S (29 + 6 * t) (Int32.ofNat k), some (Value.int (buV 1 5 t n m S k)))) k m1 s).1 = lpf (beF (buV 1 5 t n m S)) k m1 s.1 := by
    intro m1
    induction m1 with
    | zero => intro k s; rfl
    | succ m1 ih => intro k s; exact ih (k + 1) _
  have e2 := e1 8 0 ((0, -1), S (29 + 6 * t), A, none)
  generalize lpf (fun k (r : (Int32 × Int32) × Int32 × TS × Option Value) => (beF (buV 1 5 t n m S) k r.1, Int32.ofNat k, mfu S (29 + 6 * t) (Int32.ofNat k), some (Value.int (buV 1 5 t n m S k)))) 0 8 ((0, -1), S (29 + 6 * t), A, none) = s' at L e2
  obtain ⟨s0, p0, A', u'⟩ := s'
  have e2 : s0 = lpf (beF (buV 1 5 t n m S)) 0 8 (0, -1) := e2
  rw [← e2]
  refine ⟨A', ?_⟩
  have L1 : Rn 174 (17, [some (.ref 50), some (.int (Int32.ofNat t)), some (.int 1), some (.int 5), some (.int (Int32.ofNat m)), some (.int (S (29 + 6 * t))), some (.int 0), some (.int (-1)), some (.int 0), none], [], a, mw h (mfu S (29 + 6 * t) (S (29 + 6 * t))) K B A Y) = _ := L.1
  rw [fu_self] at L1
  rw [Ec_go rfl]; show Rn 174 (0, [some (.ref 50), some (.int (Int32.ofNat t)), some (.int 1), some (.int 5), some (.int (Int32.ofNat m)), none, none, none, none, none], [], a, mw h S K B A Y) = _
  simp only [r174_0, r174_1, r174_2, r174_3, r174_6, r174_8, r174_9, r174_11, r174_12, r174_14, r174_15, r174_19, r174_20, r174_23, r174_26, r174_27, r174_30, r174_31, r174_32, r174_35, r174_37, r174_38, r174_39, r174_40, r174_41, r174_44, r174_46, r174_49, r174_51, r174_53, r174_55, r174_58, r174_60, r174_63, r174_65, r174_67, r174_69, r174_71, r174_74, r174_76, r174_79, r174_82, r174_83, r174_86, r174_87, r174_88, r174_91, r174_93, r174_94, r174_96, Nl_none, Nl_int, Nl_ref, Nl_null, Kv_some, Ki_some, Kh_some, Bk_some, Bk_void, ↓reduceIte, mrt10, mrt11, zl2, zl3, zl4, zl8, Bool.false_eq_true, my_s, my_mis, my_kept, my_before, my_aside, my_isKept, my_findings, my_tape, my_taped, my_bitsOf, my_sizes, my_numbers, my_fitting, my_leastFit, my_token, my_from, my_to, my_value, my_faultAt, Int32.reduceAdd, Int32.reduceSub, Int32.reduceMul, Int32.reduceLT, zqm0, zqm1, zqm2, zqm3, zqm4, zqm5, zqm6, zqm7, zqm8, zq0m, zq01, zq02, zq03, zq04, zq05, zq06, zq07, zq08, zq1m, zq10, zq12, zq13, zq14, zq15, zq16, zq17, zq18, zq2m, zq20, zq21, zq23, zq24, zq25, zq26, zq27, zq28, zq3m, zq30, zq31, zq32, zq34, zq35, zq36, zq37, zq38, zq4m, zq40, zq41, zq42, zq43, zq45, zq46, zq47, zq48, zq5m, zq50, zq51, zq52, zq53, zq54, zq56, zq57, zq58, zq6m, zq60, zq61, zq62, zq63, zq64, zq65, zq67, zq68, zq7m, zq70, zq71, zq72, zq73, zq74, zq75, zq76, zq78, zq8m, zq80, zq81, zq82, zq83, zq84, zq85, zq86, zq87, m_its1 t8]
  rw [L1, r174_17]
  simp only [r174_0, r174_1, r174_2, r174_3, r174_6, r174_8, r174_9, r174_11, r174_12, r174_14, r174_15, r174_19, r174_20, r174_23, r174_26, r174_27, r174_30, r174_31, r174_32, r174_35, r174_37, r174_38, r174_39, r174_40, r174_41, r174_44, r174_46, r174_49, r174_51, r174_53, r174_55, r174_58, r174_60, r174_63, r174_65, r174_67, r174_69, r174_71, r174_74, r174_76, r174_79, r174_82, r174_83, r174_86, r174_87, r174_88, r174_91, r174_93, r174_94, r174_96, Nl_none, Nl_int, Nl_ref, Nl_null, Kv_some, Ki_some, Kh_some, Bk_some, Bk_void, ↓reduceIte, mrt10, mrt11, zl2, zl3, zl4, zl8, Bool.false_eq_true, my_s, my_mis, my_kept, my_before, my_aside, my_isKept, my_findings, my_tape, my_taped, my_bitsOf, my_sizes, my_numbers, my_fitting, my_leastFit, my_token, my_from, my_to, my_value, my_faultAt, Int32.reduceAdd, Int32.reduceSub, Int32.reduceMul, Int32.reduceLT, zqm0, zqm1, zqm2, zqm3, zqm4, zqm5, zqm6, zqm7, zqm8, zq0m, zq01, zq02, zq03, zq04, zq05, zq06, zq07, zq08, zq1m, zq10, zq12, zq13, zq14, zq15, zq16, zq17, zq18, zq2m, zq20, zq21, zq23, zq24, zq25, zq26, zq27, zq28, zq3m, zq30, zq31, zq32, zq34, zq35, zq36, zq37, zq38, zq4m, zq40, zq41, zq42, zq43, zq45, zq46, zq47, zq48, zq5m, zq50, zq51, zq52, zq53, zq54, zq56, zq57, zq58, zq6m, zq60, zq61, zq62, zq63, zq64, zq65, zq67, zq68, zq7m, zq70, zq71, zq72, zq73, zq74, zq75, zq76, zq78, zq8m, zq80, zq81, zq82, zq83, zq84, zq85, zq86, zq87, Int32.reduceOfNat, m_gr1, m_at1, mp_th1 t8, fu_fu, fu_self]
theorem mq_put (ok : Ok n S) (hy : (S 1).toInt ≤ 60000) : OpQ 175 [.int x, .int z] S K Y (puQ x z n S) := by
  intro a h B A
  have h8 := ok.1
  by_cases h0 : hsB x n = true
  · by_cases h1 : wi z 0 30 = true
    · rw [show puQ x z n S = .inl (lpf (beF (buV 1 5 (iN x) n (iN z) S)) 0 8 (0, -1)).1 from if_pos ⟨h0, h1⟩]
      obtain ⟨t, ht, rfl⟩ := hs_of h0 h8
      obtain ⟨m, hm, rfl⟩ := wi_nat 30 (by decide) h1
      rw [iN_of (show t < 2147483648 by omega), iN_of (show m < 2147483648 by omega)]
      obtain ⟨A', e⟩ := m_bestBy1 (a := a) (h := h) (K := K) (B := B) (A := A) (Y := Y) (m := m) ok ht (by omega) hy
      refine ⟨B, A', Y, ?_, fun k _ => rfl⟩
      rw [qv_l]
      rw [Ec_go rfl]; show Rn 175 (0, [some (.ref 50), some (.int (Int32.ofNat t)), some (.int (Int32.ofNat m))], [], a, mw h S K B A Y) = _
      simp only [r175_0, r175_1, r175_2, r175_5, r175_8, r175_9, r175_10, r175_11, r175_14, r175_17, r175_20, r175_21, r175_22, r175_23, r175_24, r175_25, r175_28, r175_31, r175_32, r175_34, r175_37, Nl_none, Nl_int, Nl_ref, Nl_null, Kv_some, Ki_some, Kh_some, Bk_some, Bk_void, ↓reduceIte, mrt10, mrt11, zl2, zl3, zl4, zl8, Bool.false_eq_true, my_s, my_mis, my_kept, my_before, my_aside, my_isKept, my_findings, my_tape, my_taped, my_bitsOf, my_sizes, my_numbers, my_fitting, my_leastFit, my_token, my_from, my_to, my_value, my_faultAt, Int32.reduceAdd, Int32.reduceSub, Int32.reduceMul, Int32.reduceLT, zqm0, zqm1, zqm2, zqm3, zqm4, zqm5, zqm6, zqm7, zqm8, zq0m, zq01, zq02, zq03, zq04, zq05, zq06, zq07, zq08, zq1m, zq10, zq12, zq13, zq14, zq15, zq16, zq17, zq18, zq2m, zq20, zq21, zq23, zq24, zq25, zq26, zq27, zq28, zq3m, zq30, zq31, zq32, zq34, zq35, zq36, zq37, zq38, zq4m, zq40, zq41, zq42, zq43, zq45, zq46, zq47, zq48, zq5m, zq50, zq51, zq52, zq53, zq54, zq56, zq57, zq58, zq6m, zq60, zq61, zq62, zq63, zq64, zq65, zq67, zq68, zq7m, zq70, zq71, zq72, zq73, zq74, zq75, zq76, zq78, zq8m, zq80, zq81, zq82, zq83, zq84, zq85, zq86, zq87, m_isLayer, m_isColour, m_isSheet, mi_0_999, mi_0_5, mi_0_9, mi_0_6, mi_0_8, mi_1_60, mi_1_5, mi_0_100, mi_0_30, mi_0_40, mi_0_20, mi_1_20, mi_0_1, mi_1_4, mi_m1_6, mi_0x, mf_0, mf_1, mf_2, mf_3, mf_4, mf_5, mf_6, b2i, m_isThing ok, h0, h1, e]
    · rw [show puQ x z n S = .inr 0 from if_neg (fun q => h1 q.2)]
      refine ⟨B, A, fnY 0 Y, ?_, fun k _ => rfl⟩
      rw [qv_0]
      rw [Ec_go rfl]; show Rn 175 (0, [some (.ref 50), some (.int x), some (.int z)], [], a, mw h S K B A Y) = _
      simp only [r175_0, r175_1, r175_2, r175_5, r175_8, r175_9, r175_10, r175_11, r175_14, r175_17, r175_20, r175_21, r175_22, r175_23, r175_24, r175_25, r175_28, r175_31, r175_32, r175_34, r175_37, Nl_none, Nl_int, Nl_ref, Nl_null, Kv_some, Ki_some, Kh_some, Bk_some, Bk_void, ↓reduceIte, mrt10, mrt11, zl2, zl3, zl4, zl8, Bool.false_eq_true, my_s, my_mis, my_kept, my_before, my_aside, my_isKept, my_findings, my_tape, my_taped, my_bitsOf, my_sizes, my_numbers, my_fitting, my_leastFit, my_token, my_from, my_to, my_value, my_faultAt, Int32.reduceAdd, Int32.reduceSub, Int32.reduceMul, Int32.reduceLT, zqm0, zqm1, zqm2, zqm3, zqm4, zqm5, zqm6, zqm7, zqm8, zq0m, zq01, zq02, zq03, zq04, zq05, zq06, zq07, zq08, zq1m, zq10, zq12, zq13, zq14, zq15, zq16, zq17, zq18, zq2m, zq20, zq21, zq23, zq24, zq25, zq26, zq27, zq28, zq3m, zq30, zq31, zq32, zq34, zq35, zq36, zq37, zq38, zq4m, zq40, zq41, zq42, zq43, zq45, zq46, zq47, zq48, zq5m, zq50, zq51, zq52, zq53, zq54, zq56, zq57, zq58, zq6m, zq60, zq61, zq62, zq63, zq64, zq65, zq67, zq68, zq7m, zq70, zq71, zq72, zq73, zq74, zq75, zq76, zq78, zq8m, zq80, zq81, zq82, zq83, zq84, zq85, zq86, zq87, m_isLayer, m_isColour, m_isSheet, mi_0_999, mi_0_5, mi_0_9, mi_0_6, mi_0_8, mi_1_60, mi_1_5, mi_0_100, mi_0_30, mi_0_40, mi_0_20, mi_1_20, mi_0_1, mi_1_4, mi_m1_6, mi_0x, mf_0, mf_1, mf_2, mf_3, mf_4, mf_5, mf_6, b2i, m_isThing ok, h0, h1]
  · rw [show puQ x z n S = .inr 0 from if_neg (fun q => h0 q.1)]
    refine ⟨B, A, fnY 0 Y, ?_, fun k _ => rfl⟩
    rw [qv_0]
    rw [Ec_go rfl]; show Rn 175 (0, [some (.ref 50), some (.int x), some (.int z)], [], a, mw h S K B A Y) = _
    simp only [r175_0, r175_1, r175_2, r175_5, r175_8, r175_9, r175_10, r175_11, r175_14, r175_17, r175_20, r175_21, r175_22, r175_23, r175_24, r175_25, r175_28, r175_31, r175_32, r175_34, r175_37, Nl_none, Nl_int, Nl_ref, Nl_null, Kv_some, Ki_some, Kh_some, Bk_some, Bk_void, ↓reduceIte, mrt10, mrt11, zl2, zl3, zl4, zl8, Bool.false_eq_true, my_s, my_mis, my_kept, my_before, my_aside, my_isKept, my_findings, my_tape, my_taped, my_bitsOf, my_sizes, my_numbers, my_fitting, my_leastFit, my_token, my_from, my_to, my_value, my_faultAt, Int32.reduceAdd, Int32.reduceSub, Int32.reduceMul, Int32.reduceLT, zqm0, zqm1, zqm2, zqm3, zqm4, zqm5, zqm6, zqm7, zqm8, zq0m, zq01, zq02, zq03, zq04, zq05, zq06, zq07, zq08, zq1m, zq10, zq12, zq13, zq14, zq15, zq16, zq17, zq18, zq2m, zq20, zq21, zq23, zq24, zq25, zq26, zq27, zq28, zq3m, zq30, zq31, zq32, zq34, zq35, zq36, zq37, zq38, zq4m, zq40, zq41, zq42, zq43, zq45, zq46, zq47, zq48, zq5m, zq50, zq51, zq52, zq53, zq54, zq56, zq57, zq58, zq6m, zq60, zq61, zq62, zq63, zq64, zq65, zq67, zq68, zq7m, zq70, zq71, zq72, zq73, zq74, zq75, zq76, zq78, zq8m, zq80, zq81, zq82, zq83, zq84, zq85, zq86, zq87, m_isLayer, m_isColour, m_isSheet, mi_0_999, mi_0_5, mi_0_9, mi_0_6, mi_0_8, mi_1_60, mi_1_5, mi_0_100, mi_0_30, mi_0_40, mi_0_20, mi_1_20, mi_0_1, mi_1_4, mi_m1_6, mi_0x, mf_0, mf_1, mf_2, mf_3, mf_4, mf_5, mf_6, b2i, m_isThing ok, h0]
theorem m_gr0 {a : MA} {h : MH} : Ec 151 [.int 0] a h = some (some (.int 6), a, h) := m_greatestOf
theorem m_bestBy0 {a : MA} {h : MH} {B A : TS} {t : Nat} (ok : Ok n S) (ht : t < n) (hm : m ≤ 300) (hy : (S 1).toInt ≤ 60000) : ∃ A', Ec 174 [.ref 50, .int (Int32.ofNat t), .int 0, .int 3, .int (Int32.ofNat m)] a (mw h S K B A Y) = some (some (.int (lpf (beF (buV 0 3 t n m S)) 0 7 (0, -1)).1), a, mw h S K B A' Y) := by
  have h8 := ok.1
  have t8 : t < 8 := by omega
  have hp : 31 + 6 * t < 86 := by omega
  have L := lp_up (M := 174) (X := fun k (r : (Int32 × Int32) × Int32 × TS × Option Value) => (17, [some (.ref 50), some (.int (Int32.ofNat t)), some (.int 0), some (.int 3), some (.int (Int32.ofNat m)), some (.int (S (28 + 6 * t))), some (.int r.1.1), some (.int r.1.2), some (.int (Int32.ofNat k)), r.2.2.2], [], a, mw h (mfu S (28 + 6 * t) r.2.1) K B r.2.2.1 Y)) (f := fun k r => (beF (buV 0 3 t n m S) k r.1, Int32.ofNat k, mfu S (28 + 6 * t) (Int32.ofNat k), some (.int (buV 0 3 t n m S k)))) (P := fun _ _ => True) (N := 7) (fun k r hk _ => ⟨by
    obtain ⟨⟨b1, m1⟩, p1, A1, u⟩ := r
    have lt : ((6 : Int32) < Int32.ofNat k) = False := ltF (k := 6) (by omega) (by decide)
    have ok' := ok_kind ok ht hk
    have hy' : (mfu S (28 + 6 * t) (Int32.ofNat k) 1).toInt ≤ 60000 := by rw [up_1 (by omega)]; exact hy
    have mv : ysT 0 n m (mfu S (28 + 6 * t) (Int32.ofNat k)) (31 + 6 * t) = buV 0 3 t n m S k := rfl
    show Rn 174 (17, [some (.ref 50), some (.int (Int32.ofNat t)), some (.int 0), some (.int 3), some (.int (Int32.ofNat m)), some (.int (S (28 + 6 * t))), some (.int b1), some (.int m1), some (.int (Int32.ofNat k)), u], [], a, mw h (mfu S (28 + 6 * t) p1) K B A1 Y) = Rn 174 (17, [some (.ref 50), some (.int (Int32.ofNat t)), some (.int 0), some (.int 3), some (.int (Int32.ofNat m)), some (.int (S (28 + 6 * t))), some (.int (beF (buV 0 3 t n m S) k (b1, m1)).1), some (.int (beF (buV 0 3 t n m S) k (b1, m1)).2), some (.int (Int32.ofNat (k + 1))), some (.int (buV 0 3 t n m S k))], [], a, mw h (mfu S (28 + 6 * t) (Int32.ofNat k)) K B (mfu S (28 + 6 * t) (Int32.ofNat k)) Y)
    rw [r174_17]
    unfold beF
    by_cases q : m1 < buV 0 3 t n m S k
    · have q' : ¬ buV 0 3 t n m S k < m1 := by rw [lt_ti] at q ⊢; omega
      simp only [r174_0, r174_1, r174_2, r174_3, r174_6, r174_8, r174_9, r174_11, r174_12, r174_14, r174_15, r174_19, r174_20, r174_23, r174_26, r174_27, r174_30, r174_31, r174_32, r174_35, r174_37, r174_38, r174_39, r174_40, r174_41, r174_44, r174_46, r174_49, r174_51, r174_53, r174_55, r174_58, r174_60, r174_63, r174_65, r174_67, r174_69, r174_71, r174_74, r174_76, r174_79, r174_82, r174_83, r174_86, r174_87, r174_88, r174_91, r174_93, r174_94, r174_96, Nl_none, Nl_int, Nl_ref, Nl_null, Kv_some, Ki_some, Kh_some, Bk_some, Bk_void, ↓reduceIte, mrt10, mrt11, zl2, zl3, zl4, zl8, Bool.false_eq_true, my_s, my_mis, my_kept, my_before, my_aside, my_isKept, my_findings, my_tape, my_taped, my_bitsOf, my_sizes, my_numbers, my_fitting, my_leastFit, my_token, my_from, my_to, my_value, my_faultAt, Int32.reduceAdd, Int32.reduceSub, Int32.reduceMul, Int32.reduceLT, zqm0, zqm1, zqm2, zqm3, zqm4, zqm5, zqm6, zqm7, zqm8, zq0m, zq01, zq02, zq03, zq04, zq05, zq06, zq07, zq08, zq1m, zq10, zq12, zq13, zq14, zq15, zq16, zq17, zq18, zq2m, zq20, zq21, zq23, zq24, zq25, zq26, zq27, zq28, zq3m, zq30, zq31, zq32, zq34, zq35, zq36, zq37, zq38, zq4m, zq40, zq41, zq42, zq43, zq45, zq46, zq47, zq48, zq5m, zq50, zq51, zq52, zq53, zq54, zq56, zq57, zq58, zq6m, zq60, zq61, zq62, zq63, zq64, zq65, zq67, zq68, zq7m, zq70, zq71, zq72, zq73, zq74, zq75, zq76, zq78, zq8m, zq80, zq81, zq82, zq83, zq84, zq85, zq86, zq87, m_gr0, lt, m_at0, m_at3, mp_th0 t8, fu_fu, m_thenAt ok' hp hm hy', mv, m_greatest, q, q', of_in]
    · simp only [r174_0, r174_1, r174_2, r174_3, r174_6, r174_8, r174_9, r174_11, r174_12, r174_14, r174_15, r174_19, r174_20, r174_23, r174_26, r174_27, r174_30, r174_31, r174_32, r174_35, r174_37, r174_38, r174_39, r174_40, r174_41, r174_44, r174_46, r174_49, r174_51, r174_53, r174_55, r174_58, r174_60, r174_63, r174_65, r174_67, r174_69, r174_71, r174_74, r174_76, r174_79, r174_82, r174_83, r174_86, r174_87, r174_88, r174_91, r174_93, r174_94, r174_96, Nl_none, Nl_int, Nl_ref, Nl_null, Kv_some, Ki_some, Kh_some, Bk_some, Bk_void, ↓reduceIte, mrt10, mrt11, zl2, zl3, zl4, zl8, Bool.false_eq_true, my_s, my_mis, my_kept, my_before, my_aside, my_isKept, my_findings, my_tape, my_taped, my_bitsOf, my_sizes, my_numbers, my_fitting, my_leastFit, my_token, my_from, my_to, my_value, my_faultAt, Int32.reduceAdd, Int32.reduceSub, Int32.reduceMul, Int32.reduceLT, zqm0, zqm1, zqm2, zqm3, zqm4, zqm5, zqm6, zqm7, zqm8, zq0m, zq01, zq02, zq03, zq04, zq05, zq06, zq07, zq08, zq1m, zq10, zq12, zq13, zq14, zq15, zq16, zq17, zq18, zq2m, zq20, zq21, zq23, zq24, zq25, zq26, zq27, zq28, zq3m, zq30, zq31, zq32, zq34, zq35, zq36, zq37, zq38, zq4m, zq40, zq41, zq42, zq43, zq45, zq46, zq47, zq48, zq5m, zq50, zq51, zq52, zq53, zq54, zq56, zq57, zq58, zq6m, zq60, zq61, zq62, zq63, zq64, zq65, zq67, zq68, zq7m, zq70, zq71, zq72, zq73, zq74, zq75, zq76, zq78, zq8m, zq80, zq81, zq82, zq83, zq84, zq85, zq86, zq87, m_gr0, lt, m_at0, m_at3, mp_th0 t8, fu_fu, m_thenAt ok' hp hm hy', mv, m_greatest, mx_eq, q, of_in], trivial⟩) 7 0 ((0, -1), S (28 + 6 * t), A, none) (by omega) trivial
  have e1 : ∀ m1 k (s : (Int32 × Int32) × Int32 × TS × Option Value), (lpf (fun k (r : (Int32 × Int32) × Int32 × TS × Option Value) => (beF (buV 0 3 t n m S) k r.1, Int32.ofNat k, mfu S (28 + 6 * t) (Int32.ofNat k), some (Value.int (buV 0 3 t n m S k)))) k m1 s).1 = lpf (beF (buV 0 3 t n m S)) k m1 s.1 := by
    intro m1
    induction m1 with
    | zero => intro k s; rfl
    | succ m1 ih => intro k s; exact ih (k + 1) _
  have e2 := e1 7 0 ((0, -1), S (28 + 6 * t), A, none)
  generalize lpf (fun k (r : (Int32 × Int32) × Int32 × TS × Option Value) => (beF (buV 0 3 t n m S) k r.1, Int32.ofNat k, mfu S (28 + 6 * t) (Int32.ofNat k), some (Value.int (buV 0 3 t n m S k)))) 0 7 ((0, -1), S (28 + 6 * t), A, none) = s' at L e2
  obtain ⟨s0, p0, A', u'⟩ := s'
  have e2 : s0 = lpf (beF (buV 0 3 t n m S)) 0 7 (0, -1) := e2
  rw [← e2]
  refine ⟨A', ?_⟩
  have L1 : Rn 174 (17, [some (.ref 50), some (.int (Int32.ofNat t)), some (.int 0), some (.int 3), some (.int (Int32.ofNat m)), some (.int (S (28 + 6 * t))), some (.int 0), some (.int (-1)), some (.int 0), none], [], a, mw h (mfu S (28 + 6 * t) (S (28 + 6 * t))) K B A Y) = _ := L.1
  rw [fu_self] at L1
  rw [Ec_go rfl]; show Rn 174 (0, [some (.ref 50), some (.int (Int32.ofNat t)), some (.int 0), some (.int 3), some (.int (Int32.ofNat m)), none, none, none, none, none], [], a, mw h S K B A Y) = _
  simp only [r174_0, r174_1, r174_2, r174_3, r174_6, r174_8, r174_9, r174_11, r174_12, r174_14, r174_15, r174_19, r174_20, r174_23, r174_26, r174_27, r174_30, r174_31, r174_32, r174_35, r174_37, r174_38, r174_39, r174_40, r174_41, r174_44, r174_46, r174_49, r174_51, r174_53, r174_55, r174_58, r174_60, r174_63, r174_65, r174_67, r174_69, r174_71, r174_74, r174_76, r174_79, r174_82, r174_83, r174_86, r174_87, r174_88, r174_91, r174_93, r174_94, r174_96, Nl_none, Nl_int, Nl_ref, Nl_null, Kv_some, Ki_some, Kh_some, Bk_some, Bk_void, ↓reduceIte, mrt10, mrt11, zl2, zl3, zl4, zl8, Bool.false_eq_true, my_s, my_mis, my_kept, my_before, my_aside, my_isKept, my_findings, my_tape, my_taped, my_bitsOf, my_sizes, my_numbers, my_fitting, my_leastFit, my_token, my_from, my_to, my_value, my_faultAt, Int32.reduceAdd, Int32.reduceSub, Int32.reduceMul, Int32.reduceLT, zqm0, zqm1, zqm2, zqm3, zqm4, zqm5, zqm6, zqm7, zqm8, zq0m, zq01, zq02, zq03, zq04, zq05, zq06, zq07, zq08, zq1m, zq10, zq12, zq13, zq14, zq15, zq16, zq17, zq18, zq2m, zq20, zq21, zq23, zq24, zq25, zq26, zq27, zq28, zq3m, zq30, zq31, zq32, zq34, zq35, zq36, zq37, zq38, zq4m, zq40, zq41, zq42, zq43, zq45, zq46, zq47, zq48, zq5m, zq50, zq51, zq52, zq53, zq54, zq56, zq57, zq58, zq6m, zq60, zq61, zq62, zq63, zq64, zq65, zq67, zq68, zq7m, zq70, zq71, zq72, zq73, zq74, zq75, zq76, zq78, zq8m, zq80, zq81, zq82, zq83, zq84, zq85, zq86, zq87, m_its0 t8]
  rw [L1, r174_17]
  simp only [r174_0, r174_1, r174_2, r174_3, r174_6, r174_8, r174_9, r174_11, r174_12, r174_14, r174_15, r174_19, r174_20, r174_23, r174_26, r174_27, r174_30, r174_31, r174_32, r174_35, r174_37, r174_38, r174_39, r174_40, r174_41, r174_44, r174_46, r174_49, r174_51, r174_53, r174_55, r174_58, r174_60, r174_63, r174_65, r174_67, r174_69, r174_71, r174_74, r174_76, r174_79, r174_82, r174_83, r174_86, r174_87, r174_88, r174_91, r174_93, r174_94, r174_96, Nl_none, Nl_int, Nl_ref, Nl_null, Kv_some, Ki_some, Kh_some, Bk_some, Bk_void, ↓reduceIte, mrt10, mrt11, zl2, zl3, zl4, zl8, Bool.false_eq_true, my_s, my_mis, my_kept, my_before, my_aside, my_isKept, my_findings, my_tape, my_taped, my_bitsOf, my_sizes, my_numbers, my_fitting, my_leastFit, my_token, my_from, my_to, my_value, my_faultAt, Int32.reduceAdd, Int32.reduceSub, Int32.reduceMul, Int32.reduceLT, zqm0, zqm1, zqm2, zqm3, zqm4, zqm5, zqm6, zqm7, zqm8, zq0m, zq01, zq02, zq03, zq04, zq05, zq06, zq07, zq08, zq1m, zq10, zq12, zq13, zq14, zq15, zq16, zq17, zq18, zq2m, zq20, zq21, zq23, zq24, zq25, zq26, zq27, zq28, zq3m, zq30, zq31, zq32, zq34, zq35, zq36, zq37, zq38, zq4m, zq40, zq41, zq42, zq43, zq45, zq46, zq47, zq48, zq5m, zq50, zq51, zq52, zq53, zq54, zq56, zq57, zq58, zq6m, zq60, zq61, zq62, zq63, zq64, zq65, zq67, zq68, zq7m, zq70, zq71, zq72, zq73, zq74, zq75, zq76, zq78, zq8m, zq80, zq81, zq82, zq83, zq84, zq85, zq86, zq87, Int32.reduceOfNat, m_gr0, m_at0, mp_th0 t8, fu_fu, fu_self]
theorem mq_kindFor (ok : Ok n S) (hy : (S 1).toInt ≤ 60000) : OpQ 176 [.int x, .int z] S K Y (kfQ x z n S) := by
  intro a h B A
  have h8 := ok.1
  by_cases h0 : hsB x n = true
  · by_cases h1 : wi z 0 40 = true
    · rw [show kfQ x z n S = .inl (lpf (beF (buV 0 3 (iN x) n (iN z) S)) 0 7 (0, -1)).1 from if_pos ⟨h0, h1⟩]
      obtain ⟨t, ht, rfl⟩ := hs_of h0 h8
      obtain ⟨m, hm, rfl⟩ := wi_nat 40 (by decide) h1
      rw [iN_of (show t < 2147483648 by omega), iN_of (show m < 2147483648 by omega)]
      obtain ⟨A', e⟩ := m_bestBy0 (a := a) (h := h) (K := K) (B := B) (A := A) (Y := Y) (m := m) ok ht (by omega) hy
      refine ⟨B, A', Y, ?_, fun k _ => rfl⟩
      rw [qv_l]
      rw [Ec_go rfl]; show Rn 176 (0, [some (.ref 50), some (.int (Int32.ofNat t)), some (.int (Int32.ofNat m))], [], a, mw h S K B A Y) = _
      simp only [r176_0, r176_1, r176_2, r176_5, r176_8, r176_9, r176_10, r176_11, r176_14, r176_17, r176_20, r176_21, r176_22, r176_23, r176_24, r176_25, r176_28, r176_31, r176_32, r176_34, r176_37, Nl_none, Nl_int, Nl_ref, Nl_null, Kv_some, Ki_some, Kh_some, Bk_some, Bk_void, ↓reduceIte, mrt10, mrt11, zl2, zl3, zl4, zl8, Bool.false_eq_true, my_s, my_mis, my_kept, my_before, my_aside, my_isKept, my_findings, my_tape, my_taped, my_bitsOf, my_sizes, my_numbers, my_fitting, my_leastFit, my_token, my_from, my_to, my_value, my_faultAt, Int32.reduceAdd, Int32.reduceSub, Int32.reduceMul, Int32.reduceLT, zqm0, zqm1, zqm2, zqm3, zqm4, zqm5, zqm6, zqm7, zqm8, zq0m, zq01, zq02, zq03, zq04, zq05, zq06, zq07, zq08, zq1m, zq10, zq12, zq13, zq14, zq15, zq16, zq17, zq18, zq2m, zq20, zq21, zq23, zq24, zq25, zq26, zq27, zq28, zq3m, zq30, zq31, zq32, zq34, zq35, zq36, zq37, zq38, zq4m, zq40, zq41, zq42, zq43, zq45, zq46, zq47, zq48, zq5m, zq50, zq51, zq52, zq53, zq54, zq56, zq57, zq58, zq6m, zq60, zq61, zq62, zq63, zq64, zq65, zq67, zq68, zq7m, zq70, zq71, zq72, zq73, zq74, zq75, zq76, zq78, zq8m, zq80, zq81, zq82, zq83, zq84, zq85, zq86, zq87, m_isLayer, m_isColour, m_isSheet, mi_0_999, mi_0_5, mi_0_9, mi_0_6, mi_0_8, mi_1_60, mi_1_5, mi_0_100, mi_0_30, mi_0_40, mi_0_20, mi_1_20, mi_0_1, mi_1_4, mi_m1_6, mi_0x, mf_0, mf_1, mf_2, mf_3, mf_4, mf_5, mf_6, b2i, m_isThing ok, h0, h1, e]
    · rw [show kfQ x z n S = .inr 0 from if_neg (fun q => h1 q.2)]
      refine ⟨B, A, fnY 0 Y, ?_, fun k _ => rfl⟩
      rw [qv_0]
      rw [Ec_go rfl]; show Rn 176 (0, [some (.ref 50), some (.int x), some (.int z)], [], a, mw h S K B A Y) = _
      simp only [r176_0, r176_1, r176_2, r176_5, r176_8, r176_9, r176_10, r176_11, r176_14, r176_17, r176_20, r176_21, r176_22, r176_23, r176_24, r176_25, r176_28, r176_31, r176_32, r176_34, r176_37, Nl_none, Nl_int, Nl_ref, Nl_null, Kv_some, Ki_some, Kh_some, Bk_some, Bk_void, ↓reduceIte, mrt10, mrt11, zl2, zl3, zl4, zl8, Bool.false_eq_true, my_s, my_mis, my_kept, my_before, my_aside, my_isKept, my_findings, my_tape, my_taped, my_bitsOf, my_sizes, my_numbers, my_fitting, my_leastFit, my_token, my_from, my_to, my_value, my_faultAt, Int32.reduceAdd, Int32.reduceSub, Int32.reduceMul, Int32.reduceLT, zqm0, zqm1, zqm2, zqm3, zqm4, zqm5, zqm6, zqm7, zqm8, zq0m, zq01, zq02, zq03, zq04, zq05, zq06, zq07, zq08, zq1m, zq10, zq12, zq13, zq14, zq15, zq16, zq17, zq18, zq2m, zq20, zq21, zq23, zq24, zq25, zq26, zq27, zq28, zq3m, zq30, zq31, zq32, zq34, zq35, zq36, zq37, zq38, zq4m, zq40, zq41, zq42, zq43, zq45, zq46, zq47, zq48, zq5m, zq50, zq51, zq52, zq53, zq54, zq56, zq57, zq58, zq6m, zq60, zq61, zq62, zq63, zq64, zq65, zq67, zq68, zq7m, zq70, zq71, zq72, zq73, zq74, zq75, zq76, zq78, zq8m, zq80, zq81, zq82, zq83, zq84, zq85, zq86, zq87, m_isLayer, m_isColour, m_isSheet, mi_0_999, mi_0_5, mi_0_9, mi_0_6, mi_0_8, mi_1_60, mi_1_5, mi_0_100, mi_0_30, mi_0_40, mi_0_20, mi_1_20, mi_0_1, mi_1_4, mi_m1_6, mi_0x, mf_0, mf_1, mf_2, mf_3, mf_4, mf_5, mf_6, b2i, m_isThing ok, h0, h1]
  · rw [show kfQ x z n S = .inr 0 from if_neg (fun q => h0 q.1)]
    refine ⟨B, A, fnY 0 Y, ?_, fun k _ => rfl⟩
    rw [qv_0]
    rw [Ec_go rfl]; show Rn 176 (0, [some (.ref 50), some (.int x), some (.int z)], [], a, mw h S K B A Y) = _
    simp only [r176_0, r176_1, r176_2, r176_5, r176_8, r176_9, r176_10, r176_11, r176_14, r176_17, r176_20, r176_21, r176_22, r176_23, r176_24, r176_25, r176_28, r176_31, r176_32, r176_34, r176_37, Nl_none, Nl_int, Nl_ref, Nl_null, Kv_some, Ki_some, Kh_some, Bk_some, Bk_void, ↓reduceIte, mrt10, mrt11, zl2, zl3, zl4, zl8, Bool.false_eq_true, my_s, my_mis, my_kept, my_before, my_aside, my_isKept, my_findings, my_tape, my_taped, my_bitsOf, my_sizes, my_numbers, my_fitting, my_leastFit, my_token, my_from, my_to, my_value, my_faultAt, Int32.reduceAdd, Int32.reduceSub, Int32.reduceMul, Int32.reduceLT, zqm0, zqm1, zqm2, zqm3, zqm4, zqm5, zqm6, zqm7, zqm8, zq0m, zq01, zq02, zq03, zq04, zq05, zq06, zq07, zq08, zq1m, zq10, zq12, zq13, zq14, zq15, zq16, zq17, zq18, zq2m, zq20, zq21, zq23, zq24, zq25, zq26, zq27, zq28, zq3m, zq30, zq31, zq32, zq34, zq35, zq36, zq37, zq38, zq4m, zq40, zq41, zq42, zq43, zq45, zq46, zq47, zq48, zq5m, zq50, zq51, zq52, zq53, zq54, zq56, zq57, zq58, zq6m, zq60, zq61, zq62, zq63, zq64, zq65, zq67, zq68, zq7m, zq70, zq71, zq72, zq73, zq74, zq75, zq76, zq78, zq8m, zq80, zq81, zq82, zq83, zq84, zq85, zq86, zq87, m_isLayer, m_isColour, m_isSheet, mi_0_999, mi_0_5, mi_0_9, mi_0_6, mi_0_8, mi_1_60, mi_1_5, mi_0_100, mi_0_30, mi_0_40, mi_0_20, mi_1_20, mi_0_1, mi_1_4, mi_m1_6, mi_0x, mf_0, mf_1, mf_2, mf_3, mf_4, mf_5, mf_6, b2i, m_isThing ok, h0]
end
