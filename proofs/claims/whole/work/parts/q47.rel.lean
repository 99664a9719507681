/-! ===== the class and the reference beside each other ===== -/
def RT (y : Int) (n : Nat) (T S : TS) : Prop := SR n T S ∧ T 86 = 0 ∧ (T 1).toInt ≤ y
def RK (y : Int) (V X K Y : TS) : Prop := (X 0 = 0 ∧ Y 0 = 0) ∨ (X 0 = 1 ∧ Y 0 = 1 ∧ ∃ nk, SR nk V K ∧ (V 1).toInt ≤ y)
def RF (X Y : TS) : Prop := Y 10 = X 10 + X 11 + X 12 + X 13 + X 14 + X 15 + X 16 ∧ ∀ i, i < 7 → Y (11 + i) = X (10 + i)
def RLt (X Y : TS) : Prop := ∃ L, L ≤ 120 ∧ X 1 = Int32.ofNat L ∧ Y 1 = Int32.ofNat L ∧ ∀ i, i < L → X (20 + i) = Y (20 + i) ∧ 0 ≤ (X (20 + i)).toInt
def RH (X Y : TS) : Prop := ∀ s, s < 4 → ((X (240 + 50 * s) = 0 ∧ Y (140 + s) = -1) ∨ (X (240 + 50 * s) = Y (140 + s) ∧ (Y (140 + s) = 8 ∨ Y (140 + s) = 16 ∨ Y (140 + s) = 32))) ∧ ∃ m, m ≤ 40 ∧ X (241 + 50 * s) = Int32.ofNat m ∧ Y (144 + s) = Int32.ofNat m ∧ ∀ i, i < 40 → X (200 + 50 * s + i) = Y (150 + (40 * s + i))
def Rel (y : Int) (n : Nat) (T V X S K Y : TS) : Prop := RT y n T S ∧ RK y V X K Y ∧ RF X Y ∧ RLt X Y ∧ RH X Y
section
variable {T V X S K Y T' V' X' S' K' Y' : TS} {x y z v w : Int32} {n n' k m s i : Nat} {u u' : Int}
theorem RT.mono (h : RT u n T S) (l : u ≤ u') : RT u' n T S := ⟨h.1, h.2.1, by have := h.2.2; omega⟩
theorem RK.mono (h : RK u V X K Y) (l : u ≤ u') : RK u' V X K Y := by
  rcases h with h | ⟨h1, h2, nk, h3, h4⟩
  · exact Or.inl h
  · exact Or.inr ⟨h1, h2, nk, h3, by omega⟩
theorem RK.cg (h : RK u V X K Y) (hX : X' 0 = X 0) (hY : Y' 0 = Y 0) : RK u V X' K Y' := by unfold RK at h ⊢; rw [hX, hY]; exact h
theorem RF.cg (h : RF X Y) (hX : ∀ k, 10 ≤ k → k < 17 → X' k = X k) (hY : ∀ k, 10 ≤ k → k < 18 → Y' k = Y k) : RF X' Y' := by
  refine ⟨?_, fun i hi => ?_⟩
  · rw [hY 10 (by omega) (by omega), hX 10 (by omega) (by omega), hX 11 (by omega) (by omega), hX 12 (by omega) (by omega), hX 13 (by omega) (by omega), hX 14 (by omega) (by omega), hX 15 (by omega) (by omega), hX 16 (by omega) (by omega)]
    exact h.1
  · rw [hY _ (by omega) (by omega), hX _ (by omega) (by omega)]; exact h.2 i hi
theorem RLt.cg (h : RLt X Y) (hX : ∀ k, k = 1 ∨ (20 ≤ k ∧ k < 140) → X' k = X k) (hY : ∀ k, k = 1 ∨ (20 ≤ k ∧ k < 140) → Y' k = Y k) : RLt X' Y' := by
  obtain ⟨L, h1, h2, h3, h4⟩ := h
  exact ⟨L, h1, (hX 1 (Or.inl rfl)).trans h2, (hY 1 (Or.inl rfl)).trans h3, fun i hi => by rw [hX _ (Or.inr (by omega)), hY _ (Or.inr (by omega))]; exact h4 i hi⟩
theorem RH.cg (h : RH X Y) (hX : ∀ k, 200 ≤ k → X' k = X k) (hY : ∀ k, 140 ≤ k → Y' k = Y k) : RH X' Y' := by
  intro s hs
  obtain ⟨h1, m, h2, h3, h4, h5⟩ := h s hs
  refine ⟨?_, m, h2, ?_, ?_, fun i hi => ?_⟩
  · rw [hX _ (by omega), hY _ (by omega)]; exact h1
  · rw [hX _ (by omega)]; exact h3
  · rw [hY _ (by omega)]; exact h4
  · rw [hX _ (by omega), hY _ (by omega)]; exact h5 i hi
theorem Rel.mono (h : Rel u n T V X S K Y) (l : u ≤ u') : Rel u' n T V X S K Y := ⟨h.1.mono l, h.2.1.mono l, h.2.2⟩
/-- what the reader, the finder leave behind doesn't count -/
theorem Rel.cg (h : Rel u n T V X S K Y) (hX : ∀ k, (k < 2 ∨ 6 ≤ k) → X' k = X k) (hY : ∀ k, (k < 2 ∨ 9 ≤ k) → Y' k = Y k) : Rel u n T V X' S K Y' :=
  ⟨h.1, h.2.1.cg (hX 0 (by omega)) (hY 0 (by omega)), h.2.2.1.cg (fun k _ _ => hX k (by omega)) (fun k _ _ => hY k (by omega)), h.2.2.2.1.cg (fun k _ => hX k (by omega)) (fun k _ => hY k (by omega)), h.2.2.2.2.cg (fun k _ => hX k (by omega)) (fun k _ => hY k (by omega))⟩
/-- the tub changed -/
theorem Rel.tub (h : Rel u n T V X S K Y) (l : u ≤ u') (hs : SR n' T' S') (hd : T' 86 = 0) (hy : (T' 1).toInt ≤ u') : Rel u' n' T' V X S' K Y := ⟨⟨hs, hd, hy⟩, h.2.1.mono l, h.2.2⟩
theorem RF.fn (h : RF X Y) (hi : i < 7) : RF (fnX i X) (fnY i Y) := by
  have hc : i = 0 ∨ i = 1 ∨ i = 2 ∨ i = 3 ∨ i = 4 ∨ i = 5 ∨ i = 6 := by omega
  have e10 : fnY i Y 10 = Y 10 + 1 := by unfold fnY; rw [fu_ne (by omega), fu_at]
  refine ⟨?_, fun j hj => ?_⟩
  · rw [e10, h.1]
    have n : ∀ j, j ≠ i → fnX i X (10 + j) = X (10 + j) := fun j hj => by unfold fnX; rw [fu_ne (by omega)]
    have s : fnX i X (10 + i) = X (10 + i) + 1 := by unfold fnX; rw [fu_at]
    have n0 := n 0
    have n1 := n 1
    have n2 := n 2
    have n3 := n 3
    have n4 := n 4
    have n5 := n 5
    have n6 := n 6
    simp only [Nat.reduceAdd] at n0 n1 n2 n3 n4 n5 n6
    rcases hc with rfl | rfl | rfl | rfl | rfl | rfl | rfl
    · simp only [Nat.reduceAdd] at s
      rw [s, n1 (by decide), n2 (by decide), n3 (by decide), n4 (by decide), n5 (by decide), n6 (by decide)]
      ac_rfl
    · simp only [Nat.reduceAdd] at s
      rw [n0 (by decide), s, n2 (by decide), n3 (by decide), n4 (by decide), n5 (by decide), n6 (by decide)]
      ac_rfl
    · simp only [Nat.reduceAdd] at s
      rw [n0 (by decide), n1 (by decide), s, n3 (by decide), n4 (by decide), n5 (by decide), n6 (by decide)]
      ac_rfl
    · simp only [Nat.reduceAdd] at s
      rw [n0 (by decide), n1 (by decide), n2 (by decide), s, n4 (by decide), n5 (by decide), n6 (by decide)]
      ac_rfl
    · simp only [Nat.reduceAdd] at s
      rw [n0 (by decide), n1 (by decide), n2 (by decide), n3 (by decide), s, n5 (by decide), n6 (by decide)]
      ac_rfl
    · simp only [Nat.reduceAdd] at s
      rw [n0 (by decide), n1 (by decide), n2 (by decide), n3 (by decide), n4 (by decide), s, n6 (by decide)]
      ac_rfl
    · simp only [Nat.reduceAdd] at s
      rw [n0 (by decide), n1 (by decide), n2 (by decide), n3 (by decide), n4 (by decide), n5 (by decide), s]
      ac_rfl
  · unfold fnX fnY
    by_cases e : j = i
    · subst e
      rw [fu_at, fu_at, h.2 j hj]
    · rw [fu_ne (by omega), fu_ne (by omega), fu_ne (by omega)]; exact h.2 j hj
theorem fnX_o {k : Nat} (hi : i < 7) (hk : k < 10 ∨ 17 ≤ k) : fnX i X k = X k := by unfold fnX; rw [fu_ne (by omega)]
theorem fnY_o {k : Nat} (hi : i < 7) (hk : k < 10 ∨ 18 ≤ k) : fnY i Y k = Y k := by unfold fnY; rw [fu_ne (by omega), fu_ne (by omega)]
theorem Rel.fn (h : Rel u n T V X S K Y) (hi : i < 7) : Rel u n T V (fnX i X) S K (fnY i Y) :=
  ⟨h.1, h.2.1.cg (fnX_o hi (by omega)) (fnY_o hi (by omega)), h.2.2.1.fn hi, h.2.2.2.1.cg (fun k _ => fnX_o hi (by omega)) (fun k _ => fnY_o hi (by omega)), h.2.2.2.2.cg (fun k _ => fnX_o hi (by omega)) (fun k _ => fnY_o hi (by omega))⟩
def okQ (q : QR) : Prop := match q with
  | .inl _ => True
  | .inr i => i < 7
theorem Rel.q {q : QR} (h : Rel u n T V X S K Y) (hq : okQ q) : Rel u n T V (qX q X) S K (qY q Y) := by
  cases q with
  | inl v => exact h
  | inr i => exact h.fn hq
/-- a call answers the same on both sides, and they stay beside each other -/
def Sim (Mc Mr : Nat) (as : List Value) : Prop := ∀ (u : Int) (n : Nat) (T V X S K Y : TS), u ≤ 50000 → Rel u n T V X S K Y → ∃ (v : Int32) (n' : Nat) (T' V' X' S' K' Y' : TS), OpC Mc as T V X (.int v) T' V' X' ∧ OpR Mr as S K Y (.int v) S' K' Y' ∧ Rel (u + 60) n' T' V' X' S' K' Y'
theorem sim_q {Mc Mr : Nat} {as : List Value} (h : ∀ (u : Int) (n : Nat) (T V X S K Y : TS), u ≤ 50000 → Rel u n T V X S K Y → ∃ q, okQ q ∧ OpQC Mc as T V X q ∧ OpQ Mr as S K Y q) : Sim Mc Mr as := fun u n T V X S K Y hu r => by
  obtain ⟨q, hq, hc, hr⟩ := h u n T V X S K Y hu r
  exact ⟨qv q, n, T, V, qX q X, S, K, qY q Y, hc, hr, (r.q hq).mono (by omega)⟩
/-- a finding on both sides -/
theorem sim_f {Mc Mr : Nat} {as : List Value} {f : Int32} (hi : i < 7) (r : Rel u n T V X S K Y) (hc : OpC Mc as T V X (.int f) T V (fnX i X)) (hr : OpR Mr as S K Y (.int f) S K (fnY i Y)) : ∃ (v : Int32) (n' : Nat) (T' V' X' S' K' Y' : TS), OpC Mc as T V X (.int v) T' V' X' ∧ OpR Mr as S K Y (.int v) S' K' Y' ∧ Rel (u + 60) n' T' V' X' S' K' Y' :=
  ⟨f, n, T, V, fnX i X, S, K, fnY i Y, hc, hr, (r.fn hi).mono (by omega)⟩
/-- the tub changed on both sides -/
theorem sim_t {Mc Mr : Nat} {as : List Value} {f : Int32} (r : Rel u n T V X S K Y) (hc : OpC Mc as T V X (.int f) T' V X) (hr : OpR Mr as S K Y (.int f) S' K Y) (hs : SR n' T' S') (hd : T' 86 = 0) (hy : (T' 1).toInt ≤ u + 60) : ∃ (v : Int32) (n' : Nat) (T' V' X' S' K' Y' : TS), OpC Mc as T V X (.int v) T' V' X' ∧ OpR Mr as S K Y (.int v) S' K' Y' ∧ Rel (u + 60) n' T' V' X' S' K' Y' :=
  ⟨f, n', T', V, X, S', K, Y, hc, hr, r.tub (by omega) hs hd hy⟩
theorem on_ok {o : Option Nat} : okQ (onQ o) := by cases o with
  | none => show (3 : Nat) < 7; decide
  | some k => trivial
theorem l9_ok {o : Option Nat} : okQ (l9Q o) := by cases o with
  | none => show (3 : Nat) < 7; decide
  | some k => trivial
theorem ou_ok {v : Int32} : okQ (ou0 v) := by
  unfold ou0
  split
  · show (3 : Nat) < 7; decide
  · trivial
theorem ok0 : okQ (.inr 0) := by show (0 : Nat) < 7; decide
theorem br_ok {b : Int32} {q : QR} (h : okQ q) : okQ (brQ b q) := by
  unfold brQ
  split
  · exact h
  split
  · show (5 : Nat) < 7; decide
  · exact ok0
theorem sr_rd {p : Nat} (h : SR n T S) (hp : vsb n p) : S p = T p := by
  by_cases q : p = 0
  · rw [q, h.2.1, h.2.2.1]
  · exact (h.2.2.2 p (by omega) hp).1.symm
theorem iN_at (hk : k < 2147483648) : iN (Int32.ofNat k) = k := iN_of hk
/-! what is asked is told alike -/
theorem ly_eq (h : SR n T S) : lyQ x w n S = lyQ x w n T := by
  unfold lyQ
  by_cases q : isL x = true ∧ wi w 0 5 = true
  · rw [if_pos q, if_pos q]
    obtain ⟨k, hk, rfl⟩ := wi_nat 5 (by decide) q.2
    rw [sr_ds h q.1, sr_th h, sr_dye h q.1 isC_0, sr_dye h q.1 isC_1, sr_dye h q.1 isC_2]
    have hk6 : k < 3 ∨ k = 3 ∨ k = 4 ∨ k = 5 := by omega
    rcases hk6 with hk6 | rfl | rfl | rfl
    · rw [sr_dye h q.1 (isC_at hk6)]
    · rfl
    · rfl
    · rfl
  · rw [if_neg q, if_neg q]
theorem ly_ok : okQ (lyQ x w n T) := by
  unfold lyQ
  split
  · trivial
  · exact ok0
theorem of_eqQ (h : SR n T S) : ofQ x w n S = ofQ x w n T := by
  unfold ofQ
  by_cases q : hsB x n = true ∧ wi w 0 8 = true
  · rw [if_pos q, if_pos q]
    obtain ⟨t, ht, rfl⟩ := hs_of q.1 h.1
    have := h.1
    rw [iN_of (by omega), sr_to h ht]
  · rw [if_neg q, if_neg q]
theorem of_ok : okQ (ofQ x w n T) := by
  unfold ofQ
  split
  · trivial
  · exact ok0
theorem no_eq (h : SR n T S) : noQ w n S = noQ w n T := by
  unfold noQ
  rw [sr_low h (k := 1) (by omega) (by omega), sr_ad h, sr_su h, sr_clA h, sr_th h, sr_su h, sr_cs h]
theorem no_ok : okQ (noQ w n T) := by
  unfold noQ
  repeat' split
  all_goals first | trivial | exact ok0
theorem ah_eq (h : SR n T S) : ahQ x w z n S = ahQ x w z n T := by
  unfold ahQ
  by_cases q : hsB x n = true ∧ wi w 1 5 = true ∧ wi z 0 100 = true
  · rw [if_pos q, if_pos q]
    obtain ⟨t, ht, rfl⟩ := hs_of q.1 h.1
    have := h.1
    rw [iN_of (show t < 2147483648 by omega), sr_to (sr_ys h) ht]
  · rw [if_neg q, if_neg q]
theorem ah_ok : okQ (ahQ x w z n T) := by
  unfold ahQ
  split
  · trivial
  · exact ok0
theorem dd_eq (h : SR n T S) : ddQ x y z n S = ddQ x y z n T := by
  unfold ddQ
  by_cases q : isL x = true ∧ isC y = true ∧ wi z 0 100 = true
  · rw [if_pos q, if_pos q, sr_dye (sr_ys h) q.1 q.2.1]
  · rw [if_neg q, if_neg q]
theorem dd_ok : okQ (ddQ x y z n T) := by
  unfold ddQ
  split
  · trivial
  · exact ok0
theorem fnd_cg {p q : Nat → Bool} (h : ∀ k, p k = q k) : ∀ m k, fnd p k m = fnd q k m := fun m k => fnd_eq (N := k + m) (fun k _ => h k) m k rfl
theorem se_eq (h : SR n T S) : seQ x n S = seQ x n T := by
  unfold seQ
  by_cases q : hsB x n = true
  · rw [if_pos q, if_pos q]
    obtain ⟨t, ht, rfl⟩ := hs_of q h.1
    have := h.1
    rw [iN_of (by omega)]
    congr 1
    exact fnd_cg (fun k => by unfold seP; rw [sr_seen (sr_ys h) ht, sr_seen h ht]) _ _
  · rw [if_neg q, if_neg q]
theorem se_ok : okQ (seQ x n T) := by
  unfold seQ
  split
  · exact on_ok
  · exact ok0
theorem wh_eq (h : SR n T S) : whQ x y n S = whQ x y n T := by
  unfold whQ
  by_cases q : hsB x n = true ∧ isC y = true
  · rw [if_pos q, if_pos q]
    obtain ⟨t, ht, rfl⟩ := hs_of q.1 h.1
    have := h.1
    rw [iN_of (by omega)]
    congr 1
    exact fnd_cg (fun k => by unfold whP; rw [sr_colour (sr_ys h) ht]) _ _
  · rw [if_neg q, if_neg q]
theorem wh_ok : okQ (whQ x y n T) := by
  unfold whQ
  split
  · exact on_ok
  · exact ok0
theorem mu_eq (h : SR n T S) : muQ x n S = muQ x n T := by
  unfold muQ
  by_cases q : isL x = true
  · rw [if_pos q, if_pos q]
    congr 1
    exact fnd_cg (fun k => by unfold muP; rw [sr_cl (sr_ys h) q]) _ _
  · rw [if_neg q, if_neg q]
theorem mu_ok : okQ (muQ x n T) := by
  unfold muQ
  split
  · exact on_ok
  · exact ok0
theorem tr_eq (h : SR n T S) : trQ x y n S = trQ x y n T := by
  unfold trQ
  by_cases q : hsB x n = true ∧ hsB y n = true ∧ ¬ x = y
  · rw [if_pos q, if_pos q]
    obtain ⟨t, ht, rfl⟩ := hs_of q.1 h.1
    obtain ⟨t', ht', rfl⟩ := hs_of q.2.1 h.1
    have := h.1
    rw [iN_of (show t < 2147483648 by omega), iN_of (show t' < 2147483648 by omega)]
    congr 1
    exact fnd_cg (fun k => by unfold trP; rw [sr_layer (sr_ys h) ht, sr_layer (sr_ys h) ht', sr_colour (sr_ys h) ht, sr_colour (sr_ys h) ht']) _ _
  · rw [if_neg q, if_neg q]
theorem tr_ok : okQ (trQ x y n T) := by
  unfold trQ
  split
  · exact on_ok
  · exact ok0
theorem sf_eq (h : SR n T S) : sfQ x z n S = sfQ x z n T := by
  unfold sfQ
  by_cases q : hsB x n = true ∧ wi z 0 30 = true
  · rw [if_pos q, if_pos q]
    obtain ⟨t, ht, rfl⟩ := hs_of q.1 h.1
    have := h.1
    rw [iN_of (show t < 2147483648 by omega)]
    have e : ∀ i k, i < 8 → k < 8 → sfV t n (iN z) S i k = sfV t n (iN z) T i k := fun i k hi hk => by
      unfold sfV; rw [sr_seen (sr_ys (sr_st h (isL_at hi) (isL_at hk))) ht]
    have key : lpf (beH (sfV t n (iN z) S)) 0 8 (0, -1) = lpf (beH (sfV t n (iN z) T)) 0 8 (0, -1) := by
      refine lpf_eq (N := 8) (fun i s hi => ?_) 8 0 (0, -1) (by omega)
      unfold beH
      exact lpf_eq (N := 8) (fun k r hk => by unfold beG; rw [e i k hi hk]) (7 - i) (i + 1) s (by omega)
    rw [key]
  · rw [if_neg q, if_neg q]
theorem sf_ok : okQ (sfQ x z n T) := by
  unfold sfQ
  split
  · trivial
  · exact ok0
theorem sr_upl {t v : Nat} (h : SR n T S) (ht : t < n) (hv : v < 8) : SR n (mfu T (29 + 6 * t) (Int32.ofNat v)) (mfu S (29 + 6 * t) (Int32.ofNat v)) := by
  have h8 := h.1
  exact h.up (by omega) (fun _ => bd_layer (by omega) (by rw [ti_of (by omega)]; omega) (by rw [ti_of (by omega)]; omega))
theorem sr_upk {t v : Nat} (h : SR n T S) (ht : t < n) (hv : v < 7) : SR n (mfu T (28 + 6 * t) (Int32.ofNat v)) (mfu S (28 + 6 * t) (Int32.ofNat v)) := by
  have h8 := h.1
  exact h.up (by omega) (fun _ => bd_kind (by omega) (by rw [ti_of (by omega)]; omega) (by rw [ti_of (by omega)]; omega))
theorem sr_uph {t v : Nat} (h : SR n T S) (ht : t < n) (hv : v < 1000) : SR n (mfu T (31 + 6 * t) (Int32.ofNat v)) (mfu S (31 + 6 * t) (Int32.ofNat v)) := by
  have h8 := h.1
  exact h.up (by omega) (fun _ => bd_holds (by omega) (by rw [ti_of (by omega)]; omega) (by rw [ti_of (by omega)]; omega))
theorem sr_upy {v : Nat} (h : SR n T S) (hv : v < 10) : SR n (mfu T 3 (Int32.ofNat v)) (mfu S 3 (Int32.ofNat v)) :=
  h.up (by omega) (fun _ => ⟨by rw [ti_of (by omega)]; show (0 : Int) ≤ v; omega, by rw [ti_of (by omega)]; show (v : Int) ≤ 9; omega⟩)
theorem pu_eq (h : SR n T S) : puQ x z n S = puQ x z n T := by
  unfold puQ
  by_cases q : hsB x n = true ∧ wi z 0 30 = true
  · rw [if_pos q, if_pos q]
    obtain ⟨t, ht, rfl⟩ := hs_of q.1 h.1
    have := h.1
    rw [iN_of (show t < 2147483648 by omega)]
    have key : lpf (beF (buV 1 5 t n (iN z) S)) 0 8 (0, -1) = lpf (beF (buV 1 5 t n (iN z) T)) 0 8 (0, -1) := by
      refine lpf_eq (N := 8) (fun i s hi => ?_) 8 0 (0, -1) (by omega)
      unfold beF
      have e : buV 1 5 t n (iN z) S i = buV 1 5 t n (iN z) T i := sr_seen (sr_ys (sr_upl h ht hi)) ht
      rw [e]
    rw [key]
  · rw [if_neg q, if_neg q]
theorem pu_ok : okQ (puQ x z n T) := by
  unfold puQ
  split
  · trivial
  · exact ok0
theorem kf_eq (h : SR n T S) : kfQ x z n S = kfQ x z n T := by
  unfold kfQ
  by_cases q : hsB x n = true ∧ wi z 0 40 = true
  · rw [if_pos q, if_pos q]
    obtain ⟨t, ht, rfl⟩ := hs_of q.1 h.1
    have := h.1
    rw [iN_of (show t < 2147483648 by omega)]
    have key : lpf (beF (buV 0 3 t n (iN z) S)) 0 7 (0, -1) = lpf (beF (buV 0 3 t n (iN z) T)) 0 7 (0, -1) := by
      refine lpf_eq (N := 7) (fun i s hi => ?_) 7 0 (0, -1) (by omega)
      unfold beF
      have e : buV 0 3 t n (iN z) S i = buV 0 3 t n (iN z) T i := sr_holds (sr_ys (sr_upk h ht hi)) ht
      rw [e]
    rw [key]
  · rw [if_neg q, if_neg q]
theorem kf_ok : okQ (kfQ x z n T) := by
  unfold kfQ
  split
  · trivial
  · exact ok0
theorem hf_eq (h : SR n T S) : hfQ x z n S = hfQ x z n T := by
  unfold hfQ
  by_cases q : hsB x n = true ∧ wi z 0 40 = true
  · rw [if_pos q, if_pos q]
    obtain ⟨t, ht, rfl⟩ := hs_of q.1 h.1
    have := h.1
    rw [iN_of (show t < 2147483648 by omega)]
    congr 1
    exact fnd_eq (N := 201) (fun k hk => by unfold hfP; rw [sr_colour (sr_ys (sr_uph h ht (show k < 1000 by omega))) ht, sr_colour h ht]) 201 0 (by omega)
  · rw [if_neg q, if_neg q]
theorem hf_ok : okQ (hfQ x z n T) := by
  unfold hfQ
  split
  · exact on_ok
  · exact ok0
theorem lf_eq (h : SR n T S) : lfQ x z n S = lfQ x z n T := by
  unfold lfQ
  by_cases q : isL x = true ∧ wi z 0 40 = true
  · rw [if_pos q, if_pos q]
    congr 1
    exact fnd_cg (fun k => by unfold lfP; rw [sr_cl (sr_ys (sr_upy h (show 9 - k < 10 by omega))) q.1]) _ _
  · rw [if_neg q, if_neg q]
theorem lf_ok : okQ (lfQ x z n T) := by
  unfold lfQ
  split
  · exact l9_ok
  · exact ok0
theorem ou_eq (h : SR n T S) : ouQ x z n S = ouQ x z n T := by
  unfold ouQ
  by_cases q : isL x = true ∧ wi z 0 20 = true
  · rw [if_pos q, if_pos q]
    congr 1
    exact lpf_eq (N := 2 ^ n) (fun i s hi => by unfold ouF; rw [sr_cl (sr_ys h) q.1]) (2 ^ n) 0 (-1) (by omega)
  · rw [if_neg q, if_neg q]
theorem ou_okQ : okQ (ouQ x z n T) := by
  unfold ouQ
  split
  · exact ou_ok
  · exact ok0
theorem as_eq (h : SR n T S) : asQ x y S = asQ x y T := by
  unfold asQ
  by_cases q : isSp x = true ∧ isKd y = true
  · rw [if_pos q, if_pos q]
    obtain ⟨k, hk, rfl⟩ := isSp_nat q.1
    rw [iN_of (by omega), sr_spot h hk]
    by_cases q2 : T (76 + k) < 0
    · rw [if_pos q2, if_pos q2]
    · rw [if_neg q2, if_neg q2]
      have r := rg_spot h hk
      have h8 := h.1
      have g0 : 0 ≤ (T (76 + k)).toInt := by
        rw [lt_ti] at q2
        have z0 : (0 : Int32).toInt = 0 := by decide
        rw [z0] at q2
        omega
      obtain ⟨t, ht, e⟩ := of_rg (x := T (76 + k)) (m := n) g0 (by omega) (by omega)
      rw [e, iN_of (by omega), sr_kind h ht]
  · rw [if_neg q, if_neg q]
theorem as_ok : okQ (asQ x y T) := by
  unfold asQ
  split
  · split
    · show (5 : Nat) < 7; decide
    split
    · trivial
    · show (2 : Nat) < 7; decide
  · exact ok0
theorem cu_eq (h : SR n T S) (hL : Y 1 = X 1) : cuQ w n (Y 1) S = cuQ w n (X 1) T := by
  unfold cuQ
  rw [sr_low h (k := 1) (by omega) (by omega), sr_rd h (p := 0) (Or.inl (by omega)), sr_su h, sr_su h, sr_ad h, hL, sr_low h (k := 2) (by omega) (by omega), sr_sp h]
theorem cu_ok {L : Int32} : okQ (cuQ w n L T) := by
  unfold cuQ
  repeat' split
  all_goals first | trivial | exact ok0
theorem st_eqQ (h : RF X Y) : stQ w Y = stC w X := by
  unfold stQ stC
  by_cases q : wi w (-1) 6 = true
  · rw [if_pos q, if_pos q]
    congr 1
    rcases wi_m1 q with rfl | ⟨j, hj, rfl⟩
    · rw [if_pos rfl]; exact h.1
    · rw [if_neg (by rw [eq_ti, ti_of (by omega)]; have : (-1 : Int32).toInt = -1 := by decide
                     omega), of_in, iN_of (by omega), iN_of (by omega), ← h.2 j hj]
      congr 1; omega
  · rw [if_neg q, if_neg q]
theorem st_ok : okQ (stC w X) := by
  unfold stC
  split
  · trivial
  · exact ok0
theorem wn_eq (h : RH X Y) : wnX x X = wnY x Y := by
  unfold wnX wnY
  by_cases q : isS x = true
  · rw [if_pos q, if_pos q]
    obtain ⟨s, hs, rfl⟩ := isS_nat q
    rw [iN_of (by omega)]
    rcases (h s hs).1 with ⟨h1, h2⟩ | ⟨h1, h2⟩
    · rw [if_pos h1, h2, if_pos (by decide)]
    · rw [h1]
      rcases h2 with h2 | h2 | h2 <;> rw [h2] <;> rfl
  · rw [if_neg q, if_neg q]
theorem wf_eq (h : RH X Y) : wfX x y z n X = wfY x y z n Y := by unfold wfX wfY; rw [wn_eq h]
theorem td_sr {F G : Nat → Int32} {p len : Nat} (h : SR n T S) (hp : vsb n p) (hF : ∀ i, i < len → F i = G i) : tdB G p n len S = tdB F p n len T := by
  rw [← td_eq hF]
  unfold tdB
  rw [fnd_cg (p := tdF F p n S) (q := tdF F p n T) (fun k => by unfold tdF; rw [sr_rd (sr_ys h) hp])]
theorem cnt_cg {p q : Nat → Bool} : ∀ m, (∀ k, k < m → p k = q k) → cnt p m = cnt q m := by
  intro m
  induction m with
  | zero => intro _; rfl
  | succ m ih =>
    intro h
    show cnt p m + (if p m = true then 1 else 0) = cnt q m + (if q m = true then 1 else 0)
    rw [ih (fun k hk => h k (by omega)), h m (by omega)]
theorem vs_dy {l c : Int32} (hl : isL l = true) (hc : isC c = true) : vsb n (dyI l c) := by
  obtain ⟨k, hk, e⟩ := dyI_rg hl hc
  rw [e]; exact Or.inl (by omega)
theorem ft_sr {F G : Nat → Int32} {t len : Nat} (h : SR n T S) (ht : t < n) (hc : isC z = true) (hF : ∀ i, i < len → F i = G i) (hv : k < 1000) : ftP G len t z n S k = ftP F len t z n T k := by
  unfold ftP
  rw [sr_layer h ht]
  exact td_sr (sr_uph h ht hv) (vs_dy (sr_isL h ht) hc) hF
theorem kd_sr {F G : Nat → Int32} {t len : Nat} (h : SR n T S) (ht : t < n) (hF : ∀ i, i < len → F i = G i) (hv : k < 7) : kdP G len t n S k = kdP F len t n T k := by
  unfold kdP
  exact td_sr (sr_upk h ht hv) (Or.inl (by omega)) hF
/-- the same sheet -/
theorem rh_len (h : RH X Y) (hs : s < 4) : X (241 + 50 * s) = Y (144 + s) := by
  obtain ⟨_, m, _, h1, h2, _⟩ := h s hs
  rw [h1, h2]
theorem rh_num (h : RH X Y) (hs : s < 4) : ∀ i, i < iN (Y (144 + s)) → X (200 + 50 * s + i) = Y (150 + (40 * s + i)) := by
  obtain ⟨_, m, hm, h1, h2, h3⟩ := h s hs
  intro i hi
  rw [h2, iN_of (by omega)] at hi
  exact h3 i (by omega)
theorem rh_szX (h : RH X Y) : szX X := fun s hs => by
  obtain ⟨_, m, hm, h1, _⟩ := h s hs
  exact ⟨m, hm, h1⟩
theorem rh_szY (h : RH X Y) : szY Y := fun s hs => by
  obtain ⟨_, m, hm, _, h1, _⟩ := h s hs
  exact ⟨m, hm, h1⟩
theorem br_cg {b : Int32} {q q' : QR} (h : b = 0 → q = q') : brQ b q = brQ b q' := by
  unfold brQ
  split
  · rename_i e; exact h e
  · rfl
theorem wf_0 (h : wfY x y z n Y = 0) : isS x = true ∧ hsB y n = true ∧ isC z = true := by
  rcases wf_cases (x := x) (y := y) (z := z) (n := n) (Y := Y) with w | w | w
  · exact w.2
  · exact absurd (w.symm.trans h) (by decide)
  · exact absurd (w.symm.trans h) (by decide)
theorem fi_eq (h : SR n T S) (hh : RH X Y) : fiQ (wfY x y z n Y) (fun i => Y (150 + (40 * iN x + i))) (iN (Y (144 + iN x))) (iN y) z n S = fiQ (wfX x y z n X) (fun i => X (200 + 50 * iN x + i)) (iN (X (241 + 50 * iN x))) (iN y) z n T := by
  rw [wf_eq hh]
  unfold fiQ
  refine br_cg (fun e => ?_)
  have w := wf_0 e
  obtain ⟨s, hs, rfl⟩ := isS_nat w.1
  obtain ⟨t, ht, rfl⟩ := hs_of w.2.1 h.1
  have := h.1
  rw [iN_of (show s < 2147483648 by omega), iN_of (show t < 2147483648 by omega), rh_len hh hs]
  have key : cnt (ftP (fun i => Y (150 + (40 * s + i))) (iN (Y (144 + s))) t z n S) 201 = cnt (ftP (fun i => X (200 + 50 * s + i)) (iN (Y (144 + s))) t z n T) 201 := cnt_cg 201 (fun k hk => ft_sr h ht w.2.2 (rh_num hh hs) (by omega))
  rw [key]
theorem he_eq (h : SR n T S) (hh : RH X Y) : heQ (wfY x y z n Y) (fun i => Y (150 + (40 * iN x + i))) (iN (Y (144 + iN x))) (iN y) z n S = heQ (wfX x y z n X) (fun i => X (200 + 50 * iN x + i)) (iN (X (241 + 50 * iN x))) (iN y) z n T := by
  rw [wf_eq hh]
  unfold heQ
  refine br_cg (fun e => ?_)
  have w := wf_0 e
  obtain ⟨s, hs, rfl⟩ := isS_nat w.1
  obtain ⟨t, ht, rfl⟩ := hs_of w.2.1 h.1
  have := h.1
  rw [iN_of (show s < 2147483648 by omega), iN_of (show t < 2147483648 by omega), rh_len hh hs]
  have key : fnd (ftP (fun i => Y (150 + (40 * s + i))) (iN (Y (144 + s))) t z n S) 0 201 = fnd (ftP (fun i => X (200 + 50 * s + i)) (iN (Y (144 + s))) t z n T) 0 201 := fnd_eq (N := 201) (fun k hk => ft_sr h ht w.2.2 (rh_num hh hs) (by omega)) 201 0 (by omega)
  rw [key]
theorem ki_eq (h : SR n T S) (hh : RH X Y) : kiQ (wfY x y 0 n Y) (fun i => Y (150 + (40 * iN x + i))) (iN (Y (144 + iN x))) (iN y) n S = kiQ (wfX x y 0 n X) (fun i => X (200 + 50 * iN x + i)) (iN (X (241 + 50 * iN x))) (iN y) n T := by
  rw [wf_eq hh]
  unfold kiQ
  refine br_cg (fun e => ?_)
  have w := wf_0 e
  obtain ⟨s, hs, rfl⟩ := isS_nat w.1
  obtain ⟨t, ht, rfl⟩ := hs_of w.2.1 h.1
  have := h.1
  rw [iN_of (show s < 2147483648 by omega), iN_of (show t < 2147483648 by omega), rh_len hh hs]
  have key : lpf (kiF (kdP (fun i => Y (150 + (40 * s + i))) (iN (Y (144 + s))) t n S)) 0 7 0 = lpf (kiF (kdP (fun i => X (200 + 50 * s + i)) (iN (Y (144 + s))) t n T)) 0 7 0 := lpf_eq (N := 7) (fun k s' hk => by unfold kiF; rw [kd_sr h ht (rh_num hh hs) hk]) 7 0 0 (by omega)
  rw [key]
end
