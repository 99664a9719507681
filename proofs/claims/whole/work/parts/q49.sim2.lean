/-! ===== the calls beside each other: odds, the tape, texts, sheets ===== -/
section
variable {T V X S K Y T' V' X' S' K' Y' : TS} {x y z v w : Int32} {n n' k m s i L : Nat} {u u' : Int}
def SimL (Mc Mr : Nat) (as : List Value) : Prop := ∀ (u : Int) (n : Nat) (T V X S K Y : TS), u ≤ 50000 → Rel u n T V X S K Y → ∃ (v : Int64) (n' : Nat) (T' V' X' S' K' Y' : TS), OpC Mc as T V X (.long v) T' V' X' ∧ OpR Mr as S K Y (.long v) S' K' Y' ∧ Rel (u + 60) n' T' V' X' S' K' Y'
theorem s_odds : SimL 88 189 [.int x, .int w] := fun u n T V X S K Y hu r => by
  by_cases q : wi x 0 20 = true ∧ wi w 0 1 = true
  · have m := mo_odds (S := S) (K := K) (Y := Y) q.1 q.2
    have e : odV w (iN x) S = odV w (iN x) T := by unfold odV ncN; rw [sr_clA r.sr]
    rw [e] at m
    exact ⟨_, n, T, V, X, S, K, Y, co_odds q.1 q.2, m, r.mono (by omega)⟩
  · exact ⟨_, n, T, V, fnX 0 X, S, K, fnY 0 Y, cb_odds q, mb_odds q, (r.fn (by decide)).mono (by omega)⟩
theorem by_nn {a : Int32} : 0 ≤ (a &&& 255).toInt := by
  have e : (a &&& 255).toBitVec.msb = false := by
    show (a.toBitVec &&& 255#32).msb = false
    rw [BitVec.msb_and]
    have : (255#32).msb = false := by decide
    rw [this, Bool.and_false]
  show 0 ≤ (a &&& 255).toBitVec.toInt
  rw [BitVec.toInt_eq_toNat_of_msb e]
  omega
/-- what touches neither the findings nor the bit of the image -/
theorem Rel.rl (h : Rel u n T V X S K Y) (hX : ∀ k, k ≠ 1 → (k < 20 ∨ 140 ≤ k) → X' k = X k) (hY : ∀ k, k ≠ 1 → (k < 20 ∨ 140 ≤ k) → Y' k = Y k) (r : RLt X' Y') : Rel u n T V X' S K Y' :=
  ⟨h.1, h.2.1.cg (hX 0 (by omega) (by omega)) (hY 0 (by omega) (by omega)), h.2.2.1.cg (fun k _ _ => hX k (by omega) (by omega)) (fun k _ _ => hY k (by omega) (by omega)), r, h.2.2.2.2.cg (fun k _ => hX k (by omega) (by omega)) (fun k _ => hY k (by omega) (by omega))⟩
theorem Rel.rs (h : Rel u n T V X S K Y) (hX : ∀ k, k < 200 → X' k = X k) (hY : ∀ k, k < 140 → Y' k = Y k) (r : RH X' Y') : Rel u n T V X' S K Y' :=
  ⟨h.1, h.2.1.cg (hX 0 (by omega)) (hY 0 (by omega)), h.2.2.1.cg (fun k _ _ => hX k (by omega)) (fun k _ _ => hY k (by omega)), h.2.2.2.1.cg (fun k _ => hX k (by omega)) (fun k _ => hY k (by omega)), r⟩
theorem fd_rel {z : Nat} (h1 : X 1 = Int32.ofNat L) (h2 : Y 1 = Int32.ofNat L) (h3 : ∀ i, i < L → X (20 + i) = Y (20 + i) ∧ 0 ≤ (X (20 + i)).toInt) (hm : L + z ≤ 120) : (∀ k, k ≠ 1 → (k < 20 ∨ 140 ≤ k) → fdS x z L X k = X k) ∧ (∀ k, k ≠ 1 → (k < 20 ∨ 140 ≤ k) → fdS x z L Y k = Y k) ∧ RLt (fdS x z L X) (fdS x z L Y) := by
  have key := lpf_rel (f := fdF x z L) (g := fdF x z L) (P := fun j (s t : TS) => (∀ k, k ≠ 1 → (k < 20 ∨ 140 ≤ k) → s k = X k ∧ t k = Y k) ∧ s 1 = Int32.ofNat (L + j) ∧ t 1 = Int32.ofNat (L + j) ∧ ∀ i, i < L + j → s (20 + i) = t (20 + i) ∧ 0 ≤ (s (20 + i)).toInt) (N := z) (fun j s t hj p => by
    refine ⟨fun k k1 kk => ?_, fu_at, fu_at, fun i hi => ?_⟩
    · unfold fdF
      rw [fu_ne k1, fu_ne (by omega), fu_ne k1, fu_ne (by omega)]
      exact p.1 k k1 kk
    · have a : ∀ r : TS, fdF x z L j r (20 + i) = mfu r (20 + (L + j)) (x >>> (Int32.ofNat (8 * (z - 1 - j)) &&& 31) &&& 255) (20 + i) := fun r => fu_ne (by omega)
      rw [a, a]
      by_cases e : i = L + j
      · subst e
        rw [fu_at, fu_at]; exact ⟨rfl, by_nn⟩
      · rw [fu_ne (by omega), fu_ne (by omega)]
        exact p.2.2.2 i (by omega)) z 0 X Y (by omega) ⟨fun k _ _ => ⟨rfl, rfl⟩, h1, h2, h3⟩
  exact ⟨fun k k1 kk => (key.1 k k1 kk).1, fun k k1 kk => (key.1 k k1 kk).2, L + z, hm, key.2.1, key.2.2.1, key.2.2.2⟩
theorem s_feed : Sim 90 191 [.int x, .int z] := fun u n T V X S K Y hu r => by
  by_cases q : wi z 1 4 = true
  · obtain ⟨L, hL, h1, h2, h3⟩ := r.2.2.2.1
    by_cases q2 : L + iN z ≤ 120
    · have b := fd_rel (x := x) h1 h2 h3 q2
      exact ⟨_, n, T, V, fdS x (iN z) L X, S, K, fdS x (iN z) L Y, co_feed q h1 q2, mo_feed q h2 q2, (r.mono (by omega)).rl b.1 b.2.1 b.2.2⟩
    · exact sim_f (by decide) r (cb_feedF q h1 hL q2) (mb_feedF q h2 hL q2)
  · exact sim_f (by decide) r (cb_feed q) (mb_feed q)
/-! texts: they don't touch the year -/
def Y1 (v : Int32) (r : PR) : Prop := match r with
  | .inl _ => True
  | .inr (T, _) => T 1 = v
theorem pr_1 {g : Nat → Int32} {c : Bool} {p : Nat} {hi : Int32} (hp : p ≠ 1) (h : T 1 = v) : Y1 v (prP g L c p hi T s) := by
  unfold prP
  split
  · split
    · exact (up_1 hp).trans h
    · trivial
  · exact h
theorem bd_1 {r : PR} {f : TS → Nat → PR} (h : Y1 v r) (hf : ∀ T s, T 1 = v → Y1 v (f T s)) : Y1 v (bdP r f) := by
  match r, h with
  | .inl e, h => trivial
  | .inr (T, s), h => exact hf T s h
theorem st_1' : stS x y n T 1 = T 1 := by
  have e : ∀ (c : Int32) (T : TS), exF x y c T 1 = T 1 := fun c T => by
    unfold exF dyI; rw [fu_ne (by omega), fu_ne (by omega)]
  have g := lpf_inv (f := exT x y) (P := fun _ (s : TS) => s 1 = T 1) (N := n) (fun k s hk p => by show exT x y k s 1 = _; unfold exT; rw [fu_ne (by omega)]; exact p) n 0 (exF x y 2 (exF x y 1 (exF x y 0 T))) (by omega) (by rw [e, e, e])
  exact g
theorem it_1 {g : Nat → Int32} (h : T 1 = v) : Y1 v (itP g L n T s) := by
  have co : ∀ k, coS n k 0 T 1 = v := fun k => by
    unfold coS
    rw [fu_ne (by omega), fu_ne (by omega), fu_ne (by omega), fu_ne (by omega), fu_ne (by omega), fu_ne (by omega), fu_ne (by omega)]; exact h
  unfold itP
  split
  · split
    · unfold dyP
      split
      · split
        · exact pr_1 (by unfold dyI; omega) h
        · trivial
      · trivial
    split
    · exact pr_1 (by omega) h
    split
    · unfold stP
      split
      · split
        · show (if _ then T else _ : TS) 1 = v
          split
          · exact h
          · exact st_1'.trans h
        · trivial
      · trivial
    · trivial
  · unfold thP
    split
    · exact bd_1 (pr_1 (by omega) (co _)) (fun T s e => bd_1 (pr_1 (by omega) e) (fun T s e => pr_1 (by omega) e))
    · trivial
theorem tx_1 {g : Nat → Int32} : ∀ (f i n : Nat) (T : TS) (s : Nat), T 1 = v → match txP g L f i n T s with
    | .inl _ => True
    | .inr (_, T', _) => T' 1 = v := by
  intro f
  induction f with
  | zero => intro i n T s h; trivial
  | succ f ih =>
    intro i n T s h
    have z := it_1 (g := g) (L := L) (n := n) (s := s) h
    show match (match itP g L n T s with
      | .inl e => .inl e
      | .inr (T', s') => if kc g s' = 0 then .inr (i, T', nIt g L n s) else if kc g s' = 3 then txP g L f (i + 1) (nIt g L n s) T' (nxT g L s') else .inl s' : Nat ⊕ (Nat × TS × Nat)) with
    | .inl _ => True
    | .inr (_, T', _) => T' 1 = v
    generalize itP g L n T s = r1 at z ⊢
    match r1, z with
    | .inl e, z => trivial
    | .inr (T', s1), z =>
      have z : T' 1 = v := z
      show match (if kc g s1 = 0 then .inr (i, T', nIt g L n s) else if kc g s1 = 3 then txP g L f (i + 1) (nIt g L n s) T' (nxT g L s1) else .inl s1 : Nat ⊕ (Nat × TS × Nat)) with
      | .inl _ => True
      | .inr (_, T', _) => T' 1 = v
      by_cases k0 : kc g s1 = 0
      · rw [if_pos k0]; exact z
      rw [if_neg k0]
      by_cases k3 : kc g s1 = 3
      · rw [if_pos k3]; exact ih (i + 1) (nIt g L n s) T' (nxT g L s1) z
      · rw [if_neg k3]; trivial
theorem s_text : Sim 92 210 [] := fun u n T V X S K Y hu r => by
  obtain ⟨L, hL, h1, h2, h3⟩ := r.2.2.2.1
  have c := co_text (V := V) h1 hL (fun i hi => (h3 i hi).2) r.ok
  have m := mo_text (K := K) h2 hL r.okS
  have eb : bA L Y = bA L X := by
    funext i
    unfold bA
    by_cases q : i < L
    · rw [if_pos q, if_pos q, (h3 i q).1]
    · rw [if_neg q, if_neg q]
  have s0 := sp_le (g := bA L X) (Nat.zero_le L)
  have t : TXr (txR L n X T) (txR L n Y S) := by
    unfold txR
    rw [eb]
    exact sr_tx bA_hi hL 61 1 n T S (sp (bA L X) L 0) r.sr s0.2 (by omega)
  have y1 : match txR L n X T with
    | .inl _ => True
    | .inr (_, T', _) => T' 1 = T 1 := tx_1 61 1 n T (sp (bA L X) L 0) rfl
  have fin : ∀ (T' S' : TS) (n' : Nat), RT (u + 60) n' T' S' → Rel (u + 60) n' T' V (mfu X 1 0) S' K (mfu Y 1 0) := fun T' S' n' h =>
    ⟨h, (r.2.1.mono (by omega)).cg (fu_ne (by omega)) (fu_ne (by omega)), r.rf.cg (fun k _ _ => fu_ne (by omega)) (fun k _ _ => fu_ne (by omega)), ⟨0, by omega, fu_at, fu_at, fun i hi => absurd hi (by omega)⟩, r.rh.cg (fun k _ => fu_ne (by omega)) (fun k _ => fu_ne (by omega))⟩
  generalize txR L n X T = r1 at c t y1
  generalize txR L n Y S = r2 at m t
  match r1, r2, t with
  | .inl e, .inl e', t =>
    obtain ⟨rfl, _⟩ := t
    exact ⟨_, n, T, V, mfu X 1 0, S, K, mfu Y 1 0, c, m, fin T S n (r.1.mono (by omega))⟩
  | .inr (i, T1, n1), .inr (i', S1, n1'), t =>
    obtain ⟨rfl, rfl, t1, t2⟩ := t
    have y1 : T1 1 = T 1 := y1
    have e : tkS n1 T1 T 1 = T 1 := by unfold tkS; rw [if_neg (by omega), if_pos (Or.inl (by omega)), y1]
    exact ⟨_, n1, tkS n1 T1 T, V, mfu X 1 0, S1, K, mfu Y 1 0, c, m, fin (tkS n1 T1 T) S1 n1 ⟨sr_tk t1, tk_86, by rw [e]; have := r.yT; omega⟩⟩
end
