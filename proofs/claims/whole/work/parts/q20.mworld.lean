/-! ===== the reference's world: SoakTubModel at 50, its rows at 51..59.
S, K, B, A: s, kept, before, aside; Y: 0 isKept, 1 taped, 2 fitting, 3 leastFit, 4 token, 5 from, 6 to, 7 value, 8 faultAt, 10.. findings, 20.. tape, 140.. bitsOf, 144.. sizes, 150.. numbers ===== -/
def yC (S K B A Y : TS) : Nat → MC
  | 50 => .inr (.inr (6, [.ref 51, .ref 52, .ref 53, .ref 54, .int (Y 0), .ref 55, .ref 56, .int (Y 1), .ref 57, .ref 58, .ref 59, .int (Y 2), .int (Y 3), .int (Y 4), .int (Y 5), .int (Y 6), .int (Y 7), .int (Y 8)]))
  | 51 => .inl (86, fun i => if i < 86 then S i else 0)
  | 52 => .inl (86, fun i => if i < 86 then K i else 0)
  | 53 => .inl (86, fun i => if i < 86 then B i else 0)
  | 54 => .inl (86, fun i => if i < 86 then A i else 0)
  | 55 => .inl (8, fun i => if i < 8 then Y (10 + i) else 0)
  | 56 => .inl (120, fun i => if i < 120 then Y (20 + i) else 0)
  | 57 => .inl (4, fun i => if i < 4 then Y (140 + i) else 0)
  | 58 => .inl (4, fun i => if i < 4 then Y (144 + i) else 0)
  | 59 => .inl (160, fun i => if i < 160 then Y (150 + i) else 0)
  | _ => mjunk
def mw (h : MH) (S K B A Y : TS) : MH := fun q => if 50 ≤ q ∧ q < 60 then yC S K B A Y q else h q
def dY (q k : Nat) : Prop := (q = 50 ∧ k < 9) ∨ (q = 55 ∧ 10 ≤ k ∧ k < 18) ∨ (q = 56 ∧ 20 ≤ k ∧ k < 140) ∨ (q = 57 ∧ 140 ≤ k ∧ k < 144) ∨ (q = 58 ∧ 144 ≤ k ∧ k < 148) ∨ (q = 59 ∧ 150 ≤ k ∧ k < 310)
section
variable {h : MH} {S K B A Y S' K' B' A' Y' : TS} {v x y : Int32} {s i k : Nat}
theorem yC_eq {j : Nat} (e : ∀ k, dY j k → Y' k = Y k) : yC S K B A Y' j = yC S K B A Y j := by
  match j with
  | 50 => simp only [yC]; rw [e 0 (by unfold dY; omega), e 1 (by unfold dY; omega), e 2 (by unfold dY; omega), e 3 (by unfold dY; omega), e 4 (by unfold dY; omega), e 5 (by unfold dY; omega), e 6 (by unfold dY; omega), e 7 (by unfold dY; omega), e 8 (by unfold dY; omega)]
  | 51 => rfl
  | 52 => rfl
  | 53 => rfl
  | 54 => rfl
  | 55 => exact congrArg (fun z => (.inl (8, z) : MC)) (cl_eq fun k hk => e _ (by unfold dY; omega))
  | 56 => exact congrArg (fun z => (.inl (120, z) : MC)) (cl_eq fun k hk => e _ (by unfold dY; omega))
  | 57 => exact congrArg (fun z => (.inl (4, z) : MC)) (cl_eq fun k hk => e _ (by unfold dY; omega))
  | 58 => exact congrArg (fun z => (.inl (4, z) : MC)) (cl_eq fun k hk => e _ (by unfold dY; omega))
  | 59 => exact congrArg (fun z => (.inl (160, z) : MC)) (cl_eq fun k hk => e _ (by unfold dY; omega))
  | n + 60 => rfl
  | 0 | 1 | 2 | 3 | 4 | 5 | 6 | 7 | 8 | 9 | 10 | 11 | 12 | 13 | 14 | 15 | 16 | 17 | 18 | 19 | 20 | 21 | 22 | 23 | 24 | 25 | 26 | 27 | 28 | 29 | 30 | 31 | 32 | 33 | 34 | 35 | 36 | 37 | 38 | 39 | 40 | 41 | 42 | 43 | 44 | 45 | 46 | 47 | 48 | 49 => rfl
theorem mw_at {q : Nat} (hq : 50 ≤ q ∧ q < 60) : mw h S K B A Y q = yC S K B A Y q := if_pos hq
theorem mw_off {q : Nat} (hq : q < 50 ∨ 60 ≤ q) : mw h S K B A Y q = h q := if_neg (by omega)
theorem mw_up {q k : Nat} {c : MC} (hq : dY q k) (hc : yC S K B A (mfu Y k v) q = c) : mup (mw h S K B A Y) q c = mw h S K B A (mfu Y k v) := by
  funext p
  unfold mup
  by_cases e : p = q
  · rw [if_pos e, e, mw_at (by unfold dY at hq; omega), hc]
  · rw [if_neg e]
    unfold mw
    by_cases e1 : 50 ≤ p ∧ p < 60
    · rw [if_pos e1, if_pos e1]
      exact (yC_eq fun j hj => fu_ne (by unfold dY at hj hq; omega)).symm
    · rw [if_neg e1, if_neg e1]
/-- one of the rows of 86 written -/
theorem mw_S : mup (mw h S K B A Y) 51 (.inl (86, fun i => if i < 86 then S' i else 0)) = mw h S' K B A Y := by
  funext p
  unfold mup mw
  by_cases e : p = 51
  · subst e; rfl
  · rw [if_neg e]
    by_cases e1 : 50 ≤ p ∧ p < 60
    · rw [if_pos e1, if_pos e1]
      have : p = 50 ∨ p = 52 ∨ p = 53 ∨ p = 54 ∨ p = 55 ∨ p = 56 ∨ p = 57 ∨ p = 58 ∨ p = 59 := by omega
      rcases this with rfl | rfl | rfl | rfl | rfl | rfl | rfl | rfl | rfl <;> rfl
    · rw [if_neg e1, if_neg e1]
theorem mw_K : mup (mw h S K B A Y) 52 (.inl (86, fun i => if i < 86 then S' i else 0)) = mw h S S' B A Y := by
  funext p
  unfold mup mw
  by_cases e : p = 52
  · subst e; rfl
  · rw [if_neg e]
    by_cases e1 : 50 ≤ p ∧ p < 60
    · rw [if_pos e1, if_pos e1]
      have : p = 50 ∨ p = 51 ∨ p = 53 ∨ p = 54 ∨ p = 55 ∨ p = 56 ∨ p = 57 ∨ p = 58 ∨ p = 59 := by omega
      rcases this with rfl | rfl | rfl | rfl | rfl | rfl | rfl | rfl | rfl <;> rfl
    · rw [if_neg e1, if_neg e1]
theorem mw_B : mup (mw h S K B A Y) 53 (.inl (86, fun i => if i < 86 then S' i else 0)) = mw h S K S' A Y := by
  funext p
  unfold mup mw
  by_cases e : p = 53
  · subst e; rfl
  · rw [if_neg e]
    by_cases e1 : 50 ≤ p ∧ p < 60
    · rw [if_pos e1, if_pos e1]
      have : p = 50 ∨ p = 51 ∨ p = 52 ∨ p = 54 ∨ p = 55 ∨ p = 56 ∨ p = 57 ∨ p = 58 ∨ p = 59 := by omega
      rcases this with rfl | rfl | rfl | rfl | rfl | rfl | rfl | rfl | rfl <;> rfl
    · rw [if_neg e1, if_neg e1]
theorem mw_A : mup (mw h S K B A Y) 54 (.inl (86, fun i => if i < 86 then S' i else 0)) = mw h S K B S' Y := by
  funext p
  unfold mup mw
  by_cases e : p = 54
  · subst e; rfl
  · rw [if_neg e]
    by_cases e1 : 50 ≤ p ∧ p < 60
    · rw [if_pos e1, if_pos e1]
      have : p = 50 ∨ p = 51 ∨ p = 52 ∨ p = 53 ∨ p = 55 ∨ p = 56 ∨ p = 57 ∨ p = 58 ∨ p = 59 := by omega
      rcases this with rfl | rfl | rfl | rfl | rfl | rfl | rfl | rfl | rfl <;> rfl
    · rw [if_neg e1, if_neg e1]
theorem mw_eq (hS : ∀ k, k < 86 → S k = S' k) : mw h S K B A Y = mw h S' K B A Y := by
  funext p
  unfold mw
  by_cases e1 : 50 ≤ p ∧ p < 60
  · rw [if_pos e1, if_pos e1]
    by_cases e : p = 51
    · subst e; exact congrArg (fun z => (.inl (86, z) : MC)) (cl_eq hS)
    · have : p = 50 ∨ p = 52 ∨ p = 53 ∨ p = 54 ∨ p = 55 ∨ p = 56 ∨ p = 57 ∨ p = 58 ∨ p = 59 := by omega
      rcases this with rfl | rfl | rfl | rfl | rfl | rfl | rfl | rfl | rfl <;> rfl
  · rw [if_neg e1, if_neg e1]
theorem my_50 : mw h S K B A Y 50 = yC S K B A Y 50 := rfl
theorem my_s : mgf (mw h S K B A Y) 50 6 0 = some (.ref 51) := rfl
theorem my_kept : mgf (mw h S K B A Y) 50 6 1 = some (.ref 52) := rfl
theorem my_before : mgf (mw h S K B A Y) 50 6 2 = some (.ref 53) := rfl
theorem my_aside : mgf (mw h S K B A Y) 50 6 3 = some (.ref 54) := rfl
theorem my_isKept : mgf (mw h S K B A Y) 50 6 4 = some (.int (Y 0)) := rfl
theorem my_findings : mgf (mw h S K B A Y) 50 6 5 = some (.ref 55) := rfl
theorem my_tape : mgf (mw h S K B A Y) 50 6 6 = some (.ref 56) := rfl
theorem my_taped : mgf (mw h S K B A Y) 50 6 7 = some (.int (Y 1)) := rfl
theorem my_bitsOf : mgf (mw h S K B A Y) 50 6 8 = some (.ref 57) := rfl
theorem my_sizes : mgf (mw h S K B A Y) 50 6 9 = some (.ref 58) := rfl
theorem my_numbers : mgf (mw h S K B A Y) 50 6 10 = some (.ref 59) := rfl
theorem my_fitting : mgf (mw h S K B A Y) 50 6 11 = some (.int (Y 2)) := rfl
theorem my_leastFit : mgf (mw h S K B A Y) 50 6 12 = some (.int (Y 3)) := rfl
theorem my_token : mgf (mw h S K B A Y) 50 6 13 = some (.int (Y 4)) := rfl
theorem my_from : mgf (mw h S K B A Y) 50 6 14 = some (.int (Y 5)) := rfl
theorem my_to : mgf (mw h S K B A Y) 50 6 15 = some (.int (Y 6)) := rfl
theorem my_value : mgf (mw h S K B A Y) 50 6 16 = some (.int (Y 7)) := rfl
theorem my_faultAt : mgf (mw h S K B A Y) 50 6 17 = some (.int (Y 8)) := rfl
theorem my_mis : mis (mw h S K B A Y) 50 6 = true := rfl
theorem ml_s (hk : k < 86) : mld (mw h S K B A Y) 51 (Int32.ofNat k) false = some (S k) := by
  have e := iN_of (n := k) (by omega)
  have e0 : ¬ Int32.ofNat k < 0 := by rw [of_nn (by omega)]; exact id
  unfold iN at e
  simp only [mld, mw_at (q := 51) (by omega), yC, if_neg e0, e]
  rw [if_pos hk, if_pos hk]; rfl
theorem ml_sx {x : Int32} (e : x = Int32.ofNat k) (hk : k < 86) : mld (mw h S K B A Y) 51 x false = some (S k) := by subst e; exact ml_s hk
theorem mp_sx {x : Int32} (e : x = Int32.ofNat k) (hk : k < 86) : mias (mw h S K B A Y) 51 x v = some (mw h (mfu S k v) K B A Y) := by
  subst e
  have e := iN_of (n := k) (by omega)
  have e0 : ¬ Int32.ofNat k < 0 := by rw [of_nn (by omega)]; exact id
  unfold iN at e
  simp only [mias, mw_at (q := 51) (by omega), yC, if_neg e0, e, if_pos hk]
  have c := cl_up (f := S) (n := 86) (o := 0) (i := k) (v := v) hk
  simp only [Nat.zero_add] at c
  exact congrArg some ((congrArg (fun z => mup (mw h S K B A Y) 51 (.inl (86, z))) c.symm).trans mw_S)
theorem mlA {q n o : Nat} {f : TS} {w : Bool} (hq : mw h S K B A Y q = .inl (n, fun i => if i < n then f (o + i) else 0)) (hn : n ≤ 1000) (hi : i < n) : mld (mw h S K B A Y) q (Int32.ofNat i) false = some (f (o + i)) := by
  have e := iN_of (n := i) (by omega)
  have e0 : ¬ Int32.ofNat i < 0 := by rw [of_nn (by omega)]; exact id
  unfold iN at e
  simp only [mld, hq, if_neg e0, e]
  rw [if_pos hi, if_pos hi]; rfl
theorem ml_find (hi : i < 8) : mld (mw h S K B A Y) 55 (Int32.ofNat i) false = some (Y (10 + i)) := mlA (w := true) rfl (by decide) hi
theorem ml_tape (hi : i < 120) : mld (mw h S K B A Y) 56 (Int32.ofNat i) false = some (Y (20 + i)) := mlA (w := true) rfl (by decide) hi
theorem ml_bits (hi : i < 4) : mld (mw h S K B A Y) 57 (Int32.ofNat i) false = some (Y (140 + i)) := mlA (w := true) rfl (by decide) hi
theorem ml_size (hi : i < 4) : mld (mw h S K B A Y) 58 (Int32.ofNat i) false = some (Y (144 + i)) := mlA (w := true) rfl (by decide) hi
theorem ml_num (hi : i < 160) : mld (mw h S K B A Y) 59 (Int32.ofNat i) false = some (Y (150 + i)) := mlA (w := true) rfl (by decide) hi
theorem mpA {q n o : Nat} (hq : mw h S K B A Y q = .inl (n, fun i => if i < n then Y (o + i) else 0)) (hq' : yC S K B A (mfu Y (o + i) v) q = .inl (n, fun k => if k < n then mfu Y (o + i) v (o + k) else 0)) (hd : dY q (o + i)) (hn : n ≤ 1000) (hi : i < n) : mias (mw h S K B A Y) q (Int32.ofNat i) v = some (mw h S K B A (mfu Y (o + i) v)) := by
  have e := iN_of (n := i) (by omega)
  have e0 : ¬ Int32.ofNat i < 0 := by rw [of_nn (by omega)]; exact id
  unfold iN at e
  simp only [mias, hq, if_neg e0, e, if_pos hi]
  exact congrArg some (mw_up hd (by rw [hq', cl_up hi]))
theorem mp_find (hi : i < 8) : mias (mw h S K B A Y) 55 (Int32.ofNat i) v = some (mw h S K B A (mfu Y (10 + i) v)) := mpA rfl rfl (by unfold dY; omega) (by decide) hi
theorem mp_tape (hi : i < 120) : mias (mw h S K B A Y) 56 (Int32.ofNat i) v = some (mw h S K B A (mfu Y (20 + i) v)) := mpA rfl rfl (by unfold dY; omega) (by decide) hi
theorem mp_bits (hi : i < 4) : mias (mw h S K B A Y) 57 (Int32.ofNat i) v = some (mw h S K B A (mfu Y (140 + i) v)) := mpA rfl rfl (by unfold dY; omega) (by decide) hi
theorem mp_size (hi : i < 4) : mias (mw h S K B A Y) 58 (Int32.ofNat i) v = some (mw h S K B A (mfu Y (144 + i) v)) := mpA rfl rfl (by unfold dY; omega) (by decide) hi
theorem mp_num (hi : i < 160) : mias (mw h S K B A Y) 59 (Int32.ofNat i) v = some (mw h S K B A (mfu Y (150 + i) v)) := mpA rfl rfl (by unfold dY; omega) (by decide) hi
theorem mp_isKept : mpf (mw h S K B A Y) 50 6 4 (.int v) = some (mw h S K B A (mfu Y 0 v)) := by
  simp only [mpf, my_50, yC]
  exact congrArg some (mw_up (k := 0) (by unfold dY; omega) rfl)
theorem mp_taped : mpf (mw h S K B A Y) 50 6 7 (.int v) = some (mw h S K B A (mfu Y 1 v)) := by
  simp only [mpf, my_50, yC]
  exact congrArg some (mw_up (k := 1) (by unfold dY; omega) rfl)
theorem mp_fitting : mpf (mw h S K B A Y) 50 6 11 (.int v) = some (mw h S K B A (mfu Y 2 v)) := by
  simp only [mpf, my_50, yC]
  exact congrArg some (mw_up (k := 2) (by unfold dY; omega) rfl)
theorem mp_leastFit : mpf (mw h S K B A Y) 50 6 12 (.int v) = some (mw h S K B A (mfu Y 3 v)) := by
  simp only [mpf, my_50, yC]
  exact congrArg some (mw_up (k := 3) (by unfold dY; omega) rfl)
theorem mp_token : mpf (mw h S K B A Y) 50 6 13 (.int v) = some (mw h S K B A (mfu Y 4 v)) := by
  simp only [mpf, my_50, yC]
  exact congrArg some (mw_up (k := 4) (by unfold dY; omega) rfl)
theorem mp_from : mpf (mw h S K B A Y) 50 6 14 (.int v) = some (mw h S K B A (mfu Y 5 v)) := by
  simp only [mpf, my_50, yC]
  exact congrArg some (mw_up (k := 5) (by unfold dY; omega) rfl)
theorem mp_to : mpf (mw h S K B A Y) 50 6 15 (.int v) = some (mw h S K B A (mfu Y 6 v)) := by
  simp only [mpf, my_50, yC]
  exact congrArg some (mw_up (k := 6) (by unfold dY; omega) rfl)
theorem mp_value : mpf (mw h S K B A Y) 50 6 16 (.int v) = some (mw h S K B A (mfu Y 7 v)) := by
  simp only [mpf, my_50, yC]
  exact congrArg some (mw_up (k := 7) (by unfold dY; omega) rfl)
theorem mp_faultAt : mpf (mw h S K B A Y) 50 6 17 (.int v) = some (mw h S K B A (mfu Y 8 v)) := by
  simp only [mpf, my_50, yC]
  exact congrArg some (mw_up (k := 8) (by unfold dY; omega) rfl)
end
