/-! ===== WHAT THE HEAP HOLDS: a Tub at base b, told by a row of numbers T in the reference's order: 0 N, 1 YEAR, 2 Z, 3 LYE, 4.. DYE, 28.. THING, 76.. SPOT; 86 dry ===== -/
abbrev TS : Type := Nat → Int32
def iN (x : Int32) : Nat := x.toNatClampNeg
def tubC (b : Nat) (T : TS) : Nat → MC
  | 0 => .inr (.inr (4, [.ref (b + 1), .ref (b + 2), .ref (b + 3), .int (T 0), .int (T 3), .int (T 1), .int (T 2), .int (T 86)]))
  | 1 => .inl (24, fun i => if i < 24 then T (4 + i) else 0)
  | 2 => .inr (.inl (3, 8, fun i => if i < 8 then some (b + 4 + i) else none))
  | 3 => .inl (10, fun i => if i < 10 then T (76 + i) else 0)
  | k + 4 => .inr (.inr (3, [.int (T (28 + 6 * k)), .int (T (29 + 6 * k)), .int (T (30 + 6 * k)), .int (T (31 + 6 * k)), .int (T (32 + 6 * k)), .int (T (33 + 6 * k))]))
def setTub (h : MH) (b : Nat) (T : TS) : MH := fun q => if b ≤ q ∧ q < b + 12 then tubC b T (q - b) else h q
theorem st_at (h : MH) (b : Nat) (T : TS) (k : Nat) (hk : k < 12) : setTub h b T (b + k) = tubC b T k := by
  unfold setTub
  rw [if_pos ⟨by omega, by omega⟩, Nat.add_sub_cancel_left]
theorem st_0 (h : MH) (b : Nat) (T : TS) : setTub h b T b = tubC b T 0 := st_at h b T 0 (by omega)
theorem st_off (h : MH) (b : Nat) (T : TS) (q : Nat) (hq : q < b ∨ b + 12 ≤ q) : setTub h b T q = h q := by
  unfold setTub
  rw [if_neg (by omega)]
theorem st_st (h : MH) (b : Nat) (T T' : TS) : setTub (setTub h b T) b T' = setTub h b T' := by
  funext q
  unfold setTub
  split
  · rfl
  · rfl
/-- a cell of the Tub written: which Tub it is then -/
theorem st_up (h : MH) (b : Nat) (T T' : TS) (k : Nat) (c : MC) (hk : k < 12) (hc : tubC b T' k = c) (ho : ∀ j, j < 12 → j ≠ k → tubC b T' j = tubC b T j) : mup (setTub h b T) (b + k) c = setTub h b T' := by
  funext q
  unfold mup setTub
  by_cases e : q = b + k
  · subst e
    rw [if_pos rfl, if_pos ⟨by omega, by omega⟩, Nat.add_sub_cancel_left, hc]
  · rw [if_neg e]
    by_cases r : b ≤ q ∧ q < b + 12
    · rw [if_pos r, if_pos r, ho (q - b) (by omega) (by omega)]
    · rw [if_neg r, if_neg r]
section
variable {h : MH} {b : Nat} {T : TS}
theorem gt_dyes : mgf (setTub h b T) b 4 0 = some (.ref (b + 1)) := by simp only [mgf, st_0, tubC]; rfl
theorem gt_things : mgf (setTub h b T) b 4 1 = some (.ref (b + 2)) := by simp only [mgf, st_0, tubC]; rfl
theorem gt_spots : mgf (setTub h b T) b 4 2 = some (.ref (b + 3)) := by simp only [mgf, st_0, tubC]; rfl
theorem gt_count : mgf (setTub h b T) b 4 3 = some (.int (T 0)) := by simp only [mgf, st_0, tubC]; rfl
theorem gt_lye : mgf (setTub h b T) b 4 4 = some (.int (T 3)) := by simp only [mgf, st_0, tubC]; rfl
theorem gt_year : mgf (setTub h b T) b 4 5 = some (.int (T 1)) := by simp only [mgf, st_0, tubC]; rfl
theorem gt_z : mgf (setTub h b T) b 4 6 = some (.int (T 2)) := by simp only [mgf, st_0, tubC]; rfl
theorem gt_dry : mgf (setTub h b T) b 4 7 = some (.int (T 86)) := by simp only [mgf, st_0, tubC]; rfl
theorem mis_tub : mis (setTub h b T) b 4 = true := by simp only [mis, st_0, tubC]; rfl
theorem ln_dyes : mlen (setTub h b T) (b + 1) = some 24 := by simp only [mlen, st_at _ _ _ 1 (by omega), tubC]; rfl
theorem ln_things : mlen (setTub h b T) (b + 2) = some 8 := by simp only [mlen, st_at _ _ _ 2 (by omega), tubC]; rfl
theorem ln_spots : mlen (setTub h b T) (b + 3) = some 10 := by simp only [mlen, st_at _ _ _ 3 (by omega), tubC]; rfl
theorem ld_dyes {i : Int32} (h0 : ¬ i < 0) (h1 : iN i < 24) : mld (setTub h b T) (b + 1) i false = some (T (4 + iN i)) := by
  simp only [mld, st_at _ _ _ 1 (by omega), tubC, if_neg h0]; unfold iN at h1 ⊢; rw [if_pos h1, if_pos h1]; rfl
theorem ld_spots {i : Int32} (h0 : ¬ i < 0) (h1 : iN i < 10) : mld (setTub h b T) (b + 3) i false = some (T (76 + iN i)) := by
  simp only [mld, st_at _ _ _ 3 (by omega), tubC, if_neg h0]; unfold iN at h1 ⊢; rw [if_pos h1, if_pos h1]; rfl
theorem ld_things {i : Int32} (h0 : ¬ i < 0) (h1 : iN i < 8) : mald (setTub h b T) (b + 2) i = some (.ref (b + 4 + iN i)) := by
  simp only [mald, st_at _ _ _ 2 (by omega), tubC, if_neg h0]; unfold iN at h1 ⊢; rw [if_neg (by decide), if_pos h1, if_pos h1]; rfl
theorem st_thing {t : Nat} (ht : t < 8) : setTub h b T (b + 4 + t) = tubC b T (t + 4) := by
  have := st_at h b T (t + 4) (by omega)
  rw [show b + (t + 4) = b + 4 + t by omega] at this
  exact this
theorem mis_thing {t : Nat} (ht : t < 8) : mis (setTub h b T) (b + 4 + t) 3 = true := by simp only [mis, st_thing ht, tubC]; rfl
theorem gt_kind {t : Nat} (ht : t < 8) : mgf (setTub h b T) (b + 4 + t) 3 0 = some (.int (T (28 + 6 * t))) := by simp only [mgf, st_thing ht, tubC]; rfl
theorem gt_layer {t : Nat} (ht : t < 8) : mgf (setTub h b T) (b + 4 + t) 3 1 = some (.int (T (29 + 6 * t))) := by simp only [mgf, st_thing ht, tubC]; rfl
theorem gt_colour {t : Nat} (ht : t < 8) : mgf (setTub h b T) (b + 4 + t) 3 2 = some (.int (T (30 + 6 * t))) := by simp only [mgf, st_thing ht, tubC]; rfl
theorem gt_holds {t : Nat} (ht : t < 8) : mgf (setTub h b T) (b + 4 + t) 3 3 = some (.int (T (31 + 6 * t))) := by simp only [mgf, st_thing ht, tubC]; rfl
theorem gt_soaked {t : Nat} (ht : t < 8) : mgf (setTub h b T) (b + 4 + t) 3 4 = some (.int (T (32 + 6 * t))) := by simp only [mgf, st_thing ht, tubC]; rfl
theorem gt_seen {t : Nat} (ht : t < 8) : mgf (setTub h b T) (b + 4 + t) 3 5 = some (.int (T (33 + 6 * t))) := by simp only [mgf, st_thing ht, tubC]; rfl
end
theorem fu_at {α : Type} {f : Nat → α} {k : Nat} {x : α} : mfu f k x k = x := if_pos rfl
theorem fu_ne {α : Type} {f : Nat → α} {k j : Nat} {x : α} (hj : j ≠ k) : mfu f k x j = f j := if_neg hj
theorem cl_eq {f g : Nat → Int32} {n : Nat} (h : ∀ k, k < n → f k = g k) : (fun i => if i < n then f i else 0) = (fun i => if i < n then g i else 0) := by
  funext k
  split
  · rename_i e; exact h k e
  · rfl
/-- a number of a Tub written is one cell of it written -/
theorem tc_sc {b : Nat} {T : TS} {v : Int32} {i : Nat} (hi : i < 4 ∨ i = 86) : ∀ j, j < 12 → j ≠ 0 → tubC b (mfu T i v) j = tubC b T j := by
  intro j hj h0
  match j, h0 with
  | 0, h0 => exact absurd rfl h0
  | 1, _ => exact congrArg (fun z => (.inl (24, z) : MC)) (cl_eq fun k hk => fu_ne (by omega))
  | 2, _ => rfl
  | 3, _ => exact congrArg (fun z => (.inl (10, z) : MC)) (cl_eq fun k hk => fu_ne (by omega))
  | k + 4, _ => simp only [tubC]; rw [fu_ne (by omega), fu_ne (by omega), fu_ne (by omega), fu_ne (by omega), fu_ne (by omega), fu_ne (by omega)]
theorem tc_dy {b : Nat} {T : TS} {v : Int32} {i : Nat} (hi : i < 24) : ∀ j, j < 12 → j ≠ 1 → tubC b (mfu T (4 + i) v) j = tubC b T j := by
  intro j hj h0
  match j, h0 with
  | 0, _ => simp only [tubC]; rw [fu_ne (by omega), fu_ne (by omega), fu_ne (by omega), fu_ne (by omega), fu_ne (by omega)]
  | 1, h0 => exact absurd rfl h0
  | 2, _ => rfl
  | 3, _ => exact congrArg (fun z => (.inl (10, z) : MC)) (cl_eq fun k hk => fu_ne (by omega))
  | k + 4, _ => simp only [tubC]; rw [fu_ne (by omega), fu_ne (by omega), fu_ne (by omega), fu_ne (by omega), fu_ne (by omega), fu_ne (by omega)]
theorem tc_sp {b : Nat} {T : TS} {v : Int32} {i : Nat} (hi : i < 10) : ∀ j, j < 12 → j ≠ 3 → tubC b (mfu T (76 + i) v) j = tubC b T j := by
  intro j hj h0
  match j, h0 with
  | 0, _ => simp only [tubC]; rw [fu_ne (by omega), fu_ne (by omega), fu_ne (by omega), fu_ne (by omega), fu_ne (by omega)]
  | 1, _ => exact congrArg (fun z => (.inl (24, z) : MC)) (cl_eq fun k hk => fu_ne (by omega))
  | 2, _ => rfl
  | 3, h0 => exact absurd rfl h0
  | k + 4, _ => simp only [tubC]; rw [fu_ne (by omega), fu_ne (by omega), fu_ne (by omega), fu_ne (by omega), fu_ne (by omega), fu_ne (by omega)]
theorem tc_th {b : Nat} {T : TS} {v : Int32} {t f : Nat} (ht : t < 8) (hf : f < 6) : ∀ j, j < 12 → j ≠ t + 4 → tubC b (mfu T (28 + 6 * t + f) v) j = tubC b T j := by
  intro j hj h0
  match j, h0 with
  | 0, _ => simp only [tubC]; rw [fu_ne (by omega), fu_ne (by omega), fu_ne (by omega), fu_ne (by omega), fu_ne (by omega)]
  | 1, _ => exact congrArg (fun z => (.inl (24, z) : MC)) (cl_eq fun k hk => fu_ne (by omega))
  | 2, _ => rfl
  | 3, _ => exact congrArg (fun z => (.inl (10, z) : MC)) (cl_eq fun k hk => fu_ne (by omega))
  | k + 4, h0 => simp only [tubC]; rw [fu_ne (by omega), fu_ne (by omega), fu_ne (by omega), fu_ne (by omega), fu_ne (by omega), fu_ne (by omega)]
section
variable {h : MH} {b : Nat} {T : TS} {v : Int32}
theorem pt_count : mpf (setTub h b T) b 4 3 (.int v) = some (setTub h b (mfu T 0 v)) := by
  simp only [mpf, st_0]
  exact congrArg some (st_up h b T _ 0 _ (by omega) (by simp [tubC, mfu]) (tc_sc (by omega)))
theorem pt_lye : mpf (setTub h b T) b 4 4 (.int v) = some (setTub h b (mfu T 3 v)) := by
  simp only [mpf, st_0]
  exact congrArg some (st_up h b T _ 0 _ (by omega) (by simp [tubC, mfu]) (tc_sc (by omega)))
theorem pt_year : mpf (setTub h b T) b 4 5 (.int v) = some (setTub h b (mfu T 1 v)) := by
  simp only [mpf, st_0]
  exact congrArg some (st_up h b T _ 0 _ (by omega) (by simp [tubC, mfu]) (tc_sc (by omega)))
theorem pt_z : mpf (setTub h b T) b 4 6 (.int v) = some (setTub h b (mfu T 2 v)) := by
  simp only [mpf, st_0]
  exact congrArg some (st_up h b T _ 0 _ (by omega) (by simp [tubC, mfu]) (tc_sc (by omega)))
theorem pt_dry : mpf (setTub h b T) b 4 7 (.int v) = some (setTub h b (mfu T 86 v)) := by
  simp only [mpf, st_0]
  exact congrArg some (st_up h b T _ 0 _ (by omega) (by simp [tubC, mfu]) (tc_sc (by omega)))
theorem pt_dyes {i : Int32} (h0 : ¬ i < 0) (h1 : iN i < 24) : mias (setTub h b T) (b + 1) i v = some (setTub h b (mfu T (4 + iN i) v)) := by
  simp only [mias, st_at _ _ _ 1 (by omega : 1 < 12), tubC, if_neg h0]
  unfold iN at h1 ⊢
  rw [if_pos h1]
  refine congrArg some (st_up h b T _ 1 _ (by omega) ?_ (tc_dy h1))
  simp only [tubC]; congr 2; funext k; unfold mfu
  by_cases e : k = i.toNatClampNeg
  · subst e; rw [if_pos h1, if_pos rfl, if_pos rfl]
  · rw [if_neg e]
    by_cases q : k < 24
    · simp only [if_pos q]; rw [if_neg (by omega)]
    · simp only [if_neg q]
theorem pt_spots {i : Int32} (h0 : ¬ i < 0) (h1 : iN i < 10) : mias (setTub h b T) (b + 3) i v = some (setTub h b (mfu T (76 + iN i) v)) := by
  simp only [mias, st_at _ _ _ 3 (by omega : 3 < 12), tubC, if_neg h0]
  unfold iN at h1 ⊢
  rw [if_pos h1]
  refine congrArg some (st_up h b T _ 3 _ (by omega) ?_ (tc_sp h1))
  simp only [tubC]; congr 2; funext k; unfold mfu
  by_cases e : k = i.toNatClampNeg
  · subst e; rw [if_pos h1, if_pos rfl, if_pos rfl]
  · rw [if_neg e]
    by_cases q : k < 10
    · simp only [if_pos q]; rw [if_neg (by omega)]
    · simp only [if_neg q]
theorem pt_thing {t f : Nat} (ht : t < 8) (hf : f < 6) : mpf (setTub h b T) (b + 4 + t) 3 f (.int v) = some (setTub h b (mfu T (28 + 6 * t + f) v)) := by
  simp only [mpf, st_thing ht, tubC]
  rw [if_pos (by simpa using hf)]
  have := st_up h b T (mfu T (28 + 6 * t + f) v) (t + 4) (.inr (.inr (3, ([.int (T (28 + 6 * t)), .int (T (29 + 6 * t)), .int (T (30 + 6 * t)), .int (T (31 + 6 * t)), .int (T (32 + 6 * t)), .int (T (33 + 6 * t))] : List Value).set f (.int v)))) (by omega) ?_ (tc_th ht hf)
  · rw [show b + (t + 4) = b + 4 + t by omega] at this
    exact congrArg some this
  · match f, hf with
    | 0, _ => simp only [tubC, List.set]; rw [show 28 + 6 * t + 0 = 28 + 6 * t from rfl, fu_at, fu_ne (by omega), fu_ne (by omega), fu_ne (by omega), fu_ne (by omega), fu_ne (by omega)]
    | 1, _ => simp only [tubC, List.set]; rw [show 28 + 6 * t + 1 = 29 + 6 * t by omega, fu_at, fu_ne (by omega), fu_ne (by omega), fu_ne (by omega), fu_ne (by omega), fu_ne (by omega)]
    | 2, _ => simp only [tubC, List.set]; rw [show 28 + 6 * t + 2 = 30 + 6 * t by omega, fu_at, fu_ne (by omega), fu_ne (by omega), fu_ne (by omega), fu_ne (by omega), fu_ne (by omega)]
    | 3, _ => simp only [tubC, List.set]; rw [show 28 + 6 * t + 3 = 31 + 6 * t by omega, fu_at, fu_ne (by omega), fu_ne (by omega), fu_ne (by omega), fu_ne (by omega), fu_ne (by omega)]
    | 4, _ => simp only [tubC, List.set]; rw [show 28 + 6 * t + 4 = 32 + 6 * t by omega, fu_at, fu_ne (by omega), fu_ne (by omega), fu_ne (by omega), fu_ne (by omega), fu_ne (by omega)]
    | 5, _ => simp only [tubC, List.set]; rw [show 28 + 6 * t + 5 = 33 + 6 * t by omega, fu_at, fu_ne (by omega), fu_ne (by omega), fu_ne (by omega), fu_ne (by omega), fu_ne (by omega)]
theorem pt_kind {t : Nat} (ht : t < 8) : mpf (setTub h b T) (b + 4 + t) 3 0 (.int v) = some (setTub h b (mfu T (28 + 6 * t) v)) := pt_thing ht (by decide)
theorem pt_layer {t : Nat} (ht : t < 8) : mpf (setTub h b T) (b + 4 + t) 3 1 (.int v) = some (setTub h b (mfu T (29 + 6 * t) v)) := by rw [pt_thing ht (by decide), show 28 + 6 * t + 1 = 29 + 6 * t by omega]
theorem pt_colour {t : Nat} (ht : t < 8) : mpf (setTub h b T) (b + 4 + t) 3 2 (.int v) = some (setTub h b (mfu T (30 + 6 * t) v)) := by rw [pt_thing ht (by decide), show 28 + 6 * t + 2 = 30 + 6 * t by omega]
theorem pt_holds {t : Nat} (ht : t < 8) : mpf (setTub h b T) (b + 4 + t) 3 3 (.int v) = some (setTub h b (mfu T (31 + 6 * t) v)) := by rw [pt_thing ht (by decide), show 28 + 6 * t + 3 = 31 + 6 * t by omega]
theorem pt_soaked {t : Nat} (ht : t < 8) : mpf (setTub h b T) (b + 4 + t) 3 4 (.int v) = some (setTub h b (mfu T (32 + 6 * t) v)) := by rw [pt_thing ht (by decide), show 28 + 6 * t + 4 = 32 + 6 * t by omega]
theorem pt_seen {t : Nat} (ht : t < 8) : mpf (setTub h b T) (b + 4 + t) 3 5 (.int v) = some (setTub h b (mfu T (33 + 6 * t) v)) := by rw [pt_thing ht (by decide), show 28 + 6 * t + 5 = 33 + 6 * t by omega]
end
