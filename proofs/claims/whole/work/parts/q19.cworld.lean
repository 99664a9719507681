/-! ===== the class's world: SoakTub at 0, its Tubs at 1, 13, 25, TextReader 37, Tape 38, 39, sheets 40, 42.., findings 41.
X: 0 isKept, 1 length of the tape, 2 token, 3 start, 4 end, 5 number, 10.. findings, 20.. tape, 200 + 50 s .. numbers of a sheet, 240 + 50 s bits, 241 + 50 s size ===== -/
def shC (X : TS) (s : Nat) : MC := .inr (.inr (0, [.ref (43 + 2 * s), .int (X (240 + 50 * s)), .int (X (241 + 50 * s))]))
def shN (X : TS) (s : Nat) : MC := .inl (40, fun i => if i < 40 then X (200 + 50 * s + i) else 0)
def xC (X : TS) : Nat → MC
  | 0 => .inr (.inr (5, [.ref 1, .ref 13, .ref 25, .int (X 0), .ref 37, .ref 38, .ref 40, .ref 41]))
  | 37 => .inr (.inr (2, [.ref 38, .int (X 2), .int (X 3), .int (X 4), .int (X 5)]))
  | 38 => .inr (.inr (1, [.ref 39, .int (X 1)]))
  | 39 => .inl (120, fun i => if i < 120 then X (20 + i) else 0)
  | 40 => .inr (.inl (0, 4, fun i => if i < 4 then some (42 + 2 * i) else none))
  | 41 => .inl (7, fun i => if i < 7 then X (10 + i) else 0)
  | 42 => shC X 0
  | 43 => shN X 0
  | 44 => shC X 1
  | 45 => shN X 1
  | 46 => shC X 2
  | 47 => shN X 2
  | 48 => shC X 3
  | 49 => shN X 3
  | _ => mjunk
def setX (h : MH) (X : TS) : MH := fun q => if q = 0 ∨ (37 ≤ q ∧ q < 50) then xC X q else h q
def cw (h : MH) (T U V X : TS) : MH := setTub (setTub (setTub (setX h X) 1 T) 13 U) 25 V
/-- which numbers a cell holds -/
def dX (q k : Nat) : Prop := (q = 0 ∧ k = 0) ∨ (q = 37 ∧ 2 ≤ k ∧ k < 6) ∨ (q = 38 ∧ k = 1) ∨ (q = 39 ∧ 20 ≤ k ∧ k < 140) ∨ (q = 41 ∧ 10 ≤ k ∧ k < 17) ∨ (q = 42 ∧ 240 ≤ k ∧ k < 242) ∨ (q = 43 ∧ 200 ≤ k ∧ k < 240) ∨ (q = 44 ∧ 290 ≤ k ∧ k < 292) ∨ (q = 45 ∧ 250 ≤ k ∧ k < 290) ∨ (q = 46 ∧ 340 ≤ k ∧ k < 342) ∨ (q = 47 ∧ 300 ≤ k ∧ k < 340) ∨ (q = 48 ∧ 390 ≤ k ∧ k < 392) ∨ (q = 49 ∧ 350 ≤ k ∧ k < 390)
theorem shC_eq {X X' : TS} {s : Nat} (h1 : X' (240 + 50 * s) = X (240 + 50 * s)) (h2 : X' (241 + 50 * s) = X (241 + 50 * s)) : shC X' s = shC X s := by unfold shC; rw [h1, h2]
theorem shN_eq {X X' : TS} {s : Nat} (h1 : ∀ i, i < 40 → X' (200 + 50 * s + i) = X (200 + 50 * s + i)) : shN X' s = shN X s := congrArg (fun z => (.inl (40, z) : MC)) (cl_eq h1)
theorem xC_eq {X X' : TS} {j : Nat} (e : ∀ k, dX j k → X' k = X k) : xC X' j = xC X j := by
  match j with
  | 0 => simp only [xC]; rw [e 0 (by unfold dX; omega)]
  | 37 => simp only [xC]; rw [e 2 (by unfold dX; omega), e 3 (by unfold dX; omega), e 4 (by unfold dX; omega), e 5 (by unfold dX; omega)]
  | 38 => simp only [xC]; rw [e 1 (by unfold dX; omega)]
  | 39 => exact congrArg (fun z => (.inl (120, z) : MC)) (cl_eq fun k hk => e _ (by unfold dX; omega))
  | 40 => rfl
  | 41 => exact congrArg (fun z => (.inl (7, z) : MC)) (cl_eq fun k hk => e _ (by unfold dX; omega))
  | 42 => exact shC_eq (e _ (by unfold dX; omega)) (e _ (by unfold dX; omega))
  | 43 => exact shN_eq fun i hi => e _ (by unfold dX; omega)
  | 44 => exact shC_eq (e _ (by unfold dX; omega)) (e _ (by unfold dX; omega))
  | 45 => exact shN_eq fun i hi => e _ (by unfold dX; omega)
  | 46 => exact shC_eq (e _ (by unfold dX; omega)) (e _ (by unfold dX; omega))
  | 47 => exact shN_eq fun i hi => e _ (by unfold dX; omega)
  | 48 => exact shC_eq (e _ (by unfold dX; omega)) (e _ (by unfold dX; omega))
  | 49 => exact shN_eq fun i hi => e _ (by unfold dX; omega)
  | 1 | 2 | 3 | 4 | 5 | 6 | 7 | 8 | 9 | 10 | 11 | 12 | 13 | 14 | 15 | 16 | 17 | 18 | 19 | 20 | 21 | 22 | 23 | 24 | 25 | 26 | 27 | 28 | 29 | 30 | 31 | 32 | 33 | 34 | 35 | 36 => rfl
  | n + 50 => rfl
section
variable {h : MH} {T U V X T' U' V' X' : TS} {v : Int32} {s i : Nat}
theorem cw_x {q : Nat} (hq : q = 0 ∨ (37 ≤ q ∧ q < 50)) : cw h T U V X q = xC X q := by
  unfold cw
  rw [st_off _ _ _ _ (by omega), st_off _ _ _ _ (by omega), st_off _ _ _ _ (by omega)]
  unfold setX
  rw [if_pos hq]
theorem cw_off {q : Nat} (hq : 50 ≤ q) : cw h T U V X q = h q := by
  unfold cw
  rw [st_off _ _ _ _ (by omega), st_off _ _ _ _ (by omega), st_off _ _ _ _ (by omega)]
  unfold setX
  rw [if_neg (by omega)]
theorem cw_1 : setTub (cw h T U V X) 1 T' = cw h T' U V X := by
  funext q
  unfold cw setTub
  by_cases e1 : 1 ≤ q ∧ q < 1 + 12
  · rw [if_pos e1, if_neg (by omega), if_neg (by omega), if_pos e1]
  · rw [if_neg e1]
    by_cases e2 : 25 ≤ q ∧ q < 25 + 12
    · rw [if_pos e2, if_pos e2]
    · rw [if_neg e2, if_neg e2]
      by_cases e3 : 13 ≤ q ∧ q < 13 + 12
      · rw [if_pos e3, if_pos e3]
      · rw [if_neg e3, if_neg e3, if_neg e1, if_neg e1]
theorem cw_13 : setTub (cw h T U V X) 13 U' = cw h T U' V X := by
  funext q
  unfold cw setTub
  by_cases e1 : 13 ≤ q ∧ q < 13 + 12
  · rw [if_pos e1, if_neg (by omega), if_pos e1]
  · rw [if_neg e1]
    by_cases e2 : 25 ≤ q ∧ q < 25 + 12
    · rw [if_pos e2, if_pos e2]
    · rw [if_neg e2, if_neg e2, if_neg e1, if_neg e1]
theorem cw_25 : setTub (cw h T U V X) 25 V' = cw h T U V' X := by
  funext q
  unfold cw setTub
  by_cases e1 : 25 ≤ q ∧ q < 25 + 12
  · rw [if_pos e1, if_pos e1]
  · rw [if_neg e1, if_neg e1, if_neg e1]
theorem cw_up {q k : Nat} {c : MC} (hq : dX q k) (hc : xC (mfu X k v) q = c) : mup (cw h T U V X) q c = cw h T U V (mfu X k v) := by
  have hq' : q = 0 ∨ (37 ≤ q ∧ q < 50) := by unfold dX at hq; omega
  funext p
  unfold mup
  by_cases e : p = q
  · rw [if_pos e, e, cw_x hq', hc]
  · rw [if_neg e]
    unfold cw setTub
    by_cases e1 : 25 ≤ p ∧ p < 25 + 12
    · rw [if_pos e1, if_pos e1]
    rw [if_neg e1, if_neg e1]
    by_cases e1 : 13 ≤ p ∧ p < 13 + 12
    · rw [if_pos e1, if_pos e1]
    rw [if_neg e1, if_neg e1]
    by_cases e1 : 1 ≤ p ∧ p < 1 + 12
    · rw [if_pos e1, if_pos e1]
    rw [if_neg e1, if_neg e1]
    unfold setX
    by_cases e1 : p = 0 ∨ (37 ≤ p ∧ p < 50)
    · rw [if_pos e1, if_pos e1]
      exact (xC_eq fun j hj => fu_ne (by unfold dX at hj hq; omega)).symm
    · rw [if_neg e1, if_neg e1]
theorem cx_tub : mgf (cw h T U V X) 0 5 0 = some (.ref 1) := by simp only [mgf, cw_x (Or.inl rfl), xC]; rfl
theorem cx_trial : mgf (cw h T U V X) 0 5 1 = some (.ref 13) := by simp only [mgf, cw_x (Or.inl rfl), xC]; rfl
theorem cx_kept : mgf (cw h T U V X) 0 5 2 = some (.ref 25) := by simp only [mgf, cw_x (Or.inl rfl), xC]; rfl
theorem cx_isKept : mgf (cw h T U V X) 0 5 3 = some (.int (X 0)) := by simp only [mgf, cw_x (Or.inl rfl), xC]; rfl
theorem cx_tape : mgf (cw h T U V X) 0 5 5 = some (.ref 38) := by simp only [mgf, cw_x (Or.inl rfl), xC]; rfl
theorem cx_reader : mgf (cw h T U V X) 0 5 4 = some (.ref 37) := by simp only [mgf, cw_x (Or.inl rfl), xC]; rfl
theorem cx_sheets : mgf (cw h T U V X) 0 5 6 = some (.ref 40) := by simp only [mgf, cw_x (Or.inl rfl), xC]; rfl
theorem cx_findings : mgf (cw h T U V X) 0 5 7 = some (.ref 41) := by simp only [mgf, cw_x (Or.inl rfl), xC]; rfl
theorem cx_mis : mis (cw h T U V X) 0 5 = true := by simp only [mis, cw_x (Or.inl rfl), xC]; rfl
theorem cx_mis38 : mis (cw h T U V X) 38 1 = true := by simp only [mis, cw_x (q := 38) (by omega), xC]; rfl
theorem cx_mis37 : mis (cw h T U V X) 37 2 = true := by simp only [mis, cw_x (q := 37) (by omega), xC]; rfl
theorem cx_bytes : mgf (cw h T U V X) 38 1 0 = some (.ref 39) := by simp only [mgf, cw_x (q := 38) (by omega), xC]; rfl
theorem cx_tlen : mgf (cw h T U V X) 38 1 1 = some (.int (X 1)) := by simp only [mgf, cw_x (q := 38) (by omega), xC]; rfl
theorem cx_rtape : mgf (cw h T U V X) 37 2 0 = some (.ref 38) := by simp only [mgf, cw_x (q := 37) (by omega), xC]; rfl
theorem cx_token : mgf (cw h T U V X) 37 2 1 = some (.int (X 2)) := by simp only [mgf, cw_x (q := 37) (by omega), xC]; rfl
theorem cx_start : mgf (cw h T U V X) 37 2 2 = some (.int (X 3)) := by simp only [mgf, cw_x (q := 37) (by omega), xC]; rfl
theorem cx_end : mgf (cw h T U V X) 37 2 3 = some (.int (X 4)) := by simp only [mgf, cw_x (q := 37) (by omega), xC]; rfl
theorem cx_number : mgf (cw h T U V X) 37 2 4 = some (.int (X 5)) := by simp only [mgf, cw_x (q := 37) (by omega), xC]; rfl
theorem cx_lnBytes : mlen (cw h T U V X) 39 = some 120 := by simp only [mlen, cw_x (q := 39) (by omega), xC]; rfl
theorem cx_lnSheets : mlen (cw h T U V X) 40 = some 4 := by simp only [mlen, cw_x (q := 40) (by omega), xC]; rfl
theorem cx_lnFind : mlen (cw h T U V X) 41 = some 7 := by simp only [mlen, cw_x (q := 41) (by omega), xC]; rfl
theorem cx_ldBytes (hi : i < 120) : mld (cw h T U V X) 39 (Int32.ofNat i) false = some (X (20 + i)) := by
  have e := iN_of (n := i) (by omega)
  have e0 : ¬ Int32.ofNat i < 0 := by rw [of_nn (by omega)]; exact id
  unfold iN at e
  simp only [mld, cw_x (q := 39) (by omega), xC, if_neg e0, e]
  rw [if_pos hi, if_pos hi]; rfl
theorem cx_ldFind (hi : i < 7) : mld (cw h T U V X) 41 (Int32.ofNat i) false = some (X (10 + i)) := by
  have e := iN_of (n := i) (by omega)
  have e0 : ¬ Int32.ofNat i < 0 := by rw [of_nn (by omega)]; exact id
  unfold iN at e
  simp only [mld, cw_x (q := 41) (by omega), xC, if_neg e0, e]
  rw [if_pos hi, if_pos hi]; rfl
theorem cx_ldSheets (hi : i < 4) : mald (cw h T U V X) 40 (Int32.ofNat i) = some (.ref (42 + 2 * i)) := by
  have e := iN_of (n := i) (by omega)
  have e0 : ¬ Int32.ofNat i < 0 := by rw [of_nn (by omega)]; exact id
  unfold iN at e
  simp only [mald, cw_x (q := 40) (by omega), xC, if_neg e0, e]
  rw [if_neg (by decide), if_pos hi, if_pos hi]; rfl
theorem xC_sh (hs : s < 4) : xC X (42 + 2 * s) = shC X s := by
  match s, hs with
  | 0, _ => rfl
  | 1, _ => rfl
  | 2, _ => rfl
  | 3, _ => rfl
theorem xC_sn (hs : s < 4) : xC X (43 + 2 * s) = shN X s := by
  match s, hs with
  | 0, _ => rfl
  | 1, _ => rfl
  | 2, _ => rfl
  | 3, _ => rfl
theorem cx_misS (hs : s < 4) : mis (cw h T U V X) (42 + 2 * s) 0 = true := by simp only [mis, cw_x (q := 42 + 2 * s) (by omega), xC_sh hs, shC]; rfl
theorem cx_numbers (hs : s < 4) : mgf (cw h T U V X) (42 + 2 * s) 0 0 = some (.ref (43 + 2 * s)) := by simp only [mgf, cw_x (q := 42 + 2 * s) (by omega), xC_sh hs, shC]; rfl
theorem cx_bits (hs : s < 4) : mgf (cw h T U V X) (42 + 2 * s) 0 1 = some (.int (X (240 + 50 * s))) := by simp only [mgf, cw_x (q := 42 + 2 * s) (by omega), xC_sh hs, shC]; rfl
theorem cx_size (hs : s < 4) : mgf (cw h T U V X) (42 + 2 * s) 0 2 = some (.int (X (241 + 50 * s))) := by simp only [mgf, cw_x (q := 42 + 2 * s) (by omega), xC_sh hs, shC]; rfl
theorem cx_lnNum (hs : s < 4) : mlen (cw h T U V X) (43 + 2 * s) = some 40 := by simp only [mlen, cw_x (q := 43 + 2 * s) (by omega), xC_sn hs, shN]; rfl
theorem cx_ldNum (hs : s < 4) (hi : i < 40) : mld (cw h T U V X) (43 + 2 * s) (Int32.ofNat i) false = some (X (200 + 50 * s + i)) := by
  have e := iN_of (n := i) (by omega)
  have e0 : ¬ Int32.ofNat i < 0 := by rw [of_nn (by omega)]; exact id
  unfold iN at e
  simp only [mld, cw_x (q := 43 + 2 * s) (by omega), xC_sn hs, shN, if_neg e0, e]
  rw [if_pos hi, if_pos hi]; rfl
/-! writes -/
theorem cp_isKept : mpf (cw h T U V X) 0 5 3 (.int v) = some (cw h T U V (mfu X 0 v)) := by
  simp only [mpf, cw_x (Or.inl rfl), xC]
  exact congrArg some (cw_up (k := 0) (by unfold dX; omega) (by simp only [xC, fu_at]; rfl))
theorem cp_tlen : mpf (cw h T U V X) 38 1 1 (.int v) = some (cw h T U V (mfu X 1 v)) := by
  simp only [mpf, cw_x (q := 38) (by omega), xC]
  exact congrArg some (cw_up (k := 1) (by unfold dX; omega) (by simp only [xC, fu_at]; rfl))
theorem cp_token : mpf (cw h T U V X) 37 2 1 (.int v) = some (cw h T U V (mfu X 2 v)) := by
  simp only [mpf, cw_x (q := 37) (by omega), xC]
  exact congrArg some (cw_up (k := 2) (by unfold dX; omega) (by simp only [xC]; rfl))
theorem cp_start : mpf (cw h T U V X) 37 2 2 (.int v) = some (cw h T U V (mfu X 3 v)) := by
  simp only [mpf, cw_x (q := 37) (by omega), xC]
  exact congrArg some (cw_up (k := 3) (by unfold dX; omega) (by simp only [xC]; rfl))
theorem cp_end : mpf (cw h T U V X) 37 2 3 (.int v) = some (cw h T U V (mfu X 4 v)) := by
  simp only [mpf, cw_x (q := 37) (by omega), xC]
  exact congrArg some (cw_up (k := 4) (by unfold dX; omega) (by simp only [xC]; rfl))
theorem cp_number : mpf (cw h T U V X) 37 2 4 (.int v) = some (cw h T U V (mfu X 5 v)) := by
  simp only [mpf, cw_x (q := 37) (by omega), xC]
  exact congrArg some (cw_up (k := 5) (by unfold dX; omega) (by simp only [xC]; rfl))
theorem cl_up {f : Nat → Int32} {n o i : Nat} {v : Int32} (hi : i < n) : (fun k => if k < n then mfu f (o + i) v (o + k) else 0) = mfu (fun k => if k < n then f (o + k) else 0) i v := by
  funext k; unfold mfu
  by_cases e : k = i
  · subst e; rw [if_pos hi, if_pos rfl, if_pos rfl]
  · rw [if_neg e]
    show (if k < n then (if o + k = o + i then v else f (o + k)) else 0) = if k < n then f (o + k) else 0
    rw [if_neg (show ¬ o + k = o + i by omega)]
theorem cp_bytes (hi : i < 120) : mias (cw h T U V X) 39 (Int32.ofNat i) v = some (cw h T U V (mfu X (20 + i) v)) := by
  have e := iN_of (n := i) (by omega)
  have e0 : ¬ Int32.ofNat i < 0 := by rw [of_nn (by omega)]; exact id
  unfold iN at e
  simp only [mias, cw_x (q := 39) (by omega), xC, if_neg e0, e, if_pos hi]
  exact congrArg some (cw_up (k := 20 + i) (by unfold dX; omega) (by simp only [xC]; rw [cl_up hi]))
theorem cp_find (hi : i < 7) : mias (cw h T U V X) 41 (Int32.ofNat i) v = some (cw h T U V (mfu X (10 + i) v)) := by
  have e := iN_of (n := i) (by omega)
  have e0 : ¬ Int32.ofNat i < 0 := by rw [of_nn (by omega)]; exact id
  unfold iN at e
  simp only [mias, cw_x (q := 41) (by omega), xC, if_neg e0, e, if_pos hi]
  exact congrArg some (cw_up (k := 10 + i) (by unfold dX; omega) (by simp only [xC]; rw [cl_up hi]))
theorem cp_bits (hs : s < 4) : mpf (cw h T U V X) (42 + 2 * s) 0 1 (.int v) = some (cw h T U V (mfu X (240 + 50 * s) v)) := by
  simp only [mpf, cw_x (q := 42 + 2 * s) (by omega), xC_sh hs, shC]
  exact congrArg some (cw_up (k := 240 + 50 * s) (by unfold dX; omega) (by simp only [xC_sh hs, shC, fu_at]; rw [fu_ne (by omega)]; rfl))
theorem cp_size (hs : s < 4) : mpf (cw h T U V X) (42 + 2 * s) 0 2 (.int v) = some (cw h T U V (mfu X (241 + 50 * s) v)) := by
  simp only [mpf, cw_x (q := 42 + 2 * s) (by omega), xC_sh hs, shC]
  exact congrArg some (cw_up (k := 241 + 50 * s) (by unfold dX; omega) (by simp only [xC_sh hs, shC, fu_at]; rw [fu_ne (by omega)]; rfl))
theorem cp_num (hs : s < 4) (hi : i < 40) : mias (cw h T U V X) (43 + 2 * s) (Int32.ofNat i) v = some (cw h T U V (mfu X (200 + 50 * s + i) v)) := by
  have e := iN_of (n := i) (by omega)
  have e0 : ¬ Int32.ofNat i < 0 := by rw [of_nn (by omega)]; exact id
  unfold iN at e
  simp only [mias, cw_x (q := 43 + 2 * s) (by omega), xC_sn hs, shN, if_neg e0, e, if_pos hi]
  exact congrArg some (cw_up (k := 200 + 50 * s + i) (by unfold dX; omega) (by simp only [xC_sn hs, shN]; rw [cl_up hi]))
end
