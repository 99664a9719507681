/-! ===== the constructors: the class, the reference; the law from its entry ===== -/
def Z0 : TS := fun _ => 0
def Y0 : TS := fun k => if 140 ≤ k ∧ k < 144 then -1 else 0
section
variable {h g : MH} {a : MA} {b c d q n i m k p s : Nat} {o : List Value} {v v0 v1 v2 v3 v4 v5 v6 v7 : Value} {T : TS} {xs : List Int32}
theorem ob_st (hb : 0 < b) : setTub (obj g 0 5 o) b T = obj (setTub g b T) 0 5 o := by
  funext q
  unfold setTub obj mup
  (try dsimp only)
  by_cases e : q = 0
  · rw [if_neg (by omega), if_pos e, if_pos e]
  · rw [if_neg e, if_neg e]
def shG (g : MH) (s : Nat) : MH := fun q => if q = 40 then .inr (.inl (0, 4, fun j => if j < s then some (42 + 2 * j) else none)) else if 42 ≤ q ∧ q < 42 + 2 * s then (if (q - 42) % 2 = 0 then .inr (.inr (0, [.ref (q + 1), .int 0, .int 0])) else .inl (40, fun _ => 0)) else g q
theorem sh_0 (hg : g 40 = .inr (.inl (0, 4, fun _ => none))) : g = shG g 0 := by
  funext q
  unfold shG
  by_cases e : q = 40
  · rw [if_pos e, e, hg]; rfl
  · rw [if_neg e, if_neg (by omega)]
theorem sh_c : obj (shG g s) 0 5 o 40 = .inr (.inl (0, 4, fun j => if j < s then some (42 + 2 * j) else none)) := rfl
theorem sh_l : mlen (obj (shG g s) 0 5 o) 40 = some 4 := by unfold mlen; rw [sh_c]; rfl
theorem sh_st (hs : s < 4) : maas (obj (mup (obj (shG g s) 0 5 o) (42 + 2 * s + 1) (.inl (40, fun _ => 0))) (42 + 2 * s) 0 [.ref (42 + 2 * s + 1), .int 0, .int 0]) 40 (Int32.ofNat s) (42 + 2 * s) = some (obj (shG g (s + 1)) 0 5 o) := by
  have n0 : ¬ Int32.ofNat s < 0 := by rw [of_nn (by omega)]; exact id
  have nm : (Int32.ofNat s).toNatClampNeg = s := iN_of (by omega)
  have e2 : obj (mup (obj (shG g s) 0 5 o) (42 + 2 * s + 1) (.inl (40, fun _ => 0))) (42 + 2 * s) 0 [.ref (42 + 2 * s + 1), .int 0, .int 0] 40 = .inr (.inl (0, 4, fun j => if j < s then some (42 + 2 * j) else none)) := by
    rw [← sh_c (g := g) (s := s) (o := o)]
    unfold obj mup
    (try dsimp only)
    rw [if_neg (by omega), if_neg (by omega)]
  have e4 : mis (obj (mup (obj (shG g s) 0 5 o) (42 + 2 * s + 1) (.inl (40, fun _ => 0))) (42 + 2 * s) 0 [.ref (42 + 2 * s + 1), .int 0, .int 0]) (42 + 2 * s) 0 = true := by
    unfold mis obj mup; rw [if_pos rfl]; rfl
  unfold maas
  rw [e2]
  show (if _ then none else if _ then none else if _ then some _ else none) = _
  rw [if_neg (by decide), if_neg n0, nm, if_pos ⟨hs, e4⟩]
  congr 1
  funext q
  unfold obj mup shG
  (try dsimp only)
  by_cases e : q = 40
  · rw [if_pos e, if_neg (by omega), if_pos e]
    congr 4
    funext j
    unfold mfu
    (try dsimp only)
    by_cases e2 : j = s
    · rw [if_pos e2, if_pos (by omega), e2]
    · rw [if_neg e2]
      by_cases e3 : j < s
      · rw [if_pos e3, if_pos (by omega)]
      · rw [if_neg e3, if_neg (by omega)]
  rw [if_neg e]
  by_cases e0 : q = 42 + 2 * s
  · rw [if_pos e0, if_neg (by omega), if_neg e, if_pos (by omega), if_pos (by omega), e0]
  rw [if_neg e0]
  by_cases e1 : q = 42 + 2 * s + 1
  · rw [if_pos e1, if_neg (by omega), if_neg e, if_pos (by omega), if_neg (by omega)]
  rw [if_neg e1]
  by_cases e5 : q = 0
  · rw [if_pos e5, if_pos e5]
  rw [if_neg e5, if_neg e5, if_neg e, if_neg e]
  by_cases e6 : 42 ≤ q ∧ q < 42 + 2 * s
  · have e7 : 42 ≤ q ∧ q < 42 + 2 * (s + 1) := by omega
    rw [if_pos e6, if_pos e7]
  · have e7 : ¬ (42 ≤ q ∧ q < 42 + 2 * (s + 1)) := by omega
    rw [if_neg e6, if_neg e7]
abbrev O5 : List Value := [.ref 1, .ref 13, .ref 25, .int 0, .ref 37, .ref 38, .ref 40, .ref 41]
theorem o5_p0 : mpf (obj h 0 5 [v0, v1, v2, v3, v4, v5, v6, v7]) 0 5 0 v = some (obj h 0 5 [v, v1, v2, v3, v4, v5, v6, v7]) := ob_pf (by decide) (by show 0 < 8; decide)
theorem o5_p1 : mpf (obj h 0 5 [v0, v1, v2, v3, v4, v5, v6, v7]) 0 5 1 v = some (obj h 0 5 [v0, v, v2, v3, v4, v5, v6, v7]) := ob_pf (by decide) (by show 1 < 8; decide)
theorem o5_p2 : mpf (obj h 0 5 [v0, v1, v2, v3, v4, v5, v6, v7]) 0 5 2 v = some (obj h 0 5 [v0, v1, v, v3, v4, v5, v6, v7]) := ob_pf (by decide) (by show 2 < 8; decide)
theorem o5_p3 : mpf (obj h 0 5 [v0, v1, v2, v3, v4, v5, v6, v7]) 0 5 3 v = some (obj h 0 5 [v0, v1, v2, v, v4, v5, v6, v7]) := ob_pf (by decide) (by show 3 < 8; decide)
theorem o5_p4 : mpf (obj h 0 5 [v0, v1, v2, v3, v4, v5, v6, v7]) 0 5 4 v = some (obj h 0 5 [v0, v1, v2, v3, v, v5, v6, v7]) := ob_pf (by decide) (by show 4 < 8; decide)
theorem o5_p5 : mpf (obj h 0 5 [v0, v1, v2, v3, v4, v5, v6, v7]) 0 5 5 v = some (obj h 0 5 [v0, v1, v2, v3, v4, v, v6, v7]) := ob_pf (by decide) (by show 5 < 8; decide)
theorem o5_p6 : mpf (obj h 0 5 [v0, v1, v2, v3, v4, v5, v6, v7]) 0 5 6 v = some (obj h 0 5 [v0, v1, v2, v3, v4, v5, v, v7]) := ob_pf (by decide) (by show 6 < 8; decide)
theorem o5_p7 : mpf (obj h 0 5 [v0, v1, v2, v3, v4, v5, v6, v7]) 0 5 7 v = some (obj h 0 5 [v0, v1, v2, v3, v4, v5, v6, v]) := ob_pf (by decide) (by show 7 < 8; decide)
theorem o5_g4 : mgf (obj h 0 5 [v0, v1, v2, v3, v4, v5, v6, v7]) 0 5 4 = some v4 := ob_gf
theorem o5_g6 : mgf (obj h 0 5 [v0, v1, v2, v3, v4, v5, v6, v7]) 0 5 6 = some v6 := ob_gf
theorem o5_0 : mup h 0 (.inr (.inr (5, mdf 5))) = obj h 0 5 [.null, .null, .null, .int 0, .null, .null, .null, .null] := rfl
def G5 (h : MH) : MH := mup (mup (obj (obj (mup (setTub (setTub (setTub h 1 T0) 13 T0) 25 T0) 39 (.inl (120, fun _ => 0))) 38 1 [.ref 39, .int 0]) 37 2 [.ref 38, .int 0, .int 0, .int 0, .int 0]) 40 (.inr (.inl (0, 4, fun _ => none)))) 41 (.inl (7, fun _ => 0))
theorem soak_A : Rn 62 (0, [some (.ref 0), none], [], (1, 1, 8), mup h 0 (.inr (.inr (5, mdf 5)))) = Rn 62 (82, [some (.ref 0), some (.int (Int32.ofNat 0))], [], (42, 42, 440), obj (G5 h) 0 5 O5) := by
  have a1 := fun (x0 x1 : Option Value) (st : List Value) (h : MH) => r62_5 (x0 := x0) (x1 := x1) (st := st) (h := h) (b := 1) (c := 1) (d := 8) (by decide)
  have a2 := fun (x0 x1 : Option Value) (st : List Value) (h : MH) => r62_16 (x0 := x0) (x1 := x1) (st := st) (h := h) (b := 13) (c := 13) (d := 106) (by decide)
  have a3 := fun (x0 x1 : Option Value) (st : List Value) (h : MH) => r62_27 (x0 := x0) (x1 := x1) (st := st) (h := h) (b := 25) (c := 25) (d := 204) (by decide)
  have a4 := fun (x0 x1 : Option Value) (st : List Value) (h : MH) => r62_43 (x0 := x0) (x1 := x1) (st := st) (h := h) (b := 37) (c := 37) (d := 302) (by decide)
  have a6 := fun (x0 x1 : Option Value) (st : List Value) (h : MH) => r62_66 (x0 := x0) (x1 := x1) (st := st) (h := h) (i := 4) (b := 40) (c := 40) (d := 429) (by decide) (by decide) (by decide)
  have a7 := fun (x0 x1 : Option Value) (st : List Value) (h : MH) => r62_75 (x0 := x0) (x1 := x1) (st := st) (h := h) (i := 7) (b := 41) (c := 41) (d := 433) (by decide) (by decide) (by decide)
  have t1 := fun (h : MH) => tub_new (h := h) (b := 1) (c := 2) (d := 16) (by decide)
  have t2 := fun (h : MH) => tub_new (h := h) (b := 13) (c := 14) (d := 114) (by decide)
  have t3 := fun (h : MH) => tub_new (h := h) (b := 25) (c := 26) (d := 212) (by decide)
  have t4 := fun (h : MH) => reader_new (h := h) (b := 37) (c := 38) (d := 307) (by decide)
  simp only [n4, n7, Nat.reduceAdd] at a1 a2 a3 a4 a6 a7 t1 t2 t3 t4
  have g37 : ∀ (h : MH) (o : List Value) (w0 w1 w2 w3 w4 : Value), mgf (obj (obj h 37 2 [w0, w1, w2, w3, w4]) 0 5 o) 37 2 0 = some w0 := fun _ _ _ _ _ _ _ => rfl
  have m1 := fun (h : MH) (o : List Value) => ob_st (g := h) (b := 1) (o := o) (T := T0) (by decide)
  have m2 := fun (h : MH) (o : List Value) => ob_st (g := h) (b := 13) (o := o) (T := T0) (by decide)
  have m3 := fun (h : MH) (o : List Value) => ob_st (g := h) (b := 25) (o := o) (T := T0) (by decide)
  have m4 := fun (h : MH) (o : List Value) (x : MC) => ob_cm (h := h) (q := 0) (c := 5) (o := o) (p := 39) (x := x) (by decide)
  have m5 := fun (h : MH) (o : List Value) (y : List Value) => ob_cm (h := h) (q := 0) (c := 5) (o := o) (p := 38) (x := .inr (.inr (1, y))) (by decide)
  have m6 := fun (h : MH) (o : List Value) (y : List Value) => ob_cm (h := h) (q := 0) (c := 5) (o := o) (p := 37) (x := .inr (.inr (2, y))) (by decide)
  have m5 : ∀ (h : MH) (o y : List Value), obj (obj h 0 5 o) 38 1 y = obj (obj h 38 1 y) 0 5 o := m5
  have m6 : ∀ (h : MH) (o y : List Value), obj (obj h 0 5 o) 37 2 y = obj (obj h 37 2 y) 0 5 o := m6
  have m7 := fun (h : MH) (o : List Value) (x : MC) => ob_cm (h := h) (q := 0) (c := 5) (o := o) (p := 40) (x := x) (by decide)
  have m8 := fun (h : MH) (o : List Value) (x : MC) => ob_cm (h := h) (q := 0) (c := 5) (o := o) (p := 41) (x := x) (by decide)
  simp only [r62_0, r62_1, r62_4, r62_8, r62_9, r62_12, r62_15, r62_19, r62_20, r62_23, r62_26, r62_30, r62_31, r62_34, r62_37, r62_38, r62_39, r62_42, r62_46, r62_47, r62_50, r62_53, r62_54, r62_55, r62_58, r62_61, r62_64, r62_65, r62_69, r62_72, r62_73, r62_77, r62_80, r62_81, r62_83, r62_84, r62_87, r62_88, r62_91, r62_92, r62_95, r62_99, r62_100, r62_103, r62_104, r62_107, r62_110, Nl_none, Nl_int, Nl_ref, Nl_null, Kv_some, Ki_some, Kh_some, Bk_some, Bk_void, ↓reduceIte, mrt10, mrt11, zl2, zl3, zl4, zl8, Bool.false_eq_true, o5_0, o5_p0, o5_p1, o5_p2, o5_p3, o5_p4, o5_p5, o5_p6, o5_p7, o5_g4, g37, mok10, a1, a2, a3, a4, a6, a7, t1, t2, t3, t4, m1, m2, m3, m4, m5, m6, m7, m8]
  rfl
theorem soak_B : ∀ r s, s + r = 4 → Rn 62 (82, [some (.ref 0), some (.int (Int32.ofNat s))], [], (42 + 2 * s, c + 2 * s, d + 43 * s), obj (shG g s) 0 5 O5) = some (none, (42 + 2 * 4, c + 2 * 4, d + 43 * 4), obj (shG g 4) 0 5 O5) := by
  intro r
  induction r with
  | zero =>
    intro s e
    have e : s = 4 := e
    subst e
    have lt : (Int32.ofNat 4 < 4) = False := by decide
    simp only [r62_0, r62_1, r62_4, r62_8, r62_9, r62_12, r62_15, r62_19, r62_20, r62_23, r62_26, r62_30, r62_31, r62_34, r62_37, r62_38, r62_39, r62_42, r62_46, r62_47, r62_50, r62_53, r62_54, r62_55, r62_58, r62_61, r62_64, r62_65, r62_69, r62_72, r62_73, r62_77, r62_80, r62_81, r62_82, r62_83, r62_84, r62_87, r62_88, r62_91, r62_92, r62_95, r62_99, r62_100, r62_103, r62_104, r62_107, r62_110, Nl_none, Nl_int, Nl_ref, Nl_null, Kv_some, Ki_some, Kh_some, Bk_some, Bk_void, ↓reduceIte, mrt10, mrt11, zl2, zl3, zl4, zl8, Bool.false_eq_true, o5_g6, sh_l, lt]
  | succ r ih =>
    intro s e
    rw [← ih (s + 1) (by omega)]
    have lt : (Int32.ofNat s < 4) = True := ltT (m := 4) (by omega) (by decide)
    have a1 := fun (x0 x1 : Option Value) (st : List Value) (h : MH) => r62_96 (x0 := x0) (x1 := x1) (st := st) (h := h) (b := 42 + 2 * s) (c := c + 2 * s) (d := d + 43 * s) (by omega)
    have t1 := fun (h : MH) => sheet_new (h := h) (b := 42 + 2 * s) (c := c + 2 * s + 1) (d := d + 43 * s + 3) (by omega)
    have g0 : Rn 62 (82, [some (.ref 0), some (.int (Int32.ofNat s))], [], (42 + 2 * s, c + 2 * s, d + 43 * s), obj (shG g s) 0 5 O5) = Rn 62 (104, [some (.ref 0), some (.int (Int32.ofNat s))], [], (42 + 2 * s + 2, c + 2 * s + 1 + 1, d + 43 * s + 3 + 40), obj (shG g (s + 1)) 0 5 O5) := by
      simp only [r62_0, r62_1, r62_4, r62_8, r62_9, r62_12, r62_15, r62_19, r62_20, r62_23, r62_26, r62_30, r62_31, r62_34, r62_37, r62_38, r62_39, r62_42, r62_46, r62_47, r62_50, r62_53, r62_54, r62_55, r62_58, r62_61, r62_64, r62_65, r62_69, r62_72, r62_73, r62_77, r62_80, r62_81, r62_82, r62_83, r62_84, r62_87, r62_88, r62_91, r62_92, r62_95, r62_99, r62_100, r62_103, r62_107, r62_110, Nl_none, Nl_int, Nl_ref, Nl_null, Kv_some, Ki_some, Kh_some, Bk_some, Bk_void, ↓reduceIte, mrt10, mrt11, zl2, zl3, zl4, zl8, Bool.false_eq_true, o5_g6, sh_l, lt, a1, t1, sh_st (show s < 4 by omega)]
    rw [g0]
    simp only [r62_104, r62_107, Nl_none, Nl_int, Nl_ref, Nl_null, Kv_some, Ki_some, Kh_some, Bk_some, Bk_void, ↓reduceIte, mrt10, mrt11, zl2, zl3, zl4, zl8, Bool.false_eq_true, of_in]
    have e1 : 42 + 2 * s + 2 = 42 + 2 * (s + 1) := by omega
    have e2 : c + 2 * s + 1 + 1 = c + 2 * (s + 1) := by omega
    have e3 : d + 43 * s + 3 + 40 = d + 43 * (s + 1) := by omega
    rw [e1, e2, e3]
theorem soak_new : Ec 62 [.ref 0] (1, 1, 8) (mup h 0 (.inr (.inr (5, mdf 5)))) = some (none, (50, 50, 612), obj (shG (G5 h) 4) 0 5 O5) := by
  rw [Ec_go rfl]; show Rn 62 (0, [some (.ref 0), none], [], (1, 1, 8), mup h 0 (.inr (.inr (5, mdf 5)))) = _
  have e : G5 h = shG (G5 h) 0 := sh_0 rfl
  have B := soak_B (c := 42) (d := 440) (g := G5 h) 4 0 rfl
  rw [← e] at B
  rw [soak_A]
  exact B
theorem soak_w : obj (shG (G5 h) 4) 0 5 O5 = cw h T0 T0 T0 Z0 := by
  funext q
  by_cases e : q = 0 ∨ (37 ≤ q ∧ q < 50)
  · rw [cw_x e]
    have c : q = 0 ∨ q = 37 ∨ q = 38 ∨ q = 39 ∨ q = 40 ∨ q = 41 ∨ q = 42 ∨ q = 43 ∨ q = 44 ∨ q = 45 ∨ q = 46 ∨ q = 47 ∨ q = 48 ∨ q = 49 := by omega
    have sn : ∀ s, shN Z0 s = (.inl (40, fun _ => 0) : MC) := fun s => congrArg (fun z => (.inl (40, z) : MC)) (funext fun i => by
      show (if _ then (0 : Int32) else 0) = 0
      split <;> rfl)
    rcases c with rfl | rfl | rfl | rfl | rfl | rfl | rfl | rfl | rfl | rfl | rfl | rfl | rfl | rfl
    · rfl
    · rfl
    · rfl
    · refine congrArg (fun z => (.inl (120, z) : MC)) (funext fun i => ?_)
      show 0 = (if _ then (0 : Int32) else 0)
      split <;> rfl
    · rfl
    · refine congrArg (fun z => (.inl (7, z) : MC)) (funext fun i => ?_)
      show 0 = (if _ then (0 : Int32) else 0)
      split <;> rfl
    · rfl
    · exact (sn 0).symm
    · rfl
    · exact (sn 1).symm
    · rfl
    · exact (sn 2).symm
    · rfl
    · exact (sn 3).symm
  · have l : obj (shG (G5 h) 4) 0 5 O5 q = setTub (setTub (setTub h 1 T0) 13 T0) 25 T0 q := by
      unfold obj mup shG
      (try dsimp only)
      rw [if_neg (by omega), if_neg (by omega), if_neg (by omega)]
      unfold G5 obj mup
      (try dsimp only)
      rw [if_neg (by omega), if_neg (by omega), if_neg (by omega), if_neg (by omega), if_neg (by omega)]
    rw [l]
    unfold cw
    have z : setX h Z0 q = h q := if_neg e
    unfold setTub
    rw [z]
/-! the reference -/
abbrev O6 : List Value := [.ref 51, .ref 52, .ref 53, .ref 54, .int 0, .ref 55, .ref 56, .int 0, .ref 57, .ref 58, .ref 59, .int 0, .int 0, .int 0, .int 0, .int 0, .int 0, .int 0]
def H6 (h : MH) : MH := mup (mup (mup (mup (mup (mup (mup (mup (mup h 51 (.inl (86, fun _ => 0))) 52 (.inl (86, fun _ => 0))) 53 (.inl (86, fun _ => 0))) 54 (.inl (86, fun _ => 0))) 55 (.inl (8, fun _ => 0))) 56 (.inl (120, fun _ => 0))) 57 (.inl (4, mfu (mfu (mfu (mfu (fun _ => 0) 0 (-1)) 1 (-1)) 2 (-1)) 3 (-1)))) 58 (.inl (4, fun _ => 0))) 59 (.inl (160, fun _ => 0))
theorem ob_ias {f : Nat → Int32} {x : Int32} (hp : p ≠ q) (hi : i < n) (h31 : i < 2147483648) : mias (obj (mup h p (.inl (n, f))) q c o) p (Int32.ofNat i) x = some (obj (mup h p (.inl (n, mfu f i x))) q c o) := by
  have n0 : ¬ Int32.ofNat i < 0 := by rw [of_nn h31]; exact id
  have nm : (Int32.ofNat i).toNatClampNeg = i := iN_of h31
  have e : obj (mup h p (.inl (n, f))) q c o p = .inl (n, f) := by unfold obj mup; (try dsimp only); rw [if_neg hp, if_pos rfl]
  unfold mias
  rw [e]
  show (if _ then none else if _ then some _ else none) = _
  rw [if_neg n0, nm, if_pos hi, ob_cm hp, mup_2]
theorem h6_w : obj (H6 h) 50 6 O6 = mw h Z0 Z0 Z0 Z0 Y0 := by
  have zz : ∀ (n : Nat), (fun _ => 0 : Nat → Int32) = fun i => if i < n then (0 : Int32) else 0 := fun n => funext fun i => by split <;> rfl
  funext q
  by_cases e : 50 ≤ q ∧ q < 60
  · rw [mw_at e]
    have c : q = 50 ∨ q = 51 ∨ q = 52 ∨ q = 53 ∨ q = 54 ∨ q = 55 ∨ q = 56 ∨ q = 57 ∨ q = 58 ∨ q = 59 := by omega
    rcases c with rfl | rfl | rfl | rfl | rfl | rfl | rfl | rfl | rfl | rfl
    · rfl
    · exact congrArg (fun z => (.inl (86, z) : MC)) (zz 86)
    · exact congrArg (fun z => (.inl (86, z) : MC)) (zz 86)
    · exact congrArg (fun z => (.inl (86, z) : MC)) (zz 86)
    · exact congrArg (fun z => (.inl (86, z) : MC)) (zz 86)
    · refine congrArg (fun z => (.inl (8, z) : MC)) (funext fun i => ?_)
      show 0 = (if i < 8 then Y0 (10 + i) else 0)
      by_cases r : i < 8
      · rw [if_pos r]; unfold Y0; rw [if_neg (by omega)]
      · rw [if_neg r]
    · refine congrArg (fun z => (.inl (120, z) : MC)) (funext fun i => ?_)
      show 0 = (if i < 120 then Y0 (20 + i) else 0)
      by_cases r : i < 120
      · rw [if_pos r]; unfold Y0; rw [if_neg (by omega)]
      · rw [if_neg r]
    · refine congrArg (fun z => (.inl (4, z) : MC)) (funext fun i => ?_)
      show mfu (mfu (mfu (mfu (fun _ => 0) 0 (-1)) 1 (-1)) 2 (-1)) 3 (-1) i = (if i < 4 then Y0 (140 + i) else 0)
      by_cases r : i < 4
      · have c : i = 0 ∨ i = 1 ∨ i = 2 ∨ i = 3 := by omega
        rcases c with rfl | rfl | rfl | rfl <;> rfl
      · rw [if_neg r, fu_ne (by omega), fu_ne (by omega), fu_ne (by omega), fu_ne (by omega)]
    · refine congrArg (fun z => (.inl (4, z) : MC)) (funext fun i => ?_)
      show 0 = (if i < 4 then Y0 (144 + i) else 0)
      by_cases r : i < 4
      · rw [if_pos r]; unfold Y0; rw [if_neg (by omega)]
      · rw [if_neg r]
    · refine congrArg (fun z => (.inl (160, z) : MC)) (funext fun i => ?_)
      show 0 = (if i < 160 then Y0 (150 + i) else 0)
      by_cases r : i < 160
      · rw [if_pos r]; unfold Y0; rw [if_neg (by omega)]
      · rw [if_neg r]
  · rw [mw_off (by omega)]
    unfold H6 obj mup
    (try dsimp only)
    rw [if_neg (by omega), if_neg (by omega), if_neg (by omega), if_neg (by omega), if_neg (by omega), if_neg (by omega), if_neg (by omega), if_neg (by omega), if_neg (by omega), if_neg (by omega)]
theorem o6_p0 {w0 w1 w2 w3 w4 w5 w6 w7 w8 w9 w10 w11 w12 w13 w14 w15 w16 w17 : Value} : mpf (obj h 50 6 [w0, w1, w2, w3, w4, w5, w6, w7, w8, w9, w10, w11, w12, w13, w14, w15, w16, w17]) 50 6 0 v = some (obj h 50 6 [v, w1, w2, w3, w4, w5, w6, w7, w8, w9, w10, w11, w12, w13, w14, w15, w16, w17]) := ob_pf (by decide) (by show 0 < 18; decide)
theorem o6_p1 {w0 w1 w2 w3 w4 w5 w6 w7 w8 w9 w10 w11 w12 w13 w14 w15 w16 w17 : Value} : mpf (obj h 50 6 [w0, w1, w2, w3, w4, w5, w6, w7, w8, w9, w10, w11, w12, w13, w14, w15, w16, w17]) 50 6 1 v = some (obj h 50 6 [w0, v, w2, w3, w4, w5, w6, w7, w8, w9, w10, w11, w12, w13, w14, w15, w16, w17]) := ob_pf (by decide) (by show 1 < 18; decide)
theorem o6_p2 {w0 w1 w2 w3 w4 w5 w6 w7 w8 w9 w10 w11 w12 w13 w14 w15 w16 w17 : Value} : mpf (obj h 50 6 [w0, w1, w2, w3, w4, w5, w6, w7, w8, w9, w10, w11, w12, w13, w14, w15, w16, w17]) 50 6 2 v = some (obj h 50 6 [w0, w1, v, w3, w4, w5, w6, w7, w8, w9, w10, w11, w12, w13, w14, w15, w16, w17]) := ob_pf (by decide) (by show 2 < 18; decide)
theorem o6_p3 {w0 w1 w2 w3 w4 w5 w6 w7 w8 w9 w10 w11 w12 w13 w14 w15 w16 w17 : Value} : mpf (obj h 50 6 [w0, w1, w2, w3, w4, w5, w6, w7, w8, w9, w10, w11, w12, w13, w14, w15, w16, w17]) 50 6 3 v = some (obj h 50 6 [w0, w1, w2, v, w4, w5, w6, w7, w8, w9, w10, w11, w12, w13, w14, w15, w16, w17]) := ob_pf (by decide) (by show 3 < 18; decide)
theorem o6_p5 {w0 w1 w2 w3 w4 w5 w6 w7 w8 w9 w10 w11 w12 w13 w14 w15 w16 w17 : Value} : mpf (obj h 50 6 [w0, w1, w2, w3, w4, w5, w6, w7, w8, w9, w10, w11, w12, w13, w14, w15, w16, w17]) 50 6 5 v = some (obj h 50 6 [w0, w1, w2, w3, w4, v, w6, w7, w8, w9, w10, w11, w12, w13, w14, w15, w16, w17]) := ob_pf (by decide) (by show 5 < 18; decide)
theorem o6_p6 {w0 w1 w2 w3 w4 w5 w6 w7 w8 w9 w10 w11 w12 w13 w14 w15 w16 w17 : Value} : mpf (obj h 50 6 [w0, w1, w2, w3, w4, w5, w6, w7, w8, w9, w10, w11, w12, w13, w14, w15, w16, w17]) 50 6 6 v = some (obj h 50 6 [w0, w1, w2, w3, w4, w5, v, w7, w8, w9, w10, w11, w12, w13, w14, w15, w16, w17]) := ob_pf (by decide) (by show 6 < 18; decide)
theorem o6_p8 {w0 w1 w2 w3 w4 w5 w6 w7 w8 w9 w10 w11 w12 w13 w14 w15 w16 w17 : Value} : mpf (obj h 50 6 [w0, w1, w2, w3, w4, w5, w6, w7, w8, w9, w10, w11, w12, w13, w14, w15, w16, w17]) 50 6 8 v = some (obj h 50 6 [w0, w1, w2, w3, w4, w5, w6, w7, v, w9, w10, w11, w12, w13, w14, w15, w16, w17]) := ob_pf (by decide) (by show 8 < 18; decide)
theorem o6_p9 {w0 w1 w2 w3 w4 w5 w6 w7 w8 w9 w10 w11 w12 w13 w14 w15 w16 w17 : Value} : mpf (obj h 50 6 [w0, w1, w2, w3, w4, w5, w6, w7, w8, w9, w10, w11, w12, w13, w14, w15, w16, w17]) 50 6 9 v = some (obj h 50 6 [w0, w1, w2, w3, w4, w5, w6, w7, w8, v, w10, w11, w12, w13, w14, w15, w16, w17]) := ob_pf (by decide) (by show 9 < 18; decide)
theorem o6_p10 {w0 w1 w2 w3 w4 w5 w6 w7 w8 w9 w10 w11 w12 w13 w14 w15 w16 w17 : Value} : mpf (obj h 50 6 [w0, w1, w2, w3, w4, w5, w6, w7, w8, w9, w10, w11, w12, w13, w14, w15, w16, w17]) 50 6 10 v = some (obj h 50 6 [w0, w1, w2, w3, w4, w5, w6, w7, w8, w9, v, w11, w12, w13, w14, w15, w16, w17]) := ob_pf (by decide) (by show 10 < 18; decide)
theorem o6_0 : mup h 50 (.inr (.inr (6, mdf 6))) = obj h 50 6 [.null, .null, .null, .null, .int 0, .null, .null, .int 0, .null, .null, .null, .int 0, .int 0, .int 0, .int 0, .int 0, .int 0, .int 0] := rfl
def Sm (m : Nat) : TS := fun k => if k = 2 ∨ k = 3 then 1 else if 76 ≤ k ∧ k < 76 + m then -1 else 0
theorem sm_0 : mfu (mfu Z0 2 1) 3 1 = Sm 0 := by
  funext k
  unfold mfu Sm Z0
  (try dsimp only)
  by_cases e3 : k = 3
  · rw [if_pos e3, if_pos (Or.inr e3)]
  rw [if_neg e3]
  by_cases e2 : k = 2
  · rw [if_pos e2, if_pos (Or.inl e2)]
  · rw [if_neg e2, if_neg (by omega), if_neg (by omega)]
theorem sm_s : mfu (Sm m) (76 + m) (-1) = Sm (m + 1) := by
  funext k
  unfold mfu Sm
  (try dsimp only)
  by_cases e : k = 76 + m
  · rw [if_pos e, if_neg (by omega), if_pos (by omega)]
  rw [if_neg e]
  by_cases e2 : k = 2 ∨ k = 3
  · rw [if_pos e2, if_pos e2]
  rw [if_neg e2, if_neg e2]
  by_cases e3 : 76 ≤ k ∧ k < 76 + m
  · rw [if_pos e3, if_pos (by omega)]
  · rw [if_neg e3, if_neg (by omega)]
theorem model_A : Rn 122 (0, [some (.ref 50), none], [], (51, 51, 630), mup h 50 (.inr (.inr (6, mdf 6)))) = Rn 122 (91, [some (.ref 50), none], [], (60, 60, 1270), mw h Z0 Z0 Z0 Z0 Y0) := by
  have a0 := fun (x0 x1 : Option Value) (st : List Value) (h : MH) => r122_7 (x0 := x0) (x1 := x1) (st := st) (h := h) (i := 86) (b := 51) (c := 51) (d := 630) (by decide) (by decide) (by decide)
  have m0 := fun (h : MH) (o : List Value) (x : MC) => ob_cm (h := h) (q := 50) (c := 6) (o := o) (p := 51) (x := x) (by decide)
  have a1 := fun (x0 x1 : Option Value) (st : List Value) (h : MH) => r122_15 (x0 := x0) (x1 := x1) (st := st) (h := h) (i := 86) (b := 52) (c := 52) (d := 716) (by decide) (by decide) (by decide)
  have m1 := fun (h : MH) (o : List Value) (x : MC) => ob_cm (h := h) (q := 50) (c := 6) (o := o) (p := 52) (x := x) (by decide)
  have a2 := fun (x0 x1 : Option Value) (st : List Value) (h : MH) => r122_23 (x0 := x0) (x1 := x1) (st := st) (h := h) (i := 86) (b := 53) (c := 53) (d := 802) (by decide) (by decide) (by decide)
  have m2 := fun (h : MH) (o : List Value) (x : MC) => ob_cm (h := h) (q := 50) (c := 6) (o := o) (p := 53) (x := x) (by decide)
  have a3 := fun (x0 x1 : Option Value) (st : List Value) (h : MH) => r122_31 (x0 := x0) (x1 := x1) (st := st) (h := h) (i := 86) (b := 54) (c := 54) (d := 888) (by decide) (by decide) (by decide)
  have m3 := fun (h : MH) (o : List Value) (x : MC) => ob_cm (h := h) (q := 50) (c := 6) (o := o) (p := 54) (x := x) (by decide)
  have a4 := fun (x0 x1 : Option Value) (st : List Value) (h : MH) => r122_39 (x0 := x0) (x1 := x1) (st := st) (h := h) (i := 8) (b := 55) (c := 55) (d := 974) (by decide) (by decide) (by decide)
  have m4 := fun (h : MH) (o : List Value) (x : MC) => ob_cm (h := h) (q := 50) (c := 6) (o := o) (p := 55) (x := x) (by decide)
  have a5 := fun (x0 x1 : Option Value) (st : List Value) (h : MH) => r122_47 (x0 := x0) (x1 := x1) (st := st) (h := h) (i := 120) (b := 56) (c := 56) (d := 982) (by decide) (by decide) (by decide)
  have m5 := fun (h : MH) (o : List Value) (x : MC) => ob_cm (h := h) (q := 50) (c := 6) (o := o) (p := 56) (x := x) (by decide)
  have a6 := fun (x0 x1 : Option Value) (st : List Value) (h : MH) => r122_54 (x0 := x0) (x1 := x1) (st := st) (h := h) (i := 4) (b := 57) (c := 57) (d := 1102) (by decide) (by decide) (by decide)
  have m6 := fun (h : MH) (o : List Value) (x : MC) => ob_cm (h := h) (q := 50) (c := 6) (o := o) (p := 57) (x := x) (by decide)
  have a7 := fun (x0 x1 : Option Value) (st : List Value) (h : MH) => r122_77 (x0 := x0) (x1 := x1) (st := st) (h := h) (i := 4) (b := 58) (c := 58) (d := 1106) (by decide) (by decide) (by decide)
  have m7 := fun (h : MH) (o : List Value) (x : MC) => ob_cm (h := h) (q := 50) (c := 6) (o := o) (p := 58) (x := x) (by decide)
  have a8 := fun (x0 x1 : Option Value) (st : List Value) (h : MH) => r122_86 (x0 := x0) (x1 := x1) (st := st) (h := h) (i := 160) (b := 59) (c := 59) (d := 1110) (by decide) (by decide) (by decide)
  have m8 := fun (h : MH) (o : List Value) (x : MC) => ob_cm (h := h) (q := 50) (c := 6) (o := o) (p := 59) (x := x) (by decide)
  simp only [n86, n8, n120, n4, n160, Nat.reduceAdd] at a0 a1 a2 a3 a4 a5 a6 a7 a8
  have i0 := fun (h : MH) (o : List Value) (f : Nat → Int32) => ob_ias (h := h) (q := 50) (c := 6) (o := o) (p := 57) (n := 4) (f := f) (i := 0) (x := -1) (by decide) (by decide) (by decide)
  have i0 : ∀ (h : MH) (o : List Value) (f : Nat → Int32), mias (obj (mup h 57 (.inl (4, f))) 50 6 o) 57 0 (-1) = some (obj (mup h 57 (.inl (4, mfu f 0 (-1)))) 50 6 o) := i0
  have i1 := fun (h : MH) (o : List Value) (f : Nat → Int32) => ob_ias (h := h) (q := 50) (c := 6) (o := o) (p := 57) (n := 4) (f := f) (i := 1) (x := -1) (by decide) (by decide) (by decide)
  have i1 : ∀ (h : MH) (o : List Value) (f : Nat → Int32), mias (obj (mup h 57 (.inl (4, f))) 50 6 o) 57 1 (-1) = some (obj (mup h 57 (.inl (4, mfu f 1 (-1)))) 50 6 o) := i1
  have i2 := fun (h : MH) (o : List Value) (f : Nat → Int32) => ob_ias (h := h) (q := 50) (c := 6) (o := o) (p := 57) (n := 4) (f := f) (i := 2) (x := -1) (by decide) (by decide) (by decide)
  have i2 : ∀ (h : MH) (o : List Value) (f : Nat → Int32), mias (obj (mup h 57 (.inl (4, f))) 50 6 o) 57 2 (-1) = some (obj (mup h 57 (.inl (4, mfu f 2 (-1)))) 50 6 o) := i2
  have i3 := fun (h : MH) (o : List Value) (f : Nat → Int32) => ob_ias (h := h) (q := 50) (c := 6) (o := o) (p := 57) (n := 4) (f := f) (i := 3) (x := -1) (by decide) (by decide) (by decide)
  have i3 : ∀ (h : MH) (o : List Value) (f : Nat → Int32), mias (obj (mup h 57 (.inl (4, f))) 50 6 o) 57 3 (-1) = some (obj (mup h 57 (.inl (4, mfu f 3 (-1)))) 50 6 o) := i3
  simp only [r122_0, r122_1, r122_4, r122_5, r122_9, r122_12, r122_13, r122_17, r122_20, r122_21, r122_25, r122_28, r122_29, r122_33, r122_36, r122_37, r122_41, r122_44, r122_45, r122_49, r122_52, r122_53, r122_56, r122_57, r122_58, r122_59, r122_60, r122_61, r122_62, r122_63, r122_64, r122_65, r122_66, r122_67, r122_68, r122_69, r122_70, r122_71, r122_72, r122_75, r122_76, r122_79, r122_82, r122_83, r122_88, r122_92, r122_95, r122_96, r122_97, r122_98, r122_99, r122_102, r122_103, r122_104, r122_105, r122_106, r122_107, r122_108, r122_110, r122_113, r122_114, r122_117, r122_119, r122_120, r122_121, r122_122, r122_123, r122_126, r122_129, Nl_none, Nl_int, Nl_ref, Nl_null, Kv_some, Ki_some, Kh_some, Bk_some, Bk_void, ↓reduceIte, mrt10, mrt11, zl2, zl3, zl4, zl8, Bool.false_eq_true, o6_0, o6_p0, o6_p1, o6_p2, o6_p3, o6_p5, o6_p6, o6_p8, o6_p9, o6_p10, a0, a1, a2, a3, a4, a5, a6, a7, a8, m0, m1, m2, m3, m4, m5, m6, m7, m8, i0, i1, i2, i3]
  rw [← h6_w]
  rfl
theorem model_B : ∀ r m, m + r = 10 → Rn 122 (107, [some (.ref 50), some (.int (Int32.ofNat m))], [], a, mw h (Sm m) Z0 Z0 Z0 Y0) = some (none, a, mw h T0 Z0 Z0 Z0 Y0) := by
  intro r
  induction r with
  | zero =>
    intro m e
    have e : m = 10 := e
    subst e
    have lt : (Int32.ofNat 10 < 10) = False := by decide
    have f : Sm 10 = T0 := rfl
    simp only [r122_0, r122_1, r122_4, r122_5, r122_9, r122_12, r122_13, r122_17, r122_20, r122_21, r122_25, r122_28, r122_29, r122_33, r122_36, r122_37, r122_41, r122_44, r122_45, r122_49, r122_52, r122_53, r122_56, r122_57, r122_58, r122_59, r122_60, r122_61, r122_62, r122_63, r122_64, r122_65, r122_66, r122_67, r122_68, r122_69, r122_70, r122_71, r122_72, r122_75, r122_76, r122_79, r122_82, r122_83, r122_88, r122_91, r122_92, r122_95, r122_96, r122_97, r122_98, r122_99, r122_102, r122_103, r122_104, r122_105, r122_106, r122_107, r122_108, r122_110, r122_113, r122_114, r122_117, r122_119, r122_120, r122_121, r122_122, r122_123, r122_126, r122_129, Nl_none, Nl_int, Nl_ref, Nl_null, Kv_some, Ki_some, Kh_some, Bk_some, Bk_void, ↓reduceIte, mrt10, mrt11, zl2, zl3, zl4, zl8, Bool.false_eq_true, lt, f]
  | succ r ih =>
    intro m e
    rw [← ih (m + 1) (by omega)]
    have lt : (Int32.ofNat m < 10) = True := ltT (m := 10) (by omega) (by decide)
    have e6 : (76 : Int32) + Int32.ofNat m = Int32.ofNat (76 + m) := of_add 76 m
    have g0 : Rn 122 (107, [some (.ref 50), some (.int (Int32.ofNat m))], [], a, mw h (Sm m) Z0 Z0 Z0 Y0) = Rn 122 (123, [some (.ref 50), some (.int (Int32.ofNat m))], [], a, mw h (Sm (m + 1)) Z0 Z0 Z0 Y0) := by
      simp only [r122_0, r122_1, r122_4, r122_5, r122_9, r122_12, r122_13, r122_17, r122_20, r122_21, r122_25, r122_28, r122_29, r122_33, r122_36, r122_37, r122_41, r122_44, r122_45, r122_49, r122_52, r122_53, r122_56, r122_57, r122_58, r122_59, r122_60, r122_61, r122_62, r122_63, r122_64, r122_65, r122_66, r122_67, r122_68, r122_69, r122_70, r122_71, r122_72, r122_75, r122_76, r122_79, r122_82, r122_83, r122_88, r122_91, r122_92, r122_95, r122_96, r122_97, r122_98, r122_99, r122_102, r122_103, r122_104, r122_105, r122_106, r122_107, r122_108, r122_110, r122_113, r122_114, r122_117, r122_119, r122_120, r122_121, r122_122, r122_126, r122_129, Nl_none, Nl_int, Nl_ref, Nl_null, Kv_some, Ki_some, Kh_some, Bk_some, Bk_void, ↓reduceIte, mrt10, mrt11, zl2, zl3, zl4, zl8, Bool.false_eq_true, my_s, lt, e6, mp_s (show 76 + m < 86 by omega), sm_s]
    rw [g0]
    simp only [r122_123, r122_126, Nl_none, Nl_int, Nl_ref, Nl_null, Kv_some, Ki_some, Kh_some, Bk_some, Bk_void, ↓reduceIte, mrt10, mrt11, zl2, zl3, zl4, zl8, Bool.false_eq_true, of_in]
theorem model_new : Ec 122 [.ref 50] (51, 51, 630) (mup h 50 (.inr (.inr (6, mdf 6)))) = some (none, (60, 60, 1270), mw h T0 Z0 Z0 Z0 Y0) := by
  rw [Ec_go rfl]; show Rn 122 (0, [some (.ref 50), none], [], (51, 51, 630), mup h 50 (.inr (.inr (6, mdf 6)))) = _
  rw [model_A]
  have B := model_B (h := h) (a := (60, 60, 1270)) 10 0 rfl
  have g0 : Rn 122 (91, [some (.ref 50), none], [], (60, 60, 1270), mw h Z0 Z0 Z0 Z0 Y0) = Rn 122 (107, [some (.ref 50), some (.int (Int32.ofNat 0))], [], (60, 60, 1270), mw h (Sm 0) Z0 Z0 Z0 Y0) := by
    simp only [r122_0, r122_1, r122_4, r122_5, r122_9, r122_12, r122_13, r122_17, r122_20, r122_21, r122_25, r122_28, r122_29, r122_33, r122_36, r122_37, r122_41, r122_44, r122_45, r122_49, r122_52, r122_53, r122_56, r122_57, r122_58, r122_59, r122_60, r122_61, r122_62, r122_63, r122_64, r122_65, r122_66, r122_67, r122_68, r122_69, r122_70, r122_71, r122_72, r122_75, r122_76, r122_79, r122_82, r122_83, r122_88, r122_91, r122_92, r122_95, r122_96, r122_97, r122_98, r122_99, r122_102, r122_103, r122_104, r122_105, r122_106, r122_108, r122_110, r122_113, r122_114, r122_117, r122_119, r122_120, r122_121, r122_122, r122_123, r122_126, r122_129, Nl_none, Nl_int, Nl_ref, Nl_null, Kv_some, Ki_some, Kh_some, Bk_some, Bk_void, ↓reduceIte, mrt10, mrt11, zl2, zl3, zl4, zl8, Bool.false_eq_true, my_s, mp_2, mp_3, sm_0]
    rfl
  rw [g0, B]
/-! the law from its entry -/
theorem rel_0 : Rel 0 0 T0 T0 Z0 T0 Z0 Y0 := by
  have tz : ∀ k, k ≠ 2 → k ≠ 3 → ¬ (76 ≤ k ∧ k < 86) → T0 k = 0 := fun k h1 h2 h3 => by unfold T0; rw [if_neg (by omega), if_neg h3]
  have yz : ∀ k, ¬ (140 ≤ k ∧ k < 144) → Y0 k = 0 := fun k h => if_neg h
  have e0 : (0 : Int32).toInt = 0 := by decide
  have e1 : (1 : Int32).toInt = 1 := by decide
  have em : (-1 : Int32).toInt = -1 := by decide
  refine ⟨⟨⟨by omega, rfl, rfl, fun k k0 hk => ⟨rfl, ?_⟩⟩, rfl, by decide⟩, Or.inl ⟨rfl, rfl⟩, ⟨rfl, fun i hi => ?_⟩, ⟨0, by omega, rfl, rfl, fun i hi => absurd hi (by omega)⟩, fun s hs => ⟨Or.inl ⟨rfl, ?_⟩, 0, by omega, rfl, ?_, fun i hi => ?_⟩⟩
  · unfold vsb at hk
    by_cases a : k = 2 ∨ k = 3
    · have : T0 k = 1 := if_pos a
      rw [this, e1]
      rcases a with rfl | rfl
      · exact ⟨by decide, by decide⟩
      · exact ⟨by decide, by decide⟩
    by_cases b : 76 ≤ k ∧ k < 86
    · have : T0 k = -1 := by unfold T0; rw [if_neg a, if_pos b]
      rw [this, em]
      unfold loB hiB
      rw [if_neg (by omega), if_pos (by omega), if_neg (by omega), if_neg (by omega), if_neg (by omega), if_neg (by omega), if_neg (by omega)]
      exact ⟨by omega, by omega⟩
    · rw [tz k (by omega) (by omega) b, e0]
      unfold loB hiB
      rw [if_neg (by omega), if_neg (by omega)]
      refine ⟨by omega, ?_⟩
      by_cases c : k = 1
      · rw [if_pos c]; omega
      · rw [if_neg c, if_neg (by omega), if_neg (by omega), if_pos (by omega)]; omega
  · rw [yz _ (by omega)]; rfl
  · exact if_pos (by omega)
  · rw [yz _ (by omega)]; rfl
  · rw [yz _ (by omega)]; rfl
theorem law_all (hx : xs.length ≤ 3072) : ∃ h', Rn 236 (0, [some (.ref 1200), none, none, none], [], (0, 0, 0), outc xs) = some (some (.int 1), (60, 60, 1270), h') := by
  have a1 := fun (x0 x1 x2 x3 : Option Value) (st : List Value) (h : MH) => r236_0 (x0 := x0) (x1 := x1) (x2 := x2) (x3 := x3) (st := st) (h := h) (b := 0) (c := 0) (d := 0) (by decide)
  have a2 := fun (x0 x1 x2 x3 : Option Value) (st : List Value) (h : MH) => r236_8 (x0 := x0) (x1 := x1) (x2 := x2) (x3 := x3) (st := st) (h := h) (b := 50) (c := 50) (d := 612) (by decide)
  simp only [Nat.reduceAdd] at a1 a2
  have w : mw (cw (outc xs) T0 T0 T0 Z0) T0 Z0 Z0 Z0 Y0 = Wd xs T0 T0 T0 Z0 T0 Z0 Z0 Z0 Y0 := wd_cm.symm
  have st : Rn 236 (0, [some (.ref 1200), none, none, none], [], (0, 0, 0), outc xs) = Rn 236 (18, LL (Int32.ofNat (6 * 0)), [], (60, 60, 1270), Wd xs T0 T0 T0 Z0 T0 Z0 Z0 Z0 Y0) := by
    simp only [a1, r236_3, r236_4, r236_7, a2, r236_11, r236_12, r236_15, r236_16, r236_17, Nl_none, Nl_int, Nl_ref, Nl_null, Kv_some, Ki_some, Kh_some, Bk_some, Bk_void, ↓reduceIte, mrt10, mrt11, zl2, zl3, zl4, zl8, Bool.false_eq_true, soak_new, model_new, soak_w, w]
    rfl
  obtain ⟨h', e⟩ := law_loop (xs := xs) (a := (60, 60, 1270)) hx (xs.length / 6) 0 0 T0 T0 T0 Z0 T0 Z0 Z0 Z0 Y0 (by omega) (by omega) rel_0
  exact ⟨h', st.trans e⟩
end
