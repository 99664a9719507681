/-! ===== the constructors: a Tub, a Sheet, a Tape, a TextReader ===== -/
def obj (h : MH) (q c : Nat) (o : List Value) : MH := mup h q (.inr (.inr (c, o)))
section
variable {h : MH} {a : MA} {b c d q n i m k p : Nat} {o : List Value} {v v0 v1 v2 v3 v4 v5 v6 v7 : Value}
theorem ob_pf (hc : c < 7) (hk : k < o.length) : mpf (obj h q c o) q c k v = some (obj h q c (o.set k v)) := by
  have e : obj h q c o q = .inr (.inr (c, o)) := if_pos rfl
  unfold mpf
  rw [e]
  show (if _ then _ else _) = _
  rw [if_pos ⟨rfl, hc, hk⟩]
  congr 1
  funext j
  unfold obj mup
  by_cases e : j = q
  · rw [if_pos e, if_pos e]
  · rw [if_neg e, if_neg e, if_neg e]
theorem ob_gf : mgf (obj h q c o) q c k = o[k]? := by
  have e : obj h q c o q = .inr (.inr (c, o)) := if_pos rfl
  unfold mgf
  rw [e]
  exact if_pos rfl
theorem ob_cm {x : MC} (hp : p ≠ q) : mup (obj h q c o) p x = obj (mup h p x) q c o := by
  funext j
  unfold obj mup
  by_cases e : j = p
  · rw [if_pos e, if_neg (by omega), if_pos e]
  · rw [if_neg e]
    by_cases e2 : j = q
    · rw [if_pos e2, if_pos e2]
    · rw [if_neg e2, if_neg e2, if_neg e]
theorem mup_2 {x y : MC} : mup (mup h q x) q y = mup h q y := by
  funext j
  unfold mup
  by_cases e : j = q
  · rw [if_pos e, if_pos e]
  · rw [if_neg e, if_neg e, if_neg e]
def tbG (h : MH) (b : Nat) (o : List Value) (n i m : Nat) : MH := fun q => if q = b then .inr (.inr (4, o)) else if q = b + 1 ∧ 1 ≤ n then .inl (24, fun _ => 0) else if q = b + 2 ∧ 2 ≤ n then .inr (.inl (3, 8, fun j => if j < i then some (b + 4 + j) else none)) else if q = b + 3 ∧ 3 ≤ n then .inl (10, fun j => if j < m then -1 else 0) else if b + 4 ≤ q ∧ q < b + 4 + i then .inr (.inr (3, mdf 3)) else h q
theorem tg_0 : mup h b (.inr (.inr (4, mdf 4))) = tbG h b [.null, .null, .null, .int 0, .int 0, .int 0, .int 0, .int 0] 0 0 0 := by
  funext q
  unfold mup tbG
  by_cases e : q = b
  · rw [if_pos e, if_pos e]; rfl
  · rw [if_neg e, if_neg e, if_neg (by omega), if_neg (by omega), if_neg (by omega), if_neg (by omega)]
theorem tg_1 : mup (tbG h b o 0 0 0) (b + 1) (.inl (24, fun _ => 0)) = tbG h b o 1 0 0 := by
  funext q
  unfold mup tbG
  repeat' split
  all_goals first | rfl | (exfalso; omega)
theorem tg_2 : mup (tbG h b o 1 0 0) (b + 2) (.inr (.inl (3, 8, fun _ => none))) = tbG h b o 2 0 0 := by
  funext q
  unfold mup tbG
  repeat' split
  all_goals first | rfl | (exfalso; omega)
theorem tg_3 : mup (tbG h b o 2 0 0) (b + 3) (.inl (10, fun _ => 0)) = tbG h b o 3 0 0 := by
  funext q
  unfold mup tbG
  repeat' split
  all_goals first | rfl | (exfalso; omega)
theorem tg_pf (hk : k < o.length) : mpf (tbG h b o n i m) b 4 k v = some (tbG h b (o.set k v) n i m) := by
  have e : tbG h b o n i m b = .inr (.inr (4, o)) := if_pos rfl
  unfold mpf
  rw [e]
  show (if _ then _ else _) = _
  rw [if_pos ⟨rfl, by decide, hk⟩]
  congr 1
  funext j
  unfold tbG mup
  dsimp only
  by_cases e : j = b
  · rw [if_pos e, if_pos e]
  · rw [if_neg e, if_neg e, if_neg e]
theorem tg_gf : mgf (tbG h b o n i m) b 4 k = o[k]? := by
  have e : tbG h b o n i m b = .inr (.inr (4, o)) := if_pos rfl
  unfold mgf
  rw [e]
  exact if_pos rfl
theorem tg_c2 : tbG h b o 3 i m (b + 2) = .inr (.inl (3, 8, fun j => if j < i then some (b + 4 + j) else none)) := by
  unfold tbG; rw [if_neg (by omega), if_neg (by omega), if_pos ⟨rfl, by omega⟩]
theorem tg_c3 : tbG h b o 3 i m (b + 3) = .inl (10, fun j => if j < m then -1 else 0) := by
  unfold tbG; rw [if_neg (by omega), if_neg (by omega), if_neg (by omega), if_pos ⟨rfl, by omega⟩]
theorem tg_l2 : mlen (tbG h b o 3 i m) (b + 2) = some 8 := by unfold mlen; rw [tg_c2]; rfl
theorem tg_l3 : mlen (tbG h b o 3 i m) (b + 3) = some 10 := by unfold mlen; rw [tg_c3]; rfl
theorem tg_sp (hm : m < 10) : mias (tbG h b o 3 i m) (b + 3) (Int32.ofNat m) (-1) = some (tbG h b o 3 i (m + 1)) := by
  have n0 : ¬ Int32.ofNat m < 0 := by rw [of_nn (by omega)]; exact id
  have nm : (Int32.ofNat m).toNatClampNeg = m := iN_of (by omega)
  unfold mias
  rw [tg_c3]
  show (if _ then none else if _ then some _ else none) = _
  rw [if_neg n0, nm, if_pos hm]
  congr 1
  funext q
  unfold mup
  by_cases e : q = b + 3
  · rw [if_pos e, e, tg_c3]
    congr 2
    funext j
    unfold mfu
    dsimp only
    by_cases e2 : j = m
    · rw [if_pos e2, if_pos (by omega)]
    · rw [if_neg e2]
      by_cases e3 : j < m
      · rw [if_pos e3, if_pos (by omega)]
      · rw [if_neg e3, if_neg (by omega)]
  · rw [if_neg e]
    unfold tbG
    have a1 : ¬ (q = b + 3 ∧ 3 ≤ 3) := by omega
    rw [if_neg a1, if_neg a1]
theorem tg_th (hi : i < 8) : maas (mup (tbG h b o 3 i m) (b + 4 + i) (.inr (.inr (3, mdf 3)))) (b + 2) (Int32.ofNat i) (b + 4 + i) = some (tbG h b o 3 (i + 1) m) := by
  have n0 : ¬ Int32.ofNat i < 0 := by rw [of_nn (by omega)]; exact id
  have nm : (Int32.ofNat i).toNatClampNeg = i := iN_of (by omega)
  have e2 : mup (tbG h b o 3 i m) (b + 4 + i) (.inr (.inr (3, mdf 3))) (b + 2) = .inr (.inl (3, 8, fun j => if j < i then some (b + 4 + j) else none)) := by
    unfold mup; rw [if_neg (by omega), tg_c2]
  have e4 : mis (mup (tbG h b o 3 i m) (b + 4 + i) (.inr (.inr (3, mdf 3)))) (b + 4 + i) 3 = true := by
    unfold mis mup; rw [if_pos rfl]; rfl
  unfold maas
  rw [e2]
  show (if _ then none else if _ then none else if _ then some _ else none) = _
  rw [if_neg (by decide), if_neg n0, nm, if_pos ⟨hi, e4⟩]
  congr 1
  funext q
  show mup (mup _ _ _) _ _ q = _
  unfold mup
  by_cases e : q = b + 2
  · rw [if_pos e, e, tg_c2]
    congr 4
    funext j
    unfold mfu
    dsimp only
    by_cases e2 : j = i
    · rw [if_pos e2, if_pos (by omega), e2]
    · rw [if_neg e2]
      by_cases e3 : j < i
      · rw [if_pos e3, if_pos (by omega)]
      · rw [if_neg e3, if_neg (by omega)]
  · rw [if_neg e]
    by_cases e5 : q = b + 4 + i
    · rw [if_pos e5]
      unfold tbG
      rw [if_neg (by omega), if_neg (by omega), if_neg (by omega), if_neg (by omega), if_pos (by omega)]
    · rw [if_neg e5]
      unfold tbG
      have a1 : ¬ (q = b + 2 ∧ 2 ≤ 3) := by omega
      have a2 : (b + 4 ≤ q ∧ q < b + 4 + i) = (b + 4 ≤ q ∧ q < b + 4 + (i + 1)) := by
        apply propext
        omega
      simp only [if_neg a1, a2]
/-- a new Tub's numbers -/
def T0 : TS := fun k => if k = 2 ∨ k = 3 then 1 else if 76 ≤ k ∧ k < 86 then -1 else 0
theorem tg_end : tbG h b [.ref (b + 1), .ref (b + 2), .ref (b + 3), .int 0, .int 1, .int 0, .int 1, .int 0] 3 8 10 = setTub h b T0 := by
  have z : ∀ k, k ≠ 2 → k ≠ 3 → ¬ (76 ≤ k ∧ k < 86) → T0 k = 0 := fun k h1 h2 h3 => by unfold T0; rw [if_neg (by omega), if_neg h3]
  funext q
  by_cases e0 : q = b
  · rw [e0, st_0]; exact if_pos rfl
  by_cases e1 : q = b + 1
  · rw [e1, st_at _ _ _ 1 (by omega)]
    unfold tbG
    rw [if_neg (by omega), if_pos ⟨rfl, by omega⟩]
    refine congrArg (fun z => (.inl (24, z) : MC)) (funext fun j => ?_)
    by_cases r : j < 24
    · rw [if_pos r, z _ (by omega) (by omega) (by omega)]
    · rw [if_neg r]
  by_cases e2 : q = b + 2
  · rw [e2, tg_c2, st_at _ _ _ 2 (by omega)]; rfl
  by_cases e3 : q = b + 3
  · rw [e3, tg_c3, st_at _ _ _ 3 (by omega)]
    refine congrArg (fun z => (.inl (10, z) : MC)) (funext fun j => ?_)
    by_cases r : j < 10
    · rw [if_pos r, if_pos r]; unfold T0; rw [if_neg (by omega), if_pos (by omega)]
    · rw [if_neg r, if_neg r]
  by_cases e4 : b + 4 ≤ q ∧ q < b + 4 + 8
  · have e5 : q = b + 4 + (q - b - 4) := by omega
    have ht : q - b - 4 < 8 := by omega
    have r : setTub h b T0 q = tubC b T0 (q - b - 4 + 4) := by rw [← st_thing (h := h) (b := b) (T := T0) ht, ← e5]
    rw [r]
    unfold tbG
    rw [if_neg e0, if_neg (by omega), if_neg (by omega), if_neg (by omega), if_pos e4]
    show _ = (.inr (.inr (3, [.int (T0 _), .int (T0 _), .int (T0 _), .int (T0 _), .int (T0 _), .int (T0 _)])) : MC)
    rw [z _ (by omega) (by omega) (by omega), z _ (by omega) (by omega) (by omega), z _ (by omega) (by omega) (by omega), z _ (by omega) (by omega) (by omega), z _ (by omega) (by omega) (by omega), z _ (by omega) (by omega) (by omega)]
    rfl
  · rw [st_off _ _ _ _ (by omega)]
    unfold tbG
    rw [if_neg e0, if_neg (by omega), if_neg (by omega), if_neg (by omega), if_neg e4]
theorem n24 : (24 : Int32).toNatClampNeg = 24 := by decide
theorem n8 : (8 : Int32).toNatClampNeg = 8 := by decide
theorem n10 : (10 : Int32).toNatClampNeg = 10 := by decide
theorem n40 : (40 : Int32).toNatClampNeg = 40 := by decide
theorem n120 : (120 : Int32).toNatClampNeg = 120 := by decide
theorem n4 : (4 : Int32).toNatClampNeg = 4 := by decide
theorem n7 : (7 : Int32).toNatClampNeg = 7 := by decide
theorem n86 : (86 : Int32).toNatClampNeg = 86 := by decide
theorem n160 : (160 : Int32).toNatClampNeg = 160 := by decide
theorem tg_p0 : mpf (tbG h b [v0, v1, v2, v3, v4, v5, v6, v7] n i m) b 4 0 v = some (tbG h b [v, v1, v2, v3, v4, v5, v6, v7] n i m) := tg_pf (by show 0 < 8; decide)
theorem tg_p1 : mpf (tbG h b [v0, v1, v2, v3, v4, v5, v6, v7] n i m) b 4 1 v = some (tbG h b [v0, v, v2, v3, v4, v5, v6, v7] n i m) := tg_pf (by show 1 < 8; decide)
theorem tg_p2 : mpf (tbG h b [v0, v1, v2, v3, v4, v5, v6, v7] n i m) b 4 2 v = some (tbG h b [v0, v1, v, v3, v4, v5, v6, v7] n i m) := tg_pf (by show 2 < 8; decide)
theorem tg_p3 : mpf (tbG h b [v0, v1, v2, v3, v4, v5, v6, v7] n i m) b 4 3 v = some (tbG h b [v0, v1, v2, v, v4, v5, v6, v7] n i m) := tg_pf (by show 3 < 8; decide)
theorem tg_p4 : mpf (tbG h b [v0, v1, v2, v3, v4, v5, v6, v7] n i m) b 4 4 v = some (tbG h b [v0, v1, v2, v3, v, v5, v6, v7] n i m) := tg_pf (by show 4 < 8; decide)
theorem tg_p5 : mpf (tbG h b [v0, v1, v2, v3, v4, v5, v6, v7] n i m) b 4 5 v = some (tbG h b [v0, v1, v2, v3, v4, v, v6, v7] n i m) := tg_pf (by show 5 < 8; decide)
theorem tg_p6 : mpf (tbG h b [v0, v1, v2, v3, v4, v5, v6, v7] n i m) b 4 6 v = some (tbG h b [v0, v1, v2, v3, v4, v5, v, v7] n i m) := tg_pf (by show 6 < 8; decide)
theorem tg_p7 : mpf (tbG h b [v0, v1, v2, v3, v4, v5, v6, v7] n i m) b 4 7 v = some (tbG h b [v0, v1, v2, v3, v4, v5, v6, v] n i m) := tg_pf (by show 7 < 8; decide)
theorem tg_g1 : mgf (tbG h b [v0, v1, v2, v3, v4, v5, v6, v7] n i m) b 4 1 = some v1 := tg_gf
theorem tg_g2 : mgf (tbG h b [v0, v1, v2, v3, v4, v5, v6, v7] n i m) b 4 2 = some v2 := tg_gf
theorem e_thingI : Ec 26 [.ref q] a h = some (none, a, h) := by
  rw [Ec_go rfl]; show Rn 26 (0, [some (.ref q)], [], a, h) = _
  simp only [r26_0, r26_1, r26_4, Nl_none, Nl_int, Nl_ref, Nl_null, Kv_some, Ki_some, Kh_some, Bk_some, Bk_void, ↓reduceIte, mrt10, mrt11, zl2, zl3, zl4, zl8, Bool.false_eq_true]
abbrev OO (b : Nat) : List Value := [.ref (b + 1), .ref (b + 2), .ref (b + 3), .int 0, .int 1, .int 0, .int 1, .int 0]
theorem tub_A (hb : b < 900) : Rn 34 (0, [some (.ref b), none], [], (b + 1, c, d), mup h b (.inr (.inr (4, mdf 4)))) = Rn 34 (56, [some (.ref b), some (.int (Int32.ofNat 0))], [], (b + 4, c + 3, d + 42), tbG h b (OO b) 3 0 0) := by
  have a1 := fun (x0 x1 : Option Value) (st : List Value) (h : MH) => r34_7 (x0 := x0) (x1 := x1) (st := st) (h := h) (i := 24) (b := b + 1) (c := c) (d := d) (by decide) (by decide) (by omega)
  have a2 := fun (x0 x1 : Option Value) (st : List Value) (h : MH) => r34_15 (x0 := x0) (x1 := x1) (st := st) (h := h) (i := 8) (b := b + 2) (c := c + 1) (d := d + 24) (by decide) (by decide) (by omega)
  have a3 := fun (x0 x1 : Option Value) (st : List Value) (h : MH) => r34_24 (x0 := x0) (x1 := x1) (st := st) (h := h) (i := 10) (b := b + 3) (c := c + 2) (d := d + 32) (by decide) (by decide) (by omega)
  simp only [n24, n8, n10, Nat.add_assoc, Nat.reduceAdd] at a1 a2 a3
  simp only [r34_0, r34_1, r34_4, r34_5, r34_9, r34_12, r34_13, r34_18, r34_21, r34_22, r34_26, r34_29, r34_30, r34_31, r34_34, r34_35, r34_36, r34_39, r34_40, r34_41, r34_44, r34_45, r34_46, r34_49, r34_50, r34_51, r34_54, r34_55, r34_57, r34_58, r34_61, r34_62, r34_65, r34_66, r34_69, r34_73, r34_74, r34_77, r34_78, r34_81, r34_84, r34_85, r34_86, r34_87, r34_88, r34_91, r34_92, r34_95, r34_96, r34_99, r34_100, r34_101, r34_102, r34_105, r34_108, Nl_none, Nl_int, Nl_ref, Nl_null, Kv_some, Ki_some, Kh_some, Bk_some, Bk_void, ↓reduceIte, mrt10, mrt11, zl2, zl3, zl4, zl8, Bool.false_eq_true, tg_0, a1, a2, a3, tg_1, tg_2, tg_3, tg_p0, tg_p1, tg_p2, tg_p3, tg_p4, tg_p5, tg_p6, tg_p7]
  rfl
theorem tub_B (hb : b < 900) : ∀ r i, i + r = 8 → Rn 34 (56, [some (.ref b), some (.int (Int32.ofNat i))], [], (b + 4 + i, c + i, d + 6 * i), tbG h b (OO b) 3 i 0) = Rn 34 (84, [some (.ref b), some (.int (Int32.ofNat 8))], [], (b + 4 + 8, c + 8, d + 6 * 8), tbG h b (OO b) 3 8 0) := by
  intro r
  induction r with
  | zero =>
    intro i e
    have e : i = 8 := e
    subst e
    have lt : (Int32.ofNat 8 < 8) = False := by decide
    simp only [r34_0, r34_1, r34_4, r34_5, r34_9, r34_12, r34_13, r34_18, r34_21, r34_22, r34_26, r34_29, r34_30, r34_31, r34_34, r34_35, r34_36, r34_39, r34_40, r34_41, r34_44, r34_45, r34_46, r34_49, r34_50, r34_51, r34_54, r34_55, r34_56, r34_57, r34_58, r34_61, r34_62, r34_65, r34_66, r34_69, r34_73, r34_74, r34_77, r34_78, r34_81, r34_85, r34_86, r34_87, r34_88, r34_91, r34_92, r34_95, r34_96, r34_99, r34_100, r34_101, r34_102, r34_105, r34_108, Nl_none, Nl_int, Nl_ref, Nl_null, Kv_some, Ki_some, Kh_some, Bk_some, Bk_void, ↓reduceIte, mrt10, mrt11, zl2, zl3, zl4, zl8, Bool.false_eq_true, tg_g1, tg_l2, lt]
  | succ r ih =>
    intro i e
    rw [← ih (i + 1) (by omega)]
    have lt : (Int32.ofNat i < 8) = True := ltT (m := 8) (by omega) (by decide)
    have a4 := fun (x0 x1 : Option Value) (st : List Value) (h : MH) => r34_70 (x0 := x0) (x1 := x1) (st := st) (h := h) (b := b + 4 + i) (c := c + i) (d := d + 6 * i) (by omega)
    have st : Rn 34 (56, [some (.ref b), some (.int (Int32.ofNat i))], [], (b + 4 + i, c + i, d + 6 * i), tbG h b (OO b) 3 i 0) = Rn 34 (111 - 55, [some (.ref b), some (.int (Int32.ofNat i + 1))], [], (b + 4 + i + 1, c + i + 1, d + 6 * i + 6), tbG h b (OO b) 3 (i + 1) 0) := by
      have g0 : Rn 34 (56, [some (.ref b), some (.int (Int32.ofNat i))], [], (b + 4 + i, c + i, d + 6 * i), tbG h b (OO b) 3 i 0) = Rn 34 (78, [some (.ref b), some (.int (Int32.ofNat i))], [], (b + 4 + i + 1, c + i + 1, d + 6 * i + 6), tbG h b (OO b) 3 (i + 1) 0) := by
        simp only [r34_0, r34_1, r34_4, r34_5, r34_9, r34_12, r34_13, r34_18, r34_21, r34_22, r34_26, r34_29, r34_30, r34_31, r34_34, r34_35, r34_36, r34_39, r34_40, r34_41, r34_44, r34_45, r34_46, r34_49, r34_50, r34_51, r34_54, r34_55, r34_56, r34_57, r34_58, r34_61, r34_62, r34_65, r34_66, r34_69, r34_73, r34_74, r34_77, r34_81, r34_84, r34_85, r34_86, r34_87, r34_88, r34_91, r34_92, r34_95, r34_96, r34_99, r34_100, r34_101, r34_102, r34_105, r34_108, Nl_none, Nl_int, Nl_ref, Nl_null, Kv_some, Ki_some, Kh_some, Bk_some, Bk_void, ↓reduceIte, mrt10, mrt11, zl2, zl3, zl4, zl8, Bool.false_eq_true, tg_g1, tg_l2, lt, a4, e_thingI, tg_th (show i < 8 by omega)]
      rw [g0]
      simp only [r34_78, r34_81, Nl_none, Nl_int, Nl_ref, Nl_null, Kv_some, Ki_some, Kh_some, Bk_some, Bk_void, ↓reduceIte, mrt10, mrt11, zl2, zl3, zl4, zl8, Bool.false_eq_true]
    rw [st, of_in]
    rfl
theorem tub_C : ∀ r m, m + r = 10 → Rn 34 (86, [some (.ref b), some (.int (Int32.ofNat m))], [], a, tbG h b (OO b) 3 8 m) = some (none, a, tbG h b (OO b) 3 8 10) := by
  intro r
  induction r with
  | zero =>
    intro m e
    have e : m = 10 := e
    subst e
    have lt : (Int32.ofNat 10 < 10) = False := by decide
    simp only [r34_0, r34_1, r34_4, r34_5, r34_9, r34_12, r34_13, r34_18, r34_21, r34_22, r34_26, r34_29, r34_30, r34_31, r34_34, r34_35, r34_36, r34_39, r34_40, r34_41, r34_44, r34_45, r34_46, r34_49, r34_50, r34_51, r34_54, r34_55, r34_56, r34_57, r34_58, r34_61, r34_62, r34_65, r34_66, r34_69, r34_73, r34_74, r34_77, r34_78, r34_81, r34_84, r34_85, r34_86, r34_87, r34_88, r34_91, r34_92, r34_95, r34_96, r34_99, r34_100, r34_101, r34_102, r34_105, r34_108, Nl_none, Nl_int, Nl_ref, Nl_null, Kv_some, Ki_some, Kh_some, Bk_some, Bk_void, ↓reduceIte, mrt10, mrt11, zl2, zl3, zl4, zl8, Bool.false_eq_true, tg_g2, tg_l3, lt]
  | succ r ih =>
    intro m e
    rw [← ih (m + 1) (by omega)]
    have lt : (Int32.ofNat m < 10) = True := ltT (m := 10) (by omega) (by decide)
    have g0 : Rn 34 (86, [some (.ref b), some (.int (Int32.ofNat m))], [], a, tbG h b (OO b) 3 8 m) = Rn 34 (102, [some (.ref b), some (.int (Int32.ofNat m))], [], a, tbG h b (OO b) 3 8 (m + 1)) := by
      simp only [r34_0, r34_1, r34_4, r34_5, r34_9, r34_12, r34_13, r34_18, r34_21, r34_22, r34_26, r34_29, r34_30, r34_31, r34_34, r34_35, r34_36, r34_39, r34_40, r34_41, r34_44, r34_45, r34_46, r34_49, r34_50, r34_51, r34_54, r34_55, r34_56, r34_57, r34_58, r34_61, r34_62, r34_65, r34_66, r34_69, r34_73, r34_74, r34_77, r34_78, r34_81, r34_84, r34_85, r34_86, r34_87, r34_88, r34_91, r34_92, r34_95, r34_96, r34_99, r34_100, r34_101, r34_105, r34_108, Nl_none, Nl_int, Nl_ref, Nl_null, Kv_some, Ki_some, Kh_some, Bk_some, Bk_void, ↓reduceIte, mrt10, mrt11, zl2, zl3, zl4, zl8, Bool.false_eq_true, tg_g2, tg_l3, lt, tg_sp (show m < 10 by omega)]
    rw [g0]
    simp only [r34_102, r34_105, Nl_none, Nl_int, Nl_ref, Nl_null, Kv_some, Ki_some, Kh_some, Bk_some, Bk_void, ↓reduceIte, mrt10, mrt11, zl2, zl3, zl4, zl8, Bool.false_eq_true, of_in]
/-- a new Tub, behind 'new' -/
theorem tub_new (hb : b < 900) : Ec 34 [.ref b] (b + 1, c, d) (mup h b (.inr (.inr (4, mdf 4)))) = some (none, (b + 12, c + 11, d + 90), setTub h b T0) := by
  rw [Ec_go rfl]; show Rn 34 (0, [some (.ref b), none], [], (b + 1, c, d), mup h b (.inr (.inr (4, mdf 4)))) = _
  rw [tub_A hb]
  have B := tub_B (h := h) (c := c + 3) (d := d + 42) hb 8 0 rfl
  have B : Rn 34 (56, [some (.ref b), some (.int (Int32.ofNat 0))], [], (b + 4, c + 3, d + 42), tbG h b (OO b) 3 0 0) = _ := B
  rw [B]
  have C := tub_C (h := h) (b := b) (a := (b + 4 + 8, c + 3 + 8, d + 42 + 6 * 8)) 10 0 rfl
  have g0 : Rn 34 (84, [some (.ref b), some (.int (Int32.ofNat 8))], [], (b + 4 + 8, c + 3 + 8, d + 42 + 6 * 8), tbG h b (OO b) 3 8 0) = Rn 34 (86, [some (.ref b), some (.int (Int32.ofNat 0))], [], (b + 4 + 8, c + 3 + 8, d + 42 + 6 * 8), tbG h b (OO b) 3 8 0) := by
    simp only [r34_84, r34_85, Nl_none, Nl_int, Nl_ref, Nl_null, Kv_some, Ki_some, Kh_some, Bk_some, Bk_void, ↓reduceIte, mrt10, mrt11, zl2, zl3, zl4, zl8, Bool.false_eq_true]
    rfl
  rw [g0, C, tg_end]
theorem sheet_new (hb : b < 900) : Ec 0 [.ref b] (b + 1, c, d) (mup h b (.inr (.inr (0, mdf 0)))) = some (none, (b + 2, c + 1, d + 40), obj (mup h (b + 1) (.inl (40, fun _ => 0))) b 0 [.ref (b + 1), .int 0, .int 0]) := by
  have a1 := fun (x0 : Option Value) (st : List Value) (h : MH) => r0_7 (x0 := x0) (st := st) (h := h) (i := 40) (b := b + 1) (c := c) (d := d) (by decide) (by decide) (by omega)
  have cm := fun (o : List Value) (x : MC) => ob_cm (h := h) (q := b) (c := 0) (o := o) (p := b + 1) (x := x) (by omega)
  have e0 : mup h b (.inr (.inr (0, mdf 0))) = obj h b 0 [.null, .int 0, .int 0] := rfl
  have p0 := fun (h : MH) (v0 v1 v2 v : Value) => ob_pf (h := h) (q := b) (c := 0) (o := [v0, v1, v2]) (k := 0) (v := v) (by decide) (by show 0 < 3; decide)
  have p1 := fun (h : MH) (v0 v1 v2 v : Value) => ob_pf (h := h) (q := b) (c := 0) (o := [v0, v1, v2]) (k := 1) (v := v) (by decide) (by show 1 < 3; decide)
  have p2 := fun (h : MH) (v0 v1 v2 v : Value) => ob_pf (h := h) (q := b) (c := 0) (o := [v0, v1, v2]) (k := 2) (v := v) (by decide) (by show 2 < 3; decide)
  simp only [List.set] at p0 p1 p2
  simp only [n40, Nat.add_assoc, Nat.reduceAdd] at a1
  rw [Ec_go rfl]; show Rn 0 (0, [some (.ref b)], [], (b + 1, c, d), mup h b (.inr (.inr (0, mdf 0)))) = _
  simp only [r0_0, r0_1, r0_4, r0_5, r0_9, r0_12, r0_13, r0_14, r0_17, r0_18, r0_19, r0_22, Nl_none, Nl_int, Nl_ref, Nl_null, Kv_some, Ki_some, Kh_some, Bk_some, Bk_void, ↓reduceIte, mrt10, mrt11, zl2, zl3, zl4, zl8, Bool.false_eq_true, e0, a1, cm, p0, p1, p2]
theorem tape_new (hb : b < 900) : Ec 8 [.ref b] (b + 1, c, d) (mup h b (.inr (.inr (1, mdf 1)))) = some (none, (b + 2, c + 1, d + 120), obj (mup h (b + 1) (.inl (120, fun _ => 0))) b 1 [.ref (b + 1), .int 0]) := by
  have a1 := fun (x0 : Option Value) (st : List Value) (h : MH) => r8_7 (x0 := x0) (st := st) (h := h) (i := 120) (b := b + 1) (c := c) (d := d) (by decide) (by decide) (by omega)
  have cm := fun (o : List Value) (x : MC) => ob_cm (h := h) (q := b) (c := 1) (o := o) (p := b + 1) (x := x) (by omega)
  have e0 : mup h b (.inr (.inr (1, mdf 1))) = obj h b 1 [.null, .int 0] := rfl
  have p0 := fun (h : MH) (v0 v1 v : Value) => ob_pf (h := h) (q := b) (c := 1) (o := [v0, v1]) (k := 0) (v := v) (by decide) (by show 0 < 2; decide)
  have p1 := fun (h : MH) (v0 v1 v : Value) => ob_pf (h := h) (q := b) (c := 1) (o := [v0, v1]) (k := 1) (v := v) (by decide) (by show 1 < 2; decide)
  simp only [List.set] at p0 p1
  simp only [n120, Nat.add_assoc, Nat.reduceAdd] at a1
  rw [Ec_go rfl]; show Rn 8 (0, [some (.ref b)], [], (b + 1, c, d), mup h b (.inr (.inr (1, mdf 1)))) = _
  simp only [r8_0, r8_1, r8_4, r8_5, r8_9, r8_12, r8_13, r8_14, r8_17, Nl_none, Nl_int, Nl_ref, Nl_null, Kv_some, Ki_some, Kh_some, Bk_some, Bk_void, ↓reduceIte, mrt10, mrt11, zl2, zl3, zl4, zl8, Bool.false_eq_true, e0, a1, cm, p0, p1]
theorem reader_new (hb : b < 899) : Ec 11 [.ref b] (b + 1, c, d) (mup h b (.inr (.inr (2, mdf 2)))) = some (none, (b + 3, c + 2, d + 122), obj (obj (mup h (b + 2) (.inl (120, fun _ => 0))) (b + 1) 1 [.ref (b + 2), .int 0]) b 2 [.ref (b + 1), .int 0, .int 0, .int 0, .int 0]) := by
  have e0 : mup h b (.inr (.inr (2, mdf 2))) = obj h b 2 [.null, .int 0, .int 0, .int 0, .int 0] := rfl
  have a1 := fun (x0 : Option Value) (st : List Value) (h : MH) => r11_5 (x0 := x0) (st := st) (h := h) (b := b + 1) (c := c) (d := d) (by omega)
  have t1 := fun (h : MH) => tape_new (h := h) (b := b + 1) (c := c + 1) (d := d + 2) (by omega)
  have m1 := fun (h : MH) (o : List Value) (x : MC) => ob_cm (h := h) (q := b) (c := 2) (o := o) (p := b + 2) (x := x) (by omega)
  have m2 := fun (h : MH) (o y : List Value) => ob_cm (h := h) (q := b) (c := 2) (o := o) (p := b + 1) (x := .inr (.inr (1, y))) (by omega)
  have m2 : ∀ (h : MH) (o y : List Value), obj (obj h b 2 o) (b + 1) 1 y = obj (obj h (b + 1) 1 y) b 2 o := m2
  have p0 := fun (h : MH) (v0 v1 v2 v3 v4 v : Value) => ob_pf (h := h) (q := b) (c := 2) (o := [v0, v1, v2, v3, v4]) (k := 0) (v := v) (by decide) (by show 0 < 5; decide)
  simp only [List.set] at p0
  simp only [Nat.add_assoc, Nat.reduceAdd] at a1 t1
  rw [Ec_go rfl]; show Rn 11 (0, [some (.ref b)], [], (b + 1, c, d), mup h b (.inr (.inr (2, mdf 2)))) = _
  simp only [r11_0, r11_1, r11_4, r11_8, r11_9, r11_12, r11_15, Nl_none, Nl_int, Nl_ref, Nl_null, Kv_some, Ki_some, Kh_some, Bk_some, Bk_void, ↓reduceIte, mrt10, mrt11, zl2, zl3, zl4, zl8, Bool.false_eq_true, e0, a1, t1, m1, m2, p0]
end
