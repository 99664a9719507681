/-! ===== leaves: small methods without loops ===== -/
theorem mrt10 : (mrt 1 0 = true) = True := by decide
theorem mrt11 : (mrt 1 1 = true) = True := by decide
theorem zl2 : ((2 : Int32) = 0) = False := by decide
theorem zl3 : ((3 : Int32) = 0) = False := by decide
theorem zl4 : ((4 : Int32) = 0) = False := by decide
theorem zl8 : ((8 : Int32) = 0) = False := by decide
def b2i (p : Bool) : Int32 := if p = true then 1 else 0
theorem b2i_eq0 {p : Bool} : (b2i p = 0) = ¬ (p = true) := by cases p <;> decide
theorem mrt_b2i {p : Bool} : (mrt 1 (b2i p) = true) = True := by cases p <;> decide
def wi (v lo hi : Int32) : Bool := decide (¬ v < lo ∧ ¬ hi < v)
def isL (x : Int32) : Bool := decide (¬ x < 0 ∧ x < 8)
def isC (x : Int32) : Bool := decide (¬ x < 0 ∧ x < 3)
def isKd (x : Int32) : Bool := decide (¬ x < 0 ∧ x < 7)
def isSp (x : Int32) : Bool := decide (¬ x < 0 ∧ x < 10)
/-- two bars, told as a truth -/
theorem two_bars {α : Type} {P Q : Prop} [Decidable P] [Decidable Q] {F : Int32 → α} : (if P then F 0 else if Q then F 1 else F 0) = F (b2i (decide (¬ P ∧ Q))) := by
  by_cases h1 : P <;> by_cases h2 : Q <;> simp [b2i, h1, h2]
theorem two_bars' {α : Type} {P Q : Prop} [Decidable P] [Decidable Q] {F : Int32 → α} : (if P then F 0 else if Q then F 0 else F 1) = F (b2i (decide (¬ P ∧ ¬ Q))) := by
  by_cases h1 : P <;> by_cases h2 : Q <;> simp [b2i, h1, h2]
section
variable {a : MA} {h : MH} {b : Nat} {T : TS} {x y z : Int32}
theorem e_min : Ec 228 [.int x, .int y] a h = some (some (.int (if y < x then y else x)), a, h) := by
  rw [Ec_go rfl]; show Rn 228 (0, [some (.int x), some (.int y)], [], a, h) = _
  simp only [r228_0, r228_1, r228_2, r228_5, r228_6, r228_9, r228_10]
  split <;> rfl
theorem e_max : Ec 227 [.int x, .int y] a h = some (some (.int (if x < y then y else x)), a, h) := by
  rw [Ec_go rfl]; show Rn 227 (0, [some (.int x), some (.int y)], [], a, h) = _
  simp only [r227_0, r227_1, r227_2, r227_5, r227_6, r227_9, r227_10]
  split <;> rfl
theorem e_isLayer : Ec 107 [.int x] a h = some (some (.int (b2i (isL x))), a, h) := by
  rw [Ec_go rfl]; show Rn 107 (0, [some (.int x)], [], a, h) = _
  simp only [r107_0, r107_1, r107_2, r107_5, r107_6, r107_8, r107_11, r107_12, r107_15, r107_16, Nl_none, Nl_int, Nl_ref, Nl_null, Kv_some, Ki_some, Kh_some, Bk_some, Bk_void, ↓reduceIte, mrt10, mrt11, zl2, zl3, zl4, zl8, Bool.false_eq_true]
  exact two_bars (F := fun v => some (some (Value.int v), a, h))
theorem e_isColour : Ec 108 [.int x] a h = some (some (.int (b2i (isC x))), a, h) := by
  rw [Ec_go rfl]; show Rn 108 (0, [some (.int x)], [], a, h) = _
  simp only [r108_0, r108_1, r108_2, r108_5, r108_6, r108_7, r108_10, r108_11, r108_14, r108_15, Nl_none, Nl_int, Nl_ref, Nl_null, Kv_some, Ki_some, Kh_some, Bk_some, Bk_void, ↓reduceIte, mrt10, mrt11, zl2, zl3, zl4, zl8, Bool.false_eq_true]
  exact two_bars (F := fun v => some (some (Value.int v), a, h))
theorem e_isKind : Ec 109 [.int x] a h = some (some (.int (b2i (isKd x))), a, h) := by
  rw [Ec_go rfl]; show Rn 109 (0, [some (.int x)], [], a, h) = _
  simp only [r109_0, r109_1, r109_2, r109_5, r109_6, r109_8, r109_11, r109_12, r109_15, r109_16, Nl_none, Nl_int, Nl_ref, Nl_null, Kv_some, Ki_some, Kh_some, Bk_some, Bk_void, ↓reduceIte, mrt10, mrt11, zl2, zl3, zl4, zl8, Bool.false_eq_true]
  exact two_bars (F := fun v => some (some (Value.int v), a, h))
theorem e_isSpot : Ec 110 [.int x] a h = some (some (.int (b2i (isSp x))), a, h) := by
  rw [Ec_go rfl]; show Rn 110 (0, [some (.int x)], [], a, h) = _
  simp only [r110_0, r110_1, r110_2, r110_5, r110_6, r110_8, r110_11, r110_12, r110_15, r110_16, Nl_none, Nl_int, Nl_ref, Nl_null, Kv_some, Ki_some, Kh_some, Bk_some, Bk_void, ↓reduceIte, mrt10, mrt11, zl2, zl3, zl4, zl8, Bool.false_eq_true]
  exact two_bars (F := fun v => some (some (Value.int v), a, h))
theorem e_isWithin : Ec 106 [.int x, .int y, .int z] a h = some (some (.int (b2i (wi x y z))), a, h) := by
  rw [Ec_go rfl]; show Rn 106 (0, [some (.int x), some (.int y), some (.int z)], [], a, h) = _
  simp only [r106_0, r106_1, r106_2, r106_5, r106_6, r106_7, r106_10, r106_11, r106_14, r106_15, Nl_none, Nl_int, Nl_ref, Nl_null, Kv_some, Ki_some, Kh_some, Bk_some, Bk_void, ↓reduceIte, mrt10, mrt11, zl2, zl3, zl4, zl8, Bool.false_eq_true]
  exact two_bars' (F := fun v => some (some (Value.int v), a, h))
end
/-- no case of a switch -/
theorem ne_toInt {k : Int32} {n : Int} {m : Int32} (h : ¬ k = m) (hm : m.toInt = n) : k.toInt ≠ n := fun e => h (Int32.toInt_inj.mp (e.trans hm.symm))
theorem sw16 {k : Int32} (h1 : ¬ k = 1) (h2 : ¬ k = 2) (h3 : ¬ k = 3) (h4 : ¬ k = 4) (h5 : ¬ k = 5) (h6 : ¬ k = 6) : k.toInt < 1 ∨ 6 < k.toInt := by
  have a1 := ne_toInt (n := 1) h1 rfl
  have a2 := ne_toInt (n := 2) h2 rfl
  have a3 := ne_toInt (n := 3) h3 rfl
  have a4 := ne_toInt (n := 4) h4 rfl
  have a5 := ne_toInt (n := 5) h5 rfl
  have a6 := ne_toInt (n := 6) h6 rfl
  omega
/-- what a kind bleeds, rises, is fast for -/
def blS (k lye seen : Int32) : Int32 := if k = 1 then 4 + lye + 3 else if k = 2 then (4 + lye) / 2 else if k = 3 then (4 + lye) / 2 + 5 else if k = 4 then (4 + lye) / 2 + 5 + (if 9 < seen then 9 else seen) else if k = 5 then 0 else if k = 6 then 1 else 4 + lye
def riS (k holds soaked year : Int32) : Int32 := if k = 1 then (if soaked % 3 = 0 then 1 else 0) else if k = 2 then 1 else if k = 3 then (if holds < 40 then 1 else -1) else if k = 4 then (if year % 2 = 0 then (if holds < 40 then 1 else -1) + 1 else if holds < 40 then 1 else -1) else if k = 5 then -1 else if k = 6 then -2 else 0
def faS (k lye : Int32) : Int32 := if k = 1 then 10 else if k = 2 then 5 else if k = 3 then 5 + lye else if k = 4 then 9 + lye else if k = 5 then 999 else if k = 6 then 999 else 20
section
variable {a : MA} {h : MH} {b : Nat} {T : TS} {x y z : Int32} {t : Nat}
theorem e_bleeds (ht : t < 8) : Ec 29 [.ref (b + 4 + t), .int x] a (setTub h b T) = some (some (.int (blS (T (28 + 6 * t)) x (T (33 + 6 * t)))), a, setTub h b T) := by
  rw [Ec_go rfl]; show Rn 29 (0, [some (.ref (b + 4 + t)), some (.int x), none, none, none], [], a, setTub h b T) = _
  simp only [r29_0, r29_1, r29_2, r29_3, r29_4, r29_5, r29_6, r29_7, r29_8, r29_9, r29_10, r29_11, r29_13, r29_14, r29_17_1, r29_17_2, r29_17_3, r29_17_4, r29_17_5, r29_17_6, r29_56, r29_57, r29_58, r29_59, r29_60, r29_61, r29_62, r29_64, r29_65, r29_67, r29_68, r29_71, r29_73, r29_76, r29_77, r29_78, r29_79, r29_80, r29_81, r29_82, r29_83, Nl_none, Nl_int, Nl_ref, Nl_null, Kv_some, Ki_some, Kh_some, Bk_some, Bk_void, ↓reduceIte, mrt10, mrt11, zl2, zl3, zl4, zl8, Bool.false_eq_true, gt_kind ht]
  generalize T (28 + 6 * t) = k
  unfold blS
  by_cases h1 : k = 1
  · subst h1; simp only [r29_0, r29_1, r29_2, r29_3, r29_4, r29_5, r29_6, r29_7, r29_8, r29_9, r29_10, r29_11, r29_13, r29_14, r29_17_1, r29_17_2, r29_17_3, r29_17_4, r29_17_5, r29_17_6, r29_56, r29_57, r29_58, r29_59, r29_60, r29_61, r29_62, r29_64, r29_65, r29_67, r29_68, r29_71, r29_73, r29_76, r29_77, r29_78, r29_79, r29_80, r29_81, r29_82, r29_83, Nl_none, Nl_int, Nl_ref, Nl_null, Kv_some, Ki_some, Kh_some, Bk_some, Bk_void, ↓reduceIte, mrt10, mrt11, zl2, zl3, zl4, zl8, Bool.false_eq_true, eq_self]
  by_cases h2 : k = 2
  · subst h2; simp only [r29_0, r29_1, r29_2, r29_3, r29_4, r29_5, r29_6, r29_7, r29_8, r29_9, r29_10, r29_11, r29_13, r29_14, r29_17_1, r29_17_2, r29_17_3, r29_17_4, r29_17_5, r29_17_6, r29_56, r29_57, r29_58, r29_59, r29_60, r29_61, r29_62, r29_64, r29_65, r29_67, r29_68, r29_71, r29_73, r29_76, r29_77, r29_78, r29_79, r29_80, r29_81, r29_82, r29_83, Nl_none, Nl_int, Nl_ref, Nl_null, Kv_some, Ki_some, Kh_some, Bk_some, Bk_void, ↓reduceIte, mrt10, mrt11, zl2, zl3, zl4, zl8, Bool.false_eq_true, eq_self, h1]
  by_cases h3 : k = 3
  · subst h3; simp only [r29_0, r29_1, r29_2, r29_3, r29_4, r29_5, r29_6, r29_7, r29_8, r29_9, r29_10, r29_11, r29_13, r29_14, r29_17_1, r29_17_2, r29_17_3, r29_17_4, r29_17_5, r29_17_6, r29_56, r29_57, r29_58, r29_59, r29_60, r29_61, r29_62, r29_64, r29_65, r29_67, r29_68, r29_71, r29_73, r29_76, r29_77, r29_78, r29_79, r29_80, r29_81, r29_82, r29_83, Nl_none, Nl_int, Nl_ref, Nl_null, Kv_some, Ki_some, Kh_some, Bk_some, Bk_void, ↓reduceIte, mrt10, mrt11, zl2, zl3, zl4, zl8, Bool.false_eq_true, eq_self, h1, h2]
  by_cases h4 : k = 4
  · subst h4; simp only [r29_0, r29_1, r29_2, r29_3, r29_4, r29_5, r29_6, r29_7, r29_8, r29_9, r29_10, r29_11, r29_13, r29_14, r29_17_1, r29_17_2, r29_17_3, r29_17_4, r29_17_5, r29_17_6, r29_56, r29_57, r29_58, r29_59, r29_60, r29_61, r29_62, r29_64, r29_65, r29_67, r29_68, r29_71, r29_73, r29_76, r29_77, r29_78, r29_79, r29_80, r29_81, r29_82, r29_83, Nl_none, Nl_int, Nl_ref, Nl_null, Kv_some, Ki_some, Kh_some, Bk_some, Bk_void, ↓reduceIte, mrt10, mrt11, zl2, zl3, zl4, zl8, Bool.false_eq_true, eq_self, gt_seen ht, e_min, h1, h2, h3]
  by_cases h5 : k = 5
  · subst h5; simp only [r29_0, r29_1, r29_2, r29_3, r29_4, r29_5, r29_6, r29_7, r29_8, r29_9, r29_10, r29_11, r29_13, r29_14, r29_17_1, r29_17_2, r29_17_3, r29_17_4, r29_17_5, r29_17_6, r29_56, r29_57, r29_58, r29_59, r29_60, r29_61, r29_62, r29_64, r29_65, r29_67, r29_68, r29_71, r29_73, r29_76, r29_77, r29_78, r29_79, r29_80, r29_81, r29_82, r29_83, Nl_none, Nl_int, Nl_ref, Nl_null, Kv_some, Ki_some, Kh_some, Bk_some, Bk_void, ↓reduceIte, mrt10, mrt11, zl2, zl3, zl4, zl8, Bool.false_eq_true, eq_self, h1, h2, h3, h4]
  by_cases h6 : k = 6
  · subst h6; simp only [r29_0, r29_1, r29_2, r29_3, r29_4, r29_5, r29_6, r29_7, r29_8, r29_9, r29_10, r29_11, r29_13, r29_14, r29_17_1, r29_17_2, r29_17_3, r29_17_4, r29_17_5, r29_17_6, r29_56, r29_57, r29_58, r29_59, r29_60, r29_61, r29_62, r29_64, r29_65, r29_67, r29_68, r29_71, r29_73, r29_76, r29_77, r29_78, r29_79, r29_80, r29_81, r29_82, r29_83, Nl_none, Nl_int, Nl_ref, Nl_null, Kv_some, Ki_some, Kh_some, Bk_some, Bk_void, ↓reduceIte, mrt10, mrt11, zl2, zl3, zl4, zl8, Bool.false_eq_true, eq_self, h1, h2, h3, h4, h5]
  rw [r29_17_d (sw16 h1 h2 h3 h4 h5 h6)]
  simp only [r29_0, r29_1, r29_2, r29_3, r29_4, r29_5, r29_6, r29_7, r29_8, r29_9, r29_10, r29_11, r29_13, r29_14, r29_17_1, r29_17_2, r29_17_3, r29_17_4, r29_17_5, r29_17_6, r29_56, r29_57, r29_58, r29_59, r29_60, r29_61, r29_62, r29_64, r29_65, r29_67, r29_68, r29_71, r29_73, r29_76, r29_77, r29_78, r29_79, r29_80, r29_81, r29_82, r29_83, Nl_none, Nl_int, Nl_ref, Nl_null, Kv_some, Ki_some, Kh_some, Bk_some, Bk_void, ↓reduceIte, mrt10, mrt11, zl2, zl3, zl4, zl8, Bool.false_eq_true, h1, h2, h3, h4, h5, h6]
end
