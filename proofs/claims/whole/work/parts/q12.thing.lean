/-! ===== a Thing's methods ===== -/
theorem z21 : (2 : Int32) * -1 = -2 := by decide
theorem z2015 : (20 : Int32) - 15 = 5 := by decide
theorem z202 : (20 : Int32) / 2 = 10 := by decide
theorem z54 (x : Int32) : 5 + x + 4 = 9 + x := by rw [Int32.add_right_comm]; rfl
theorem z11 : (-1 : Int32) + 1 = 0 := by decide
section
variable {a : MA} {h : MH} {b : Nat} {T : TS} {x y z : Int32} {t : Nat}
theorem e_rises (ht : t < 8) : Ec 30 [.ref (b + 4 + t), .int x] a (setTub h b T) = some (some (.int (riS (T (28 + 6 * t)) (T (31 + 6 * t)) (T (32 + 6 * t)) x)), a, setTub h b T) := by
  rw [Ec_go rfl]
  show Rn 30 (0, [some (.ref (b + 4 + t)), some (.int x), none, none, none], [], a, setTub h b T) = _
  simp only [r30_0, r30_1, r30_2, r30_3, r30_6, r30_8, r30_11, r30_12, r30_13, r30_16, r30_17, r30_18, r30_19, r30_21, r30_22, r30_25_1, r30_25_2, r30_25_3, r30_25_4, r30_25_5, r30_25_6, r30_64, r30_65, r30_68, r30_69, r30_70, r30_73, r30_74, r30_77, r30_78, r30_79, r30_80, r30_81, r30_82, r30_83, r30_84, r30_85, r30_86, r30_89, r30_90, r30_91, r30_92, r30_95, r30_96, r30_97, r30_99, r30_100, r30_101, r30_103, r30_104, r30_105, r30_106, Nl_none, Nl_int, Nl_ref, Nl_null, Kv_some, Ki_some, Kh_some, Bk_some, Bk_void, if_true, if_false, mrt10, mrt11, zl2, zl3, zl4, zl8, gt_kind ht, gt_holds ht]
  generalize T (28 + 6 * t) = k
  unfold riS
  by_cases h1 : k = 1
  · subst h1
    by_cases q : T (31 + 6 * t) < 40 <;> by_cases q2 : T (32 + 6 * t) % 3 = 0 <;> simp only [r30_0, r30_1, r30_2, r30_3, r30_6, r30_8, r30_11, r30_12, r30_13, r30_16, r30_17, r30_18, r30_19, r30_21, r30_22, r30_25_1, r30_25_2, r30_25_3, r30_25_4, r30_25_5, r30_25_6, r30_64, r30_65, r30_68, r30_69, r30_70, r30_73, r30_74, r30_77, r30_78, r30_79, r30_80, r30_81, r30_82, r30_83, r30_84, r30_85, r30_86, r30_89, r30_90, r30_91, r30_92, r30_95, r30_96, r30_97, r30_99, r30_100, r30_101, r30_103, r30_104, r30_105, r30_106, Nl_none, Nl_int, Nl_ref, Nl_null, Kv_some, Ki_some, Kh_some, Bk_some, Bk_void, if_true, if_false, mrt10, mrt11, zl2, zl3, zl4, zl8, gt_soaked ht, eq_self, q, q2]
  by_cases h2 : k = 2
  · subst h2
    by_cases q : T (31 + 6 * t) < 40 <;> simp only [r30_0, r30_1, r30_2, r30_3, r30_6, r30_8, r30_11, r30_12, r30_13, r30_16, r30_17, r30_18, r30_19, r30_21, r30_22, r30_25_1, r30_25_2, r30_25_3, r30_25_4, r30_25_5, r30_25_6, r30_64, r30_65, r30_68, r30_69, r30_70, r30_73, r30_74, r30_77, r30_78, r30_79, r30_80, r30_81, r30_82, r30_83, r30_84, r30_85, r30_86, r30_89, r30_90, r30_91, r30_92, r30_95, r30_96, r30_97, r30_99, r30_100, r30_101, r30_103, r30_104, r30_105, r30_106, Nl_none, Nl_int, Nl_ref, Nl_null, Kv_some, Ki_some, Kh_some, Bk_some, Bk_void, if_true, if_false, mrt10, mrt11, zl2, zl3, zl4, zl8, eq_self, h1, q]
  by_cases h3 : k = 3
  · subst h3
    by_cases q : T (31 + 6 * t) < 40 <;> simp only [r30_0, r30_1, r30_2, r30_3, r30_6, r30_8, r30_11, r30_12, r30_13, r30_16, r30_17, r30_18, r30_19, r30_21, r30_22, r30_25_1, r30_25_2, r30_25_3, r30_25_4, r30_25_5, r30_25_6, r30_64, r30_65, r30_68, r30_69, r30_70, r30_73, r30_74, r30_77, r30_78, r30_79, r30_80, r30_81, r30_82, r30_83, r30_84, r30_85, r30_86, r30_89, r30_90, r30_91, r30_92, r30_95, r30_96, r30_97, r30_99, r30_100, r30_101, r30_103, r30_104, r30_105, r30_106, Nl_none, Nl_int, Nl_ref, Nl_null, Kv_some, Ki_some, Kh_some, Bk_some, Bk_void, if_true, if_false, mrt10, mrt11, zl2, zl3, zl4, zl8, eq_self, h1, h2, q]
  by_cases h4 : k = 4
  · subst h4
    by_cases q : T (31 + 6 * t) < 40 <;> by_cases q2 : x % 2 = 0 <;> simp only [r30_0, r30_1, r30_2, r30_3, r30_6, r30_8, r30_11, r30_12, r30_13, r30_16, r30_17, r30_18, r30_19, r30_21, r30_22, r30_25_1, r30_25_2, r30_25_3, r30_25_4, r30_25_5, r30_25_6, r30_64, r30_65, r30_68, r30_69, r30_70, r30_73, r30_74, r30_77, r30_78, r30_79, r30_80, r30_81, r30_82, r30_83, r30_84, r30_85, r30_86, r30_89, r30_90, r30_91, r30_92, r30_95, r30_96, r30_97, r30_99, r30_100, r30_101, r30_103, r30_104, r30_105, r30_106, Nl_none, Nl_int, Nl_ref, Nl_null, Kv_some, Ki_some, Kh_some, Bk_some, Bk_void, if_true, if_false, mrt10, mrt11, zl2, zl3, zl4, zl8, eq_self, h1, h2, h3, q, q2]
  by_cases h5 : k = 5
  · subst h5
    by_cases q : T (31 + 6 * t) < 40 <;> simp only [r30_0, r30_1, r30_2, r30_3, r30_6, r30_8, r30_11, r30_12, r30_13, r30_16, r30_17, r30_18, r30_19, r30_21, r30_22, r30_25_1, r30_25_2, r30_25_3, r30_25_4, r30_25_5, r30_25_6, r30_64, r30_65, r30_68, r30_69, r30_70, r30_73, r30_74, r30_77, r30_78, r30_79, r30_80, r30_81, r30_82, r30_83, r30_84, r30_85, r30_86, r30_89, r30_90, r30_91, r30_92, r30_95, r30_96, r30_97, r30_99, r30_100, r30_101, r30_103, r30_104, r30_105, r30_106, Nl_none, Nl_int, Nl_ref, Nl_null, Kv_some, Ki_some, Kh_some, Bk_some, Bk_void, if_true, if_false, mrt10, mrt11, zl2, zl3, zl4, zl8, eq_self, h1, h2, h3, h4, q]
  by_cases h6 : k = 6
  · subst h6
    by_cases q : T (31 + 6 * t) < 40 <;> simp only [r30_0, r30_1, r30_2, r30_3, r30_6, r30_8, r30_11, r30_12, r30_13, r30_16, r30_17, r30_18, r30_19, r30_21, r30_22, r30_25_1, r30_25_2, r30_25_3, r30_25_4, r30_25_5, r30_25_6, r30_64, r30_65, r30_68, r30_69, r30_70, r30_73, r30_74, r30_77, r30_78, r30_79, r30_80, r30_81, r30_82, r30_83, r30_84, r30_85, r30_86, r30_89, r30_90, r30_91, r30_92, r30_95, r30_96, r30_97, r30_99, r30_100, r30_101, r30_103, r30_104, r30_105, r30_106, Nl_none, Nl_int, Nl_ref, Nl_null, Kv_some, Ki_some, Kh_some, Bk_some, Bk_void, if_true, if_false, mrt10, mrt11, zl2, zl3, zl4, zl8, eq_self, h1, h2, h3, h4, h5, q, z21]
  by_cases q : T (31 + 6 * t) < 40
  · simp only [r30_0, r30_1, r30_2, r30_3, r30_6, r30_8, r30_11, r30_12, r30_13, r30_16, r30_17, r30_18, r30_19, r30_21, r30_22, r30_25_1, r30_25_2, r30_25_3, r30_25_4, r30_25_5, r30_25_6, r30_64, r30_65, r30_68, r30_69, r30_70, r30_73, r30_74, r30_77, r30_78, r30_79, r30_80, r30_81, r30_82, r30_83, r30_84, r30_85, r30_86, r30_89, r30_90, r30_91, r30_92, r30_95, r30_96, r30_97, r30_99, r30_100, r30_101, r30_103, r30_104, r30_105, r30_106, Nl_none, Nl_int, Nl_ref, Nl_null, Kv_some, Ki_some, Kh_some, Bk_some, Bk_void, if_true, if_false, mrt10, mrt11, zl2, zl3, zl4, zl8, q]
    rw [r30_25_d (sw16 h1 h2 h3 h4 h5 h6)]
    simp only [r30_0, r30_1, r30_2, r30_3, r30_6, r30_8, r30_11, r30_12, r30_13, r30_16, r30_17, r30_18, r30_19, r30_21, r30_22, r30_25_1, r30_25_2, r30_25_3, r30_25_4, r30_25_5, r30_25_6, r30_64, r30_65, r30_68, r30_69, r30_70, r30_73, r30_74, r30_77, r30_78, r30_79, r30_80, r30_81, r30_82, r30_83, r30_84, r30_85, r30_86, r30_89, r30_90, r30_91, r30_92, r30_95, r30_96, r30_97, r30_99, r30_100, r30_101, r30_103, r30_104, r30_105, r30_106, Nl_none, Nl_int, Nl_ref, Nl_null, Kv_some, Ki_some, Kh_some, Bk_some, Bk_void, if_true, if_false, mrt10, mrt11, zl2, zl3, zl4, zl8, h1, h2, h3, h4, h5, h6]
  · simp only [r30_0, r30_1, r30_2, r30_3, r30_6, r30_8, r30_11, r30_12, r30_13, r30_16, r30_17, r30_18, r30_19, r30_21, r30_22, r30_25_1, r30_25_2, r30_25_3, r30_25_4, r30_25_5, r30_25_6, r30_64, r30_65, r30_68, r30_69, r30_70, r30_73, r30_74, r30_77, r30_78, r30_79, r30_80, r30_81, r30_82, r30_83, r30_84, r30_85, r30_86, r30_89, r30_90, r30_91, r30_92, r30_95, r30_96, r30_97, r30_99, r30_100, r30_101, r30_103, r30_104, r30_105, r30_106, Nl_none, Nl_int, Nl_ref, Nl_null, Kv_some, Ki_some, Kh_some, Bk_some, Bk_void, if_true, if_false, mrt10, mrt11, zl2, zl3, zl4, zl8, q]
    rw [r30_25_d (sw16 h1 h2 h3 h4 h5 h6)]
    simp only [r30_0, r30_1, r30_2, r30_3, r30_6, r30_8, r30_11, r30_12, r30_13, r30_16, r30_17, r30_18, r30_19, r30_21, r30_22, r30_25_1, r30_25_2, r30_25_3, r30_25_4, r30_25_5, r30_25_6, r30_64, r30_65, r30_68, r30_69, r30_70, r30_73, r30_74, r30_77, r30_78, r30_79, r30_80, r30_81, r30_82, r30_83, r30_84, r30_85, r30_86, r30_89, r30_90, r30_91, r30_92, r30_95, r30_96, r30_97, r30_99, r30_100, r30_101, r30_103, r30_104, r30_105, r30_106, Nl_none, Nl_int, Nl_ref, Nl_null, Kv_some, Ki_some, Kh_some, Bk_some, Bk_void, if_true, if_false, mrt10, mrt11, zl2, zl3, zl4, zl8, h1, h2, h3, h4, h5, h6]
theorem e_fast (ht : t < 8) : Ec 31 [.ref (b + 4 + t), .int x] a (setTub h b T) = some (some (.int (faS (T (28 + 6 * t)) x)), a, setTub h b T) := by
  rw [Ec_go rfl]
  show Rn 31 (0, [some (.ref (b + 4 + t)), some (.int x), none, none, none], [], a, setTub h b T) = _
  simp only [r31_0, r31_2, r31_3, r31_4, r31_6, r31_7, r31_8, r31_9, r31_10, r31_11, r31_13, r31_14, r31_17_1, r31_17_2, r31_17_3, r31_17_4, r31_17_5, r31_17_6, r31_56, r31_57, r31_58, r31_59, r31_60, r31_61, r31_62, r31_64, r31_65, r31_67, r31_68, r31_69, r31_70, r31_73, r31_74, r31_75, Nl_none, Nl_int, Nl_ref, Nl_null, Kv_some, Ki_some, Kh_some, Bk_some, Bk_void, if_true, if_false, mrt10, mrt11, zl2, zl3, zl4, zl8, gt_kind ht]
  generalize T (28 + 6 * t) = k
  unfold faS
  by_cases h1 : k = 1
  · subst h1; simp only [r31_0, r31_2, r31_3, r31_4, r31_6, r31_7, r31_8, r31_9, r31_10, r31_11, r31_13, r31_14, r31_17_1, r31_17_2, r31_17_3, r31_17_4, r31_17_5, r31_17_6, r31_56, r31_57, r31_58, r31_59, r31_60, r31_61, r31_62, r31_64, r31_65, r31_67, r31_68, r31_69, r31_70, r31_73, r31_74, r31_75, Nl_none, Nl_int, Nl_ref, Nl_null, Kv_some, Ki_some, Kh_some, Bk_some, Bk_void, if_true, if_false, mrt10, mrt11, zl2, zl3, zl4, zl8, eq_self, z2015, z202, z54]
  by_cases h2 : k = 2
  · subst h2; simp only [r31_0, r31_2, r31_3, r31_4, r31_6, r31_7, r31_8, r31_9, r31_10, r31_11, r31_13, r31_14, r31_17_1, r31_17_2, r31_17_3, r31_17_4, r31_17_5, r31_17_6, r31_56, r31_57, r31_58, r31_59, r31_60, r31_61, r31_62, r31_64, r31_65, r31_67, r31_68, r31_69, r31_70, r31_73, r31_74, r31_75, Nl_none, Nl_int, Nl_ref, Nl_null, Kv_some, Ki_some, Kh_some, Bk_some, Bk_void, if_true, if_false, mrt10, mrt11, zl2, zl3, zl4, zl8, eq_self, z2015, z202, z54, h1]
  by_cases h3 : k = 3
  · subst h3; simp only [r31_0, r31_2, r31_3, r31_4, r31_6, r31_7, r31_8, r31_9, r31_10, r31_11, r31_13, r31_14, r31_17_1, r31_17_2, r31_17_3, r31_17_4, r31_17_5, r31_17_6, r31_56, r31_57, r31_58, r31_59, r31_60, r31_61, r31_62, r31_64, r31_65, r31_67, r31_68, r31_69, r31_70, r31_73, r31_74, r31_75, Nl_none, Nl_int, Nl_ref, Nl_null, Kv_some, Ki_some, Kh_some, Bk_some, Bk_void, if_true, if_false, mrt10, mrt11, zl2, zl3, zl4, zl8, eq_self, z2015, z202, z54, h1, h2]
  by_cases h4 : k = 4
  · subst h4; simp only [r31_0, r31_2, r31_3, r31_4, r31_6, r31_7, r31_8, r31_9, r31_10, r31_11, r31_13, r31_14, r31_17_1, r31_17_2, r31_17_3, r31_17_4, r31_17_5, r31_17_6, r31_56, r31_57, r31_58, r31_59, r31_60, r31_61, r31_62, r31_64, r31_65, r31_67, r31_68, r31_69, r31_70, r31_73, r31_74, r31_75, Nl_none, Nl_int, Nl_ref, Nl_null, Kv_some, Ki_some, Kh_some, Bk_some, Bk_void, if_true, if_false, mrt10, mrt11, zl2, zl3, zl4, zl8, eq_self, z2015, z202, z54, h1, h2, h3]
  by_cases h5 : k = 5
  · subst h5; simp only [r31_0, r31_2, r31_3, r31_4, r31_6, r31_7, r31_8, r31_9, r31_10, r31_11, r31_13, r31_14, r31_17_1, r31_17_2, r31_17_3, r31_17_4, r31_17_5, r31_17_6, r31_56, r31_57, r31_58, r31_59, r31_60, r31_61, r31_62, r31_64, r31_65, r31_67, r31_68, r31_69, r31_70, r31_73, r31_74, r31_75, Nl_none, Nl_int, Nl_ref, Nl_null, Kv_some, Ki_some, Kh_some, Bk_some, Bk_void, if_true, if_false, mrt10, mrt11, zl2, zl3, zl4, zl8, eq_self, z2015, z202, z54, h1, h2, h3, h4]
  by_cases h6 : k = 6
  · subst h6; simp only [r31_0, r31_2, r31_3, r31_4, r31_6, r31_7, r31_8, r31_9, r31_10, r31_11, r31_13, r31_14, r31_17_1, r31_17_2, r31_17_3, r31_17_4, r31_17_5, r31_17_6, r31_56, r31_57, r31_58, r31_59, r31_60, r31_61, r31_62, r31_64, r31_65, r31_67, r31_68, r31_69, r31_70, r31_73, r31_74, r31_75, Nl_none, Nl_int, Nl_ref, Nl_null, Kv_some, Ki_some, Kh_some, Bk_some, Bk_void, if_true, if_false, mrt10, mrt11, zl2, zl3, zl4, zl8, eq_self, z2015, z202, z54, h1, h2, h3, h4, h5]
  rw [r31_17_d (sw16 h1 h2 h3 h4 h5 h6)]
  simp only [r31_0, r31_2, r31_3, r31_4, r31_6, r31_7, r31_8, r31_9, r31_10, r31_11, r31_13, r31_14, r31_17_1, r31_17_2, r31_17_3, r31_17_4, r31_17_5, r31_17_6, r31_56, r31_57, r31_58, r31_59, r31_60, r31_61, r31_62, r31_64, r31_65, r31_67, r31_68, r31_69, r31_70, r31_73, r31_74, r31_75, Nl_none, Nl_int, Nl_ref, Nl_null, Kv_some, Ki_some, Kh_some, Bk_some, Bk_void, if_true, if_false, mrt10, mrt11, zl2, zl3, zl4, zl8, h1, h2, h3, h4, h5, h6]
/-- how a thing stands behind its rising -/
def upL (l r : Int32) : Int32 := if 0 < (if 7 < l - r then 7 else l - r) then (if 7 < l - r then 7 else l - r) else 0
theorem e_rise (ht : t < 8) : Ec 33 [.ref (b + 4 + t), .int x] a (setTub h b T) = none := by
  rw [Ec_go rfl]
  show Rn 33 (0, [some (.ref (b + 4 + t)), some (.int x), none], [], a, setTub h b T) = _
  simp only [r33_0, r33_1, r33_2, r33_5, r33_6, r33_7, r33_10, r33_11, r33_13, r33_16, r33_19, r33_20, r33_21, r33_24, r33_27, r33_28, r33_31, r33_32, r33_33, r33_36, r33_37, r33_38, r33_41, r33_44, r33_47, r33_48, r33_49, r33_52, r33_53, r33_54, r33_57, r33_58, r33_59, r33_62, r33_65, r33_68, Nl_none, Nl_int, Nl_ref, Nl_null, Kv_some, Ki_some, Kh_some, Bk_some, Bk_void, if_true, if_false, mrt10, mrt11, zl2, zl3, zl4, zl8, gt_layer ht, e_rises ht, mis_thing ht, e_min, e_max]
  trace_state
  sorry
theorem e_turnInto (ht : t < 8) : Ec 32 [.ref (b + 4 + t), .int x] a (setTub h b T) = some (none, a, setTub h b (mfu (mfu T (30 + 6 * t) x) (31 + 6 * t) (if 999 < T (31 + 6 * t) + 10 then 999 else T (31 + 6 * t) + 10))) := by
  rw [Ec_go rfl]
  show Rn 32 (0, [some (.ref (b + 4 + t)), some (.int x)], [], a, setTub h b T) = _
  have e1 : mfu T (30 + 6 * t) x (31 + 6 * t) = T (31 + 6 * t) := fu_ne (by omega)
  simp only [r32_0, r32_1, r32_2, r32_5, r32_6, r32_7, r32_10, r32_12, r32_13, r32_16, r32_19, r32_22, Nl_none, Nl_int, Nl_ref, Nl_null, Kv_some, Ki_some, Kh_some, Bk_some, Bk_void, if_true, if_false, mrt10, mrt11, zl2, zl3, zl4, zl8, pt_colour ht, gt_holds ht, pt_holds ht, e_min, e1]
theorem e_begin (ht : t < 8) : Ec 27 [.ref (b + 4 + t), .int x, .int y] a (setTub h b T) = some (none, a, setTub h b (mfu (mfu (mfu (mfu (mfu (mfu T (28 + 6 * t) x) (29 + 6 * t) y) (30 + 6 * t) 0) (31 + 6 * t) 60) (32 + 6 * t) 0) (33 + 6 * t) 0)) := by
  rw [Ec_go rfl]
  show Rn 27 (0, [some (.ref (b + 4 + t)), some (.int x), some (.int y)], [], a, setTub h b T) = _
  simp only [r27_0, r27_1, r27_2, r27_5, r27_6, r27_7, r27_10, r27_11, r27_12, r27_15, r27_16, r27_18, r27_21, r27_22, r27_23, r27_26, r27_27, r27_28, r27_31, Nl_none, Nl_int, Nl_ref, Nl_null, Kv_some, Ki_some, Kh_some, Bk_some, Bk_void, if_true, if_false, mrt10, mrt11, zl2, zl3, zl4, zl8, pt_kind ht, pt_layer ht, pt_colour ht, pt_holds ht, pt_soaked ht, pt_seen ht]
end
