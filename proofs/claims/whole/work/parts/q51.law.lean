/-! ===== the law: a call of the script on both sides; the loop ===== -/
def Wd (xs : List Int32) (T U V X S K B A Y : TS) : MH := cw (mw (outc xs) S K B A Y) T U V X
abbrev LL (i : Int32) : ML := [some (.ref 1200), some (.ref 0), some (.ref 50), some (.int i)]
section
variable {xs : List Int32} {h : MH} {T U V X S K B A Y T' V' X' S' K' Y' : TS} {x y z v w i e0 e1 e2 e3 e4 e5 : Int32} {n n' k m s : Nat} {u u' : Int} {a : MA} {Mc Mr : Nat} {as : List Value}
theorem wd_cm : cw (mw h S K B A Y) T U V X = mw (cw h T U V X) S K B A Y := by
  funext q
  by_cases e : 50 ≤ q
  · rw [cw_off e]
    by_cases e2 : q < 60
    · rw [mw_at ⟨e, e2⟩, mw_at ⟨e, e2⟩]
    · rw [mw_off (by omega), mw_off (by omega), cw_off e]
  · rw [mw_off (by omega)]
    unfold cw setTub
    have o : setX (mw h S K B A Y) X q = setX h X q := by
      unfold setX
      by_cases e1 : q = 0 ∨ 37 ≤ q ∧ q < 50
      · rw [if_pos e1, if_pos e1]
      · rw [if_neg e1, if_neg e1, mw_off (by omega)]
    by_cases e1 : 25 ≤ q ∧ q < 25 + 12
    · rw [if_pos e1, if_pos e1]
    rw [if_neg e1, if_neg e1]
    by_cases e1 : 13 ≤ q ∧ q < 13 + 12
    · rw [if_pos e1, if_pos e1]
    rw [if_neg e1, if_neg e1]
    by_cases e1 : 1 ≤ q ∧ q < 1 + 12
    · rw [if_pos e1, if_pos e1]
    rw [if_neg e1, if_neg e1]
    exact o
theorem wd_hst : Hst (mw (outc xs) S K B A Y) := ⟨xs, fun q hq => mw_off (by omega)⟩
theorem wd_off {q : Nat} (hq : 60 ≤ q) : Wd xs T U V X S K B A Y q = outc xs q := by
  unfold Wd
  rw [cw_off (by omega), mw_off (by omega)]
theorem wd_mis0 : mis (Wd xs T U V X S K B A Y) 0 5 = true := cx_mis
theorem wd_mis50 : mis (Wd xs T U V X S K B A Y) 50 6 = true := by unfold Wd; rw [wd_cm]; exact my_mis
theorem wd_ld : mld (Wd xs T U V X S K B A Y) 1200 i false = mld (outc xs) 1200 i false := by
  unfold mld; rw [wd_off (by decide)]
theorem wd_len : mlen (Wd xs T U V X S K B A Y) 1200 = some (Int32.ofNat xs.length) := by
  have e : outc xs 1200 = .inr (.inr (8, xs.map Value.int)) := rfl
  unfold mlen; rw [wd_off (by decide), e]
  show (if _ then some (Int32.ofNat (xs.map Value.int).length) else none) = _
  rw [if_pos (Or.inl rfl), List.length_map]
theorem oc_ld {j : Nat} (hj : j < xs.length) (h31 : j < 2147483648) : mld (outc xs) 1200 (Int32.ofNat j) false = some (xs.getD j 0) := by
  have e : outc xs 1200 = .inr (.inr (8, xs.map Value.int)) := rfl
  unfold mld
  rw [e]
  have g : (xs.map Value.int)[(Int32.ofNat j).toNatClampNeg]? = some (.int (xs.getD j 0)) := by
    rw [show (Int32.ofNat j).toNatClampNeg = j from iN_of h31, List.getElem?_map, List.getElem?_eq_getElem hj, List.getD_eq_getElem?_getD, List.getElem?_eq_getElem hj]
    rfl
  show (if _ then none else if _ then _ else none) = _
  rw [if_neg (by rw [of_nn h31]; exact id), if_pos (Or.inl ⟨Or.inl rfl, rfl⟩), g]
/-- from this pc on, both sides do the call, and go on at 1503 -/
def Nx (xs : List Int32) (u : Int) (pc : Nat) (a : MA) (i : Int32) (T U V X S K B A Y : TS) : Prop := ∃ (n' : Nat) (T' U' V' X' S' K' B' A' Y' : TS), Rn 237 (pc, LL i, [], a, Wd xs T U V X S K B A Y) = Rn 237 (1503, LL i, [], a, Wd xs T' U' V' X' S' K' B' A' Y') ∧ Rel (u + 60) n' T' V' X' S' K' Y'
theorem sim_go (h : Sim Mc Mr as) (hu : u ≤ 50000) (r : Rel u n T V X S K Y) (a : MA) (xs : List Int32) (U B A : TS) : ∃ (v : Int32) (n' : Nat) (T' U' V' X' S' K' B' A' Y' : TS), Ec Mc (.ref 0 :: as) a (Wd xs T U V X S K B A Y) = some (some (.int v), a, Wd xs T' U' V' X' S K B A Y) ∧ Ec Mr (.ref 50 :: as) a (Wd xs T' U' V' X' S K B A Y) = some (some (.int v), a, Wd xs T' U' V' X' S' K' B' A' Y') ∧ Rel (u + 60) n' T' V' X' S' K' Y' := by
  obtain ⟨v, n', T', V', X', S', K', Y', c, m, r'⟩ := h u n T V X S K Y hu r
  obtain ⟨U', X'', ec, hX⟩ := c a (mw (outc xs) S K B A Y) U wd_hst
  obtain ⟨B', A', Y'', em, hY⟩ := m a (cw (outc xs) T' U' V' X'') B A
  rw [← wd_cm, ← wd_cm] at em
  exact ⟨v, n', T', U', V', X'', S', K', B', A', Y'', ec, em, r'.cg hX hY⟩
theorem sim_goL (h : SimL Mc Mr as) (hu : u ≤ 50000) (r : Rel u n T V X S K Y) (a : MA) (xs : List Int32) (U B A : TS) : ∃ (v : Int64) (n' : Nat) (T' U' V' X' S' K' B' A' Y' : TS), Ec Mc (.ref 0 :: as) a (Wd xs T U V X S K B A Y) = some (some (.long v), a, Wd xs T' U' V' X' S K B A Y) ∧ Ec Mr (.ref 50 :: as) a (Wd xs T' U' V' X' S K B A Y) = some (some (.long v), a, Wd xs T' U' V' X' S' K' B' A' Y') ∧ Rel (u + 60) n' T' V' X' S' K' Y' := by
  obtain ⟨v, n', T', V', X', S', K', Y', c, m, r'⟩ := h u n T V X S K Y hu r
  obtain ⟨U', X'', ec, hX⟩ := c a (mw (outc xs) S K B A Y) U wd_hst
  obtain ⟨B', A', Y'', em, hY⟩ := m a (cw (outc xs) T' U' V' X'') B A
  rw [← wd_cm, ← wd_cm] at em
  exact ⟨v, n', T', U', V', X'', S', K', B', A', Y'', ec, em, r'.cg hX hY⟩
theorem l_dye (hu : u ≤ 50000) (r : Rel u n T V X S K Y) (l1 : mld (outc xs) 1200 (i + 1) false = some e1) (l2 : mld (outc xs) 1200 (i + 2) false = some e2) (l3 : mld (outc xs) 1200 (i + 3) false = some e3) : Nx xs u 216 a i T U V X S K B A Y := by
  obtain ⟨v, n', T', U', V', X', S', K', B', A', Y', ec, em, r'⟩ := sim_go (as := [.int e1, .int e2, .int e3]) s_dye hu r a xs U B A
  refine ⟨n', T', U', V', X', S', K', B', A', Y', ?_, r'⟩
  simp only [r237_216, r237_217, r237_218, r237_219, r237_220, r237_221, r237_222, r237_223, r237_224, r237_225, r237_226, r237_227, r237_228, r237_229, r237_230, r237_231, r237_232, r237_235, r237_236, r237_237, r237_238, r237_239, r237_240, r237_241, r237_242, r237_243, r237_244, r237_245, r237_246, r237_247, r237_248, r237_249, r237_250, r237_251, r237_254, Nl_none, Nl_int, Nl_ref, Nl_null, Kv_some, Ki_some, Kh_some, Bk_some, Bk_void, ↓reduceIte, mrt10, mrt11, zl2, zl3, zl4, zl8, Bool.false_eq_true, wd_mis0, wd_mis50, wd_ld, l1, l2, l3, ec, em]
theorem l_layer (hu : u ≤ 50000) (r : Rel u n T V X S K Y) (l1 : mld (outc xs) 1200 (i + 1) false = some e1) (l2 : mld (outc xs) 1200 (i + 2) false = some e2) : Nx xs u 259 a i T U V X S K B A Y := by
  obtain ⟨v, n', T', U', V', X', S', K', B', A', Y', ec, em, r'⟩ := sim_go (as := [.int e1, .int e2]) s_layer hu r a xs U B A
  refine ⟨n', T', U', V', X', S', K', B', A', Y', ?_, r'⟩
  simp only [r237_259, r237_260, r237_261, r237_262, r237_263, r237_264, r237_265, r237_266, r237_267, r237_268, r237_269, r237_270, r237_273, r237_274, r237_275, r237_276, r237_277, r237_278, r237_279, r237_280, r237_281, r237_282, r237_283, r237_284, r237_287, Nl_none, Nl_int, Nl_ref, Nl_null, Kv_some, Ki_some, Kh_some, Bk_some, Bk_void, ↓reduceIte, mrt10, mrt11, zl2, zl3, zl4, zl8, Bool.false_eq_true, wd_mis0, wd_mis50, wd_ld, l1, l2, ec, em]
theorem l_lye (hu : u ≤ 50000) (r : Rel u n T V X S K Y) (l1 : mld (outc xs) 1200 (i + 1) false = some e1) : Nx xs u 292 a i T U V X S K B A Y := by
  obtain ⟨v, n', T', U', V', X', S', K', B', A', Y', ec, em, r'⟩ := sim_go (as := [.int e1]) s_lye hu r a xs U B A
  refine ⟨n', T', U', V', X', S', K', B', A', Y', ?_, r'⟩
  simp only [r237_292, r237_293, r237_294, r237_295, r237_296, r237_297, r237_298, r237_301, r237_302, r237_303, r237_304, r237_305, r237_306, r237_307, r237_310, Nl_none, Nl_int, Nl_ref, Nl_null, Kv_some, Ki_some, Kh_some, Bk_some, Bk_void, ↓reduceIte, mrt10, mrt11, zl2, zl3, zl4, zl8, Bool.false_eq_true, wd_mis0, wd_mis50, wd_ld, l1, ec, em]
theorem l_stir (hu : u ≤ 50000) (r : Rel u n T V X S K Y) (l1 : mld (outc xs) 1200 (i + 1) false = some e1) (l2 : mld (outc xs) 1200 (i + 2) false = some e2) : Nx xs u 315 a i T U V X S K B A Y := by
  obtain ⟨v, n', T', U', V', X', S', K', B', A', Y', ec, em, r'⟩ := sim_go (as := [.int e1, .int e2]) s_stir hu r a xs U B A
  refine ⟨n', T', U', V', X', S', K', B', A', Y', ?_, r'⟩
  simp only [r237_315, r237_316, r237_317, r237_318, r237_319, r237_320, r237_321, r237_322, r237_323, r237_324, r237_325, r237_326, r237_329, r237_330, r237_331, r237_332, r237_333, r237_334, r237_335, r237_336, r237_337, r237_338, r237_339, r237_340, r237_343, Nl_none, Nl_int, Nl_ref, Nl_null, Kv_some, Ki_some, Kh_some, Bk_some, Bk_void, ↓reduceIte, mrt10, mrt11, zl2, zl3, zl4, zl8, Bool.false_eq_true, wd_mis0, wd_mis50, wd_ld, l1, l2, ec, em]
theorem l_thing (hu : u ≤ 50000) (r : Rel u n T V X S K Y) (l1 : mld (outc xs) 1200 (i + 1) false = some e1) (l2 : mld (outc xs) 1200 (i + 2) false = some e2) : Nx xs u 348 a i T U V X S K B A Y := by
  obtain ⟨v, n', T', U', V', X', S', K', B', A', Y', ec, em, r'⟩ := sim_go (as := [.int e1, .int e2]) s_thing hu r a xs U B A
  refine ⟨n', T', U', V', X', S', K', B', A', Y', ?_, r'⟩
  simp only [r237_348, r237_349, r237_350, r237_351, r237_352, r237_353, r237_354, r237_355, r237_356, r237_357, r237_358, r237_359, r237_362, r237_363, r237_364, r237_365, r237_366, r237_367, r237_368, r237_369, r237_370, r237_371, r237_372, r237_373, r237_376, Nl_none, Nl_int, Nl_ref, Nl_null, Kv_some, Ki_some, Kh_some, Bk_some, Bk_void, ↓reduceIte, mrt10, mrt11, zl2, zl3, zl4, zl8, Bool.false_eq_true, wd_mis0, wd_mis50, wd_ld, l1, l2, ec, em]
theorem l_of (hu : u ≤ 50000) (r : Rel u n T V X S K Y) (l1 : mld (outc xs) 1200 (i + 1) false = some e1) (l2 : mld (outc xs) 1200 (i + 2) false = some e2) : Nx xs u 381 a i T U V X S K B A Y := by
  obtain ⟨v, n', T', U', V', X', S', K', B', A', Y', ec, em, r'⟩ := sim_go (as := [.int e1, .int e2]) s_of hu r a xs U B A
  refine ⟨n', T', U', V', X', S', K', B', A', Y', ?_, r'⟩
  simp only [r237_381, r237_382, r237_383, r237_384, r237_385, r237_386, r237_387, r237_388, r237_389, r237_390, r237_391, r237_392, r237_395, r237_396, r237_397, r237_398, r237_399, r237_400, r237_401, r237_402, r237_403, r237_404, r237_405, r237_406, r237_409, Nl_none, Nl_int, Nl_ref, Nl_null, Kv_some, Ki_some, Kh_some, Bk_some, Bk_void, ↓reduceIte, mrt10, mrt11, zl2, zl3, zl4, zl8, Bool.false_eq_true, wd_mis0, wd_mis50, wd_ld, l1, l2, ec, em]
theorem l_change (hu : u ≤ 50000) (r : Rel u n T V X S K Y) (l1 : mld (outc xs) 1200 (i + 1) false = some e1) (l2 : mld (outc xs) 1200 (i + 2) false = some e2) (l3 : mld (outc xs) 1200 (i + 3) false = some e3) : Nx xs u 414 a i T U V X S K B A Y := by
  obtain ⟨v, n', T', U', V', X', S', K', B', A', Y', ec, em, r'⟩ := sim_go (as := [.int e1, .int e2, .int e3]) s_change hu r a xs U B A
  refine ⟨n', T', U', V', X', S', K', B', A', Y', ?_, r'⟩
  simp only [r237_414, r237_415, r237_416, r237_417, r237_418, r237_419, r237_420, r237_421, r237_422, r237_423, r237_424, r237_425, r237_426, r237_427, r237_428, r237_429, r237_430, r237_433, r237_434, r237_435, r237_436, r237_437, r237_438, r237_439, r237_440, r237_441, r237_442, r237_443, r237_444, r237_445, r237_446, r237_447, r237_448, r237_449, r237_452, Nl_none, Nl_int, Nl_ref, Nl_null, Kv_some, Ki_some, Kh_some, Bk_some, Bk_void, ↓reduceIte, mrt10, mrt11, zl2, zl3, zl4, zl8, Bool.false_eq_true, wd_mis0, wd_mis50, wd_ld, l1, l2, l3, ec, em]
theorem l_go (hu : u ≤ 50000) (r : Rel u n T V X S K Y) (l1 : mld (outc xs) 1200 (i + 1) false = some e1) : Nx xs u 457 a i T U V X S K B A Y := by
  obtain ⟨v, n', T', U', V', X', S', K', B', A', Y', ec, em, r'⟩ := sim_go (as := [.int e1]) s_go hu r a xs U B A
  refine ⟨n', T', U', V', X', S', K', B', A', Y', ?_, r'⟩
  simp only [r237_457, r237_458, r237_459, r237_460, r237_461, r237_462, r237_463, r237_466, r237_467, r237_468, r237_469, r237_470, r237_471, r237_472, r237_475, Nl_none, Nl_int, Nl_ref, Nl_null, Kv_some, Ki_some, Kh_some, Bk_some, Bk_void, ↓reduceIte, mrt10, mrt11, zl2, zl3, zl4, zl8, Bool.false_eq_true, wd_mis0, wd_mis50, wd_ld, l1, ec, em]
theorem l_now (hu : u ≤ 50000) (r : Rel u n T V X S K Y) (l1 : mld (outc xs) 1200 (i + 1) false = some e1) : Nx xs u 480 a i T U V X S K B A Y := by
  obtain ⟨v, n', T', U', V', X', S', K', B', A', Y', ec, em, r'⟩ := sim_go (as := [.int e1]) s_now hu r a xs U B A
  refine ⟨n', T', U', V', X', S', K', B', A', Y', ?_, r'⟩
  simp only [r237_480, r237_481, r237_482, r237_483, r237_484, r237_485, r237_486, r237_489, r237_490, r237_491, r237_492, r237_493, r237_494, r237_495, r237_498, Nl_none, Nl_int, Nl_ref, Nl_null, Kv_some, Ki_some, Kh_some, Bk_some, Bk_void, ↓reduceIte, mrt10, mrt11, zl2, zl3, zl4, zl8, Bool.false_eq_true, wd_mis0, wd_mis50, wd_ld, l1, ec, em]
theorem l_ahead (hu : u ≤ 50000) (r : Rel u n T V X S K Y) (l1 : mld (outc xs) 1200 (i + 1) false = some e1) (l2 : mld (outc xs) 1200 (i + 2) false = some e2) (l3 : mld (outc xs) 1200 (i + 3) false = some e3) : Nx xs u 503 a i T U V X S K B A Y := by
  obtain ⟨v, n', T', U', V', X', S', K', B', A', Y', ec, em, r'⟩ := sim_go (as := [.int e1, .int e2, .int e3]) s_ahead hu r a xs U B A
  refine ⟨n', T', U', V', X', S', K', B', A', Y', ?_, r'⟩
  simp only [r237_503, r237_504, r237_505, r237_506, r237_507, r237_508, r237_509, r237_510, r237_511, r237_512, r237_513, r237_514, r237_515, r237_516, r237_517, r237_518, r237_519, r237_522, r237_523, r237_524, r237_525, r237_526, r237_527, r237_528, r237_529, r237_530, r237_531, r237_532, r237_533, r237_534, r237_535, r237_536, r237_537, r237_538, r237_541, Nl_none, Nl_int, Nl_ref, Nl_null, Kv_some, Ki_some, Kh_some, Bk_some, Bk_void, ↓reduceIte, mrt10, mrt11, zl2, zl3, zl4, zl8, Bool.false_eq_true, wd_mis0, wd_mis50, wd_ld, l1, l2, l3, ec, em]
theorem l_dyed (hu : u ≤ 50000) (r : Rel u n T V X S K Y) (l1 : mld (outc xs) 1200 (i + 1) false = some e1) (l2 : mld (outc xs) 1200 (i + 2) false = some e2) (l3 : mld (outc xs) 1200 (i + 3) false = some e3) : Nx xs u 546 a i T U V X S K B A Y := by
  obtain ⟨v, n', T', U', V', X', S', K', B', A', Y', ec, em, r'⟩ := sim_go (as := [.int e1, .int e2, .int e3]) s_dyed hu r a xs U B A
  refine ⟨n', T', U', V', X', S', K', B', A', Y', ?_, r'⟩
  simp only [r237_546, r237_547, r237_548, r237_549, r237_550, r237_551, r237_552, r237_553, r237_554, r237_555, r237_556, r237_557, r237_558, r237_559, r237_560, r237_561, r237_562, r237_565, r237_566, r237_567, r237_568, r237_569, r237_570, r237_571, r237_572, r237_573, r237_574, r237_575, r237_576, r237_577, r237_578, r237_579, r237_580, r237_581, r237_584, Nl_none, Nl_int, Nl_ref, Nl_null, Kv_some, Ki_some, Kh_some, Bk_some, Bk_void, ↓reduceIte, mrt10, mrt11, zl2, zl3, zl4, zl8, Bool.false_eq_true, wd_mis0, wd_mis50, wd_ld, l1, l2, l3, ec, em]
theorem l_seen (hu : u ≤ 50000) (r : Rel u n T V X S K Y) (l1 : mld (outc xs) 1200 (i + 1) false = some e1) : Nx xs u 589 a i T U V X S K B A Y := by
  obtain ⟨v, n', T', U', V', X', S', K', B', A', Y', ec, em, r'⟩ := sim_go (as := [.int e1]) s_seen hu r a xs U B A
  refine ⟨n', T', U', V', X', S', K', B', A', Y', ?_, r'⟩
  simp only [r237_589, r237_590, r237_591, r237_592, r237_593, r237_594, r237_595, r237_598, r237_599, r237_600, r237_601, r237_602, r237_603, r237_604, r237_607, Nl_none, Nl_int, Nl_ref, Nl_null, Kv_some, Ki_some, Kh_some, Bk_some, Bk_void, ↓reduceIte, mrt10, mrt11, zl2, zl3, zl4, zl8, Bool.false_eq_true, wd_mis0, wd_mis50, wd_ld, l1, ec, em]
theorem l_when (hu : u ≤ 50000) (r : Rel u n T V X S K Y) (l1 : mld (outc xs) 1200 (i + 1) false = some e1) (l2 : mld (outc xs) 1200 (i + 2) false = some e2) : Nx xs u 612 a i T U V X S K B A Y := by
  obtain ⟨v, n', T', U', V', X', S', K', B', A', Y', ec, em, r'⟩ := sim_go (as := [.int e1, .int e2]) s_when hu r a xs U B A
  refine ⟨n', T', U', V', X', S', K', B', A', Y', ?_, r'⟩
  simp only [r237_612, r237_613, r237_614, r237_615, r237_616, r237_617, r237_618, r237_619, r237_620, r237_621, r237_622, r237_623, r237_626, r237_627, r237_628, r237_629, r237_630, r237_631, r237_632, r237_633, r237_634, r237_635, r237_636, r237_637, r237_640, Nl_none, Nl_int, Nl_ref, Nl_null, Kv_some, Ki_some, Kh_some, Bk_some, Bk_void, ↓reduceIte, mrt10, mrt11, zl2, zl3, zl4, zl8, Bool.false_eq_true, wd_mis0, wd_mis50, wd_ld, l1, l2, ec, em]
theorem l_murky (hu : u ≤ 50000) (r : Rel u n T V X S K Y) (l1 : mld (outc xs) 1200 (i + 1) false = some e1) : Nx xs u 645 a i T U V X S K B A Y := by
  obtain ⟨v, n', T', U', V', X', S', K', B', A', Y', ec, em, r'⟩ := sim_go (as := [.int e1]) s_murky hu r a xs U B A
  refine ⟨n', T', U', V', X', S', K', B', A', Y', ?_, r'⟩
  simp only [r237_645, r237_646, r237_647, r237_648, r237_649, r237_650, r237_651, r237_654, r237_655, r237_656, r237_657, r237_658, r237_659, r237_660, r237_663, Nl_none, Nl_int, Nl_ref, Nl_null, Kv_some, Ki_some, Kh_some, Bk_some, Bk_void, ↓reduceIte, mrt10, mrt11, zl2, zl3, zl4, zl8, Bool.false_eq_true, wd_mis0, wd_mis50, wd_ld, l1, ec, em]
theorem l_treaty (hu : u ≤ 50000) (r : Rel u n T V X S K Y) (l1 : mld (outc xs) 1200 (i + 1) false = some e1) (l2 : mld (outc xs) 1200 (i + 2) false = some e2) : Nx xs u 668 a i T U V X S K B A Y := by
  obtain ⟨v, n', T', U', V', X', S', K', B', A', Y', ec, em, r'⟩ := sim_go (as := [.int e1, .int e2]) s_treaty hu r a xs U B A
  refine ⟨n', T', U', V', X', S', K', B', A', Y', ?_, r'⟩
  simp only [r237_668, r237_669, r237_670, r237_671, r237_672, r237_673, r237_674, r237_675, r237_676, r237_677, r237_678, r237_679, r237_682, r237_683, r237_684, r237_685, r237_686, r237_687, r237_688, r237_689, r237_690, r237_691, r237_692, r237_693, r237_696, Nl_none, Nl_int, Nl_ref, Nl_null, Kv_some, Ki_some, Kh_some, Bk_some, Bk_void, ↓reduceIte, mrt10, mrt11, zl2, zl3, zl4, zl8, Bool.false_eq_true, wd_mis0, wd_mis50, wd_ld, l1, l2, ec, em]
theorem l_stirFor (hu : u ≤ 50000) (r : Rel u n T V X S K Y) (l1 : mld (outc xs) 1200 (i + 1) false = some e1) (l2 : mld (outc xs) 1200 (i + 2) false = some e2) : Nx xs u 701 a i T U V X S K B A Y := by
  obtain ⟨v, n', T', U', V', X', S', K', B', A', Y', ec, em, r'⟩ := sim_go (as := [.int e1, .int e2]) s_stirFor hu r a xs U B A
  refine ⟨n', T', U', V', X', S', K', B', A', Y', ?_, r'⟩
  simp only [r237_701, r237_702, r237_703, r237_704, r237_705, r237_706, r237_707, r237_708, r237_709, r237_710, r237_711, r237_712, r237_715, r237_716, r237_717, r237_718, r237_719, r237_720, r237_721, r237_722, r237_723, r237_724, r237_725, r237_726, r237_729, Nl_none, Nl_int, Nl_ref, Nl_null, Kv_some, Ki_some, Kh_some, Bk_some, Bk_void, ↓reduceIte, mrt10, mrt11, zl2, zl3, zl4, zl8, Bool.false_eq_true, wd_mis0, wd_mis50, wd_ld, l1, l2, ec, em]
theorem l_put (hu : u ≤ 50000) (r : Rel u n T V X S K Y) (l1 : mld (outc xs) 1200 (i + 1) false = some e1) (l2 : mld (outc xs) 1200 (i + 2) false = some e2) : Nx xs u 734 a i T U V X S K B A Y := by
  obtain ⟨v, n', T', U', V', X', S', K', B', A', Y', ec, em, r'⟩ := sim_go (as := [.int e1, .int e2]) s_put hu r a xs U B A
  refine ⟨n', T', U', V', X', S', K', B', A', Y', ?_, r'⟩
  simp only [r237_734, r237_735, r237_736, r237_737, r237_738, r237_739, r237_740, r237_741, r237_742, r237_743, r237_744, r237_745, r237_748, r237_749, r237_750, r237_751, r237_752, r237_753, r237_754, r237_755, r237_756, r237_757, r237_758, r237_759, r237_762, Nl_none, Nl_int, Nl_ref, Nl_null, Kv_some, Ki_some, Kh_some, Bk_some, Bk_void, ↓reduceIte, mrt10, mrt11, zl2, zl3, zl4, zl8, Bool.false_eq_true, wd_mis0, wd_mis50, wd_ld, l1, l2, ec, em]
theorem l_kindFor (hu : u ≤ 50000) (r : Rel u n T V X S K Y) (l1 : mld (outc xs) 1200 (i + 1) false = some e1) (l2 : mld (outc xs) 1200 (i + 2) false = some e2) : Nx xs u 767 a i T U V X S K B A Y := by
  obtain ⟨v, n', T', U', V', X', S', K', B', A', Y', ec, em, r'⟩ := sim_go (as := [.int e1, .int e2]) s_kindFor hu r a xs U B A
  refine ⟨n', T', U', V', X', S', K', B', A', Y', ?_, r'⟩
  simp only [r237_767, r237_768, r237_769, r237_770, r237_771, r237_772, r237_773, r237_774, r237_775, r237_776, r237_777, r237_778, r237_781, r237_782, r237_783, r237_784, r237_785, r237_786, r237_787, r237_788, r237_789, r237_790, r237_791, r237_792, r237_795, Nl_none, Nl_int, Nl_ref, Nl_null, Kv_some, Ki_some, Kh_some, Bk_some, Bk_void, ↓reduceIte, mrt10, mrt11, zl2, zl3, zl4, zl8, Bool.false_eq_true, wd_mis0, wd_mis50, wd_ld, l1, l2, ec, em]
theorem l_holdsFor (hu : u ≤ 50000) (r : Rel u n T V X S K Y) (l1 : mld (outc xs) 1200 (i + 1) false = some e1) (l2 : mld (outc xs) 1200 (i + 2) false = some e2) : Nx xs u 800 a i T U V X S K B A Y := by
  obtain ⟨v, n', T', U', V', X', S', K', B', A', Y', ec, em, r'⟩ := sim_go (as := [.int e1, .int e2]) s_holdsFor hu r a xs U B A
  refine ⟨n', T', U', V', X', S', K', B', A', Y', ?_, r'⟩
  simp only [r237_800, r237_801, r237_802, r237_803, r237_804, r237_805, r237_806, r237_807, r237_808, r237_809, r237_810, r237_811, r237_814, r237_815, r237_816, r237_817, r237_818, r237_819, r237_820, r237_821, r237_822, r237_823, r237_824, r237_825, r237_828, Nl_none, Nl_int, Nl_ref, Nl_null, Kv_some, Ki_some, Kh_some, Bk_some, Bk_void, ↓reduceIte, mrt10, mrt11, zl2, zl3, zl4, zl8, Bool.false_eq_true, wd_mis0, wd_mis50, wd_ld, l1, l2, ec, em]
theorem l_lyeFor (hu : u ≤ 50000) (r : Rel u n T V X S K Y) (l1 : mld (outc xs) 1200 (i + 1) false = some e1) (l2 : mld (outc xs) 1200 (i + 2) false = some e2) : Nx xs u 833 a i T U V X S K B A Y := by
  obtain ⟨v, n', T', U', V', X', S', K', B', A', Y', ec, em, r'⟩ := sim_go (as := [.int e1, .int e2]) s_lyeFor hu r a xs U B A
  refine ⟨n', T', U', V', X', S', K', B', A', Y', ?_, r'⟩
  simp only [r237_833, r237_834, r237_835, r237_836, r237_837, r237_838, r237_839, r237_840, r237_841, r237_842, r237_843, r237_844, r237_847, r237_848, r237_849, r237_850, r237_851, r237_852, r237_853, r237_854, r237_855, r237_856, r237_857, r237_858, r237_861, Nl_none, Nl_int, Nl_ref, Nl_null, Kv_some, Ki_some, Kh_some, Bk_some, Bk_void, ↓reduceIte, mrt10, mrt11, zl2, zl3, zl4, zl8, Bool.false_eq_true, wd_mis0, wd_mis50, wd_ld, l1, l2, ec, em]
theorem l_out (hu : u ≤ 50000) (r : Rel u n T V X S K Y) (l1 : mld (outc xs) 1200 (i + 1) false = some e1) (l2 : mld (outc xs) 1200 (i + 2) false = some e2) : Nx xs u 866 a i T U V X S K B A Y := by
  obtain ⟨v, n', T', U', V', X', S', K', B', A', Y', ec, em, r'⟩ := sim_go (as := [.int e1, .int e2]) s_out hu r a xs U B A
  refine ⟨n', T', U', V', X', S', K', B', A', Y', ?_, r'⟩
  simp only [r237_866, r237_867, r237_868, r237_869, r237_870, r237_871, r237_872, r237_873, r237_874, r237_875, r237_876, r237_877, r237_880, r237_881, r237_882, r237_883, r237_884, r237_885, r237_886, r237_887, r237_888, r237_889, r237_890, r237_891, r237_894, Nl_none, Nl_int, Nl_ref, Nl_null, Kv_some, Ki_some, Kh_some, Bk_some, Bk_void, ↓reduceIte, mrt10, mrt11, zl2, zl3, zl4, zl8, Bool.false_eq_true, wd_mis0, wd_mis50, wd_ld, l1, l2, ec, em]
theorem l_fits (hu : u ≤ 50000) (r : Rel u n T V X S K Y) (l1 : mld (outc xs) 1200 (i + 1) false = some e1) (l2 : mld (outc xs) 1200 (i + 2) false = some e2) (l3 : mld (outc xs) 1200 (i + 3) false = some e3) : Nx xs u 899 a i T U V X S K B A Y := by
  obtain ⟨v, n', T', U', V', X', S', K', B', A', Y', ec, em, r'⟩ := sim_go (as := [.int e1, .int e2, .int e3]) s_fits hu r a xs U B A
  refine ⟨n', T', U', V', X', S', K', B', A', Y', ?_, r'⟩
  simp only [r237_899, r237_900, r237_901, r237_902, r237_903, r237_904, r237_905, r237_906, r237_907, r237_908, r237_909, r237_910, r237_911, r237_912, r237_913, r237_914, r237_915, r237_918, r237_919, r237_920, r237_921, r237_922, r237_923, r237_924, r237_925, r237_926, r237_927, r237_928, r237_929, r237_930, r237_931, r237_932, r237_933, r237_934, r237_937, Nl_none, Nl_int, Nl_ref, Nl_null, Kv_some, Ki_some, Kh_some, Bk_some, Bk_void, ↓reduceIte, mrt10, mrt11, zl2, zl3, zl4, zl8, Bool.false_eq_true, wd_mis0, wd_mis50, wd_ld, l1, l2, l3, ec, em]
theorem l_held (hu : u ≤ 50000) (r : Rel u n T V X S K Y) (l1 : mld (outc xs) 1200 (i + 1) false = some e1) (l2 : mld (outc xs) 1200 (i + 2) false = some e2) (l3 : mld (outc xs) 1200 (i + 3) false = some e3) : Nx xs u 942 a i T U V X S K B A Y := by
  obtain ⟨v, n', T', U', V', X', S', K', B', A', Y', ec, em, r'⟩ := sim_go (as := [.int e1, .int e2, .int e3]) s_held hu r a xs U B A
  refine ⟨n', T', U', V', X', S', K', B', A', Y', ?_, r'⟩
  simp only [r237_942, r237_943, r237_944, r237_945, r237_946, r237_947, r237_948, r237_949, r237_950, r237_951, r237_952, r237_953, r237_954, r237_955, r237_956, r237_957, r237_958, r237_961, r237_962, r237_963, r237_964, r237_965, r237_966, r237_967, r237_968, r237_969, r237_970, r237_971, r237_972, r237_973, r237_974, r237_975, r237_976, r237_977, r237_980, Nl_none, Nl_int, Nl_ref, Nl_null, Kv_some, Ki_some, Kh_some, Bk_some, Bk_void, ↓reduceIte, mrt10, mrt11, zl2, zl3, zl4, zl8, Bool.false_eq_true, wd_mis0, wd_mis50, wd_ld, l1, l2, l3, ec, em]
theorem l_kinds (hu : u ≤ 50000) (r : Rel u n T V X S K Y) (l1 : mld (outc xs) 1200 (i + 1) false = some e1) (l2 : mld (outc xs) 1200 (i + 2) false = some e2) : Nx xs u 985 a i T U V X S K B A Y := by
  obtain ⟨v, n', T', U', V', X', S', K', B', A', Y', ec, em, r'⟩ := sim_go (as := [.int e1, .int e2]) s_kinds hu r a xs U B A
  refine ⟨n', T', U', V', X', S', K', B', A', Y', ?_, r'⟩
  simp only [r237_985, r237_986, r237_987, r237_988, r237_989, r237_990, r237_991, r237_992, r237_993, r237_994, r237_995, r237_996, r237_999, r237_1000, r237_1001, r237_1002, r237_1003, r237_1004, r237_1005, r237_1006, r237_1007, r237_1008, r237_1009, r237_1010, r237_1013, Nl_none, Nl_int, Nl_ref, Nl_null, Kv_some, Ki_some, Kh_some, Bk_some, Bk_void, ↓reduceIte, mrt10, mrt11, zl2, zl3, zl4, zl8, Bool.false_eq_true, wd_mis0, wd_mis50, wd_ld, l1, l2, ec, em]
theorem l_sticks (hu : u ≤ 50000) (r : Rel u n T V X S K Y) (l1 : mld (outc xs) 1200 (i + 1) false = some e1) : Nx xs u 1018 a i T U V X S K B A Y := by
  obtain ⟨v, n', T', U', V', X', S', K', B', A', Y', ec, em, r'⟩ := sim_go (as := [.int e1]) s_sticks hu r a xs U B A
  refine ⟨n', T', U', V', X', S', K', B', A', Y', ?_, r'⟩
  simp only [r237_1018, r237_1019, r237_1020, r237_1021, r237_1022, r237_1023, r237_1024, r237_1027, r237_1028, r237_1029, r237_1030, r237_1031, r237_1032, r237_1033, r237_1036, Nl_none, Nl_int, Nl_ref, Nl_null, Kv_some, Ki_some, Kh_some, Bk_some, Bk_void, ↓reduceIte, mrt10, mrt11, zl2, zl3, zl4, zl8, Bool.false_eq_true, wd_mis0, wd_mis50, wd_ld, l1, ec, em]
theorem ll_f {l : Int64} : (l < l) = False := eq_false Int64.lt_irrefl
theorem l_odds (hu : u ≤ 50000) (r : Rel u n T V X S K Y) (l1 : mld (outc xs) 1200 (i + 1) false = some e1) (l2 : mld (outc xs) 1200 (i + 2) false = some e2) : Nx xs u 1041 a i T U V X S K B A Y := by
  obtain ⟨v, n', T', U', V', X', S', K', B', A', Y', ec, em, r'⟩ := sim_goL (as := [.int e1, .int e2]) s_odds hu r a xs U B A
  refine ⟨n', T', U', V', X', S', K', B', A', Y', ?_, r'⟩
  simp only [r237_1041, r237_1042, r237_1043, r237_1044, r237_1045, r237_1046, r237_1047, r237_1048, r237_1049, r237_1050, r237_1051, r237_1052, r237_1055, r237_1056, r237_1057, r237_1058, r237_1059, r237_1060, r237_1061, r237_1062, r237_1063, r237_1064, r237_1065, r237_1066, r237_1069, r237_1070, Nl_none, Nl_int, Nl_ref, Nl_null, Kv_some, Ki_some, Kh_some, Bk_some, Bk_void, ↓reduceIte, mrt10, mrt11, zl2, zl3, zl4, zl8, Bool.false_eq_true, wd_mis0, wd_mis50, wd_ld, l1, l2, ec, em, ll_f]
theorem l_seed (hu : u ≤ 50000) (r : Rel u n T V X S K Y) (l1 : mld (outc xs) 1200 (i + 1) false = some e1) : Nx xs u 1075 a i T U V X S K B A Y := by
  obtain ⟨v, n', T', U', V', X', S', K', B', A', Y', ec, em, r'⟩ := sim_go (as := [.int e1]) s_seed hu r a xs U B A
  refine ⟨n', T', U', V', X', S', K', B', A', Y', ?_, r'⟩
  simp only [r237_1075, r237_1076, r237_1077, r237_1078, r237_1079, r237_1080, r237_1081, r237_1084, r237_1085, r237_1086, r237_1087, r237_1088, r237_1089, r237_1090, r237_1093, Nl_none, Nl_int, Nl_ref, Nl_null, Kv_some, Ki_some, Kh_some, Bk_some, Bk_void, ↓reduceIte, mrt10, mrt11, zl2, zl3, zl4, zl8, Bool.false_eq_true, wd_mis0, wd_mis50, wd_ld, l1, ec, em]
theorem l_feed (hu : u ≤ 50000) (r : Rel u n T V X S K Y) (l1 : mld (outc xs) 1200 (i + 1) false = some e1) (l2 : mld (outc xs) 1200 (i + 2) false = some e2) : Nx xs u 1098 a i T U V X S K B A Y := by
  obtain ⟨v, n', T', U', V', X', S', K', B', A', Y', ec, em, r'⟩ := sim_go (as := [.int e1, .int e2]) s_feed hu r a xs U B A
  refine ⟨n', T', U', V', X', S', K', B', A', Y', ?_, r'⟩
  simp only [r237_1098, r237_1099, r237_1100, r237_1101, r237_1102, r237_1103, r237_1104, r237_1105, r237_1106, r237_1107, r237_1108, r237_1109, r237_1112, r237_1113, r237_1114, r237_1115, r237_1116, r237_1117, r237_1118, r237_1119, r237_1120, r237_1121, r237_1122, r237_1123, r237_1126, Nl_none, Nl_int, Nl_ref, Nl_null, Kv_some, Ki_some, Kh_some, Bk_some, Bk_void, ↓reduceIte, mrt10, mrt11, zl2, zl3, zl4, zl8, Bool.false_eq_true, wd_mis0, wd_mis50, wd_ld, l1, l2, ec, em]
theorem l_wipe (hu : u ≤ 50000) (r : Rel u n T V X S K Y)  : Nx xs u 1131 a i T U V X S K B A Y := by
  obtain ⟨v, n', T', U', V', X', S', K', B', A', Y', ec, em, r'⟩ := sim_go (as := []) s_wipe hu r a xs U B A
  refine ⟨n', T', U', V', X', S', K', B', A', Y', ?_, r'⟩
  simp only [r237_1131, r237_1132, r237_1135, r237_1136, r237_1139, Nl_none, Nl_int, Nl_ref, Nl_null, Kv_some, Ki_some, Kh_some, Bk_some, Bk_void, ↓reduceIte, mrt10, mrt11, zl2, zl3, zl4, zl8, Bool.false_eq_true, wd_mis0, wd_mis50, ec, em]
theorem l_text (hu : u ≤ 50000) (r : Rel u n T V X S K Y)  : Nx xs u 1144 a i T U V X S K B A Y := by
  obtain ⟨v, n', T', U', V', X', S', K', B', A', Y', ec, em, r'⟩ := sim_go (as := []) s_text hu r a xs U B A
  refine ⟨n', T', U', V', X', S', K', B', A', Y', ?_, r'⟩
  simp only [r237_1144, r237_1145, r237_1148, r237_1149, r237_1152, Nl_none, Nl_int, Nl_ref, Nl_null, Kv_some, Ki_some, Kh_some, Bk_some, Bk_void, ↓reduceIte, mrt10, mrt11, zl2, zl3, zl4, zl8, Bool.false_eq_true, wd_mis0, wd_mis50, ec, em]
theorem l_hold (hu : u ≤ 50000) (r : Rel u n T V X S K Y) (l1 : mld (outc xs) 1200 (i + 1) false = some e1) (l2 : mld (outc xs) 1200 (i + 2) false = some e2) : Nx xs u 1157 a i T U V X S K B A Y := by
  obtain ⟨v, n', T', U', V', X', S', K', B', A', Y', ec, em, r'⟩ := sim_go (as := [.int e1, .int e2]) s_hold hu r a xs U B A
  refine ⟨n', T', U', V', X', S', K', B', A', Y', ?_, r'⟩
  simp only [r237_1157, r237_1158, r237_1159, r237_1160, r237_1161, r237_1162, r237_1163, r237_1164, r237_1165, r237_1166, r237_1167, r237_1168, r237_1171, r237_1172, r237_1173, r237_1174, r237_1175, r237_1176, r237_1177, r237_1178, r237_1179, r237_1180, r237_1181, r237_1182, r237_1185, Nl_none, Nl_int, Nl_ref, Nl_null, Kv_some, Ki_some, Kh_some, Bk_some, Bk_void, ↓reduceIte, mrt10, mrt11, zl2, zl3, zl4, zl8, Bool.false_eq_true, wd_mis0, wd_mis50, wd_ld, l1, l2, ec, em]
theorem l_as (hu : u ≤ 50000) (r : Rel u n T V X S K Y) (l1 : mld (outc xs) 1200 (i + 1) false = some e1) (l2 : mld (outc xs) 1200 (i + 2) false = some e2) : Nx xs u 1190 a i T U V X S K B A Y := by
  obtain ⟨v, n', T', U', V', X', S', K', B', A', Y', ec, em, r'⟩ := sim_go (as := [.int e1, .int e2]) s_as hu r a xs U B A
  refine ⟨n', T', U', V', X', S', K', B', A', Y', ?_, r'⟩
  simp only [r237_1190, r237_1191, r237_1192, r237_1193, r237_1194, r237_1195, r237_1196, r237_1197, r237_1198, r237_1199, r237_1200, r237_1201, r237_1204, r237_1205, r237_1206, r237_1207, r237_1208, r237_1209, r237_1210, r237_1211, r237_1212, r237_1213, r237_1214, r237_1215, r237_1218, Nl_none, Nl_int, Nl_ref, Nl_null, Kv_some, Ki_some, Kh_some, Bk_some, Bk_void, ↓reduceIte, mrt10, mrt11, zl2, zl3, zl4, zl8, Bool.false_eq_true, wd_mis0, wd_mis50, wd_ld, l1, l2, ec, em]
theorem l_sheet (hu : u ≤ 50000) (r : Rel u n T V X S K Y) (l1 : mld (outc xs) 1200 (i + 1) false = some e1) (l2 : mld (outc xs) 1200 (i + 2) false = some e2) (l3 : mld (outc xs) 1200 (i + 3) false = some e3) : Nx xs u 1223 a i T U V X S K B A Y := by
  obtain ⟨v, n', T', U', V', X', S', K', B', A', Y', ec, em, r'⟩ := sim_go (as := [.int e1, .int e2, .int e3]) s_sheet hu r a xs U B A
  refine ⟨n', T', U', V', X', S', K', B', A', Y', ?_, r'⟩
  simp only [r237_1223, r237_1224, r237_1225, r237_1226, r237_1227, r237_1228, r237_1229, r237_1230, r237_1231, r237_1232, r237_1233, r237_1234, r237_1235, r237_1236, r237_1237, r237_1238, r237_1239, r237_1242, r237_1243, r237_1244, r237_1245, r237_1246, r237_1247, r237_1248, r237_1249, r237_1250, r237_1251, r237_1252, r237_1253, r237_1254, r237_1255, r237_1256, r237_1257, r237_1258, r237_1261, Nl_none, Nl_int, Nl_ref, Nl_null, Kv_some, Ki_some, Kh_some, Bk_some, Bk_void, ↓reduceIte, mrt10, mrt11, zl2, zl3, zl4, zl8, Bool.false_eq_true, wd_mis0, wd_mis50, wd_ld, l1, l2, l3, ec, em]
theorem l_write (hu : u ≤ 50000) (r : Rel u n T V X S K Y) (l1 : mld (outc xs) 1200 (i + 1) false = some e1) (l2 : mld (outc xs) 1200 (i + 2) false = some e2) (l3 : mld (outc xs) 1200 (i + 3) false = some e3) : Nx xs u 1266 a i T U V X S K B A Y := by
  obtain ⟨v, n', T', U', V', X', S', K', B', A', Y', ec, em, r'⟩ := sim_go (as := [.int e1, .int e2, .int e3]) s_write hu r a xs U B A
  refine ⟨n', T', U', V', X', S', K', B', A', Y', ?_, r'⟩
  simp only [r237_1266, r237_1267, r237_1268, r237_1269, r237_1270, r237_1271, r237_1272, r237_1273, r237_1274, r237_1275, r237_1276, r237_1277, r237_1278, r237_1279, r237_1280, r237_1281, r237_1282, r237_1285, r237_1286, r237_1287, r237_1288, r237_1289, r237_1290, r237_1291, r237_1292, r237_1293, r237_1294, r237_1295, r237_1296, r237_1297, r237_1298, r237_1299, r237_1300, r237_1301, r237_1304, Nl_none, Nl_int, Nl_ref, Nl_null, Kv_some, Ki_some, Kh_some, Bk_some, Bk_void, ↓reduceIte, mrt10, mrt11, zl2, zl3, zl4, zl8, Bool.false_eq_true, wd_mis0, wd_mis50, wd_ld, l1, l2, l3, ec, em]
theorem l_copy (hu : u ≤ 50000) (r : Rel u n T V X S K Y) (l1 : mld (outc xs) 1200 (i + 1) false = some e1) (l2 : mld (outc xs) 1200 (i + 2) false = some e2) (l3 : mld (outc xs) 1200 (i + 3) false = some e3) (l4 : mld (outc xs) 1200 (i + 4) false = some e4) (l5 : mld (outc xs) 1200 (i + 5) false = some e5) : Nx xs u 1309 a i T U V X S K B A Y := by
  obtain ⟨v, n', T', U', V', X', S', K', B', A', Y', ec, em, r'⟩ := sim_go (as := [.int e1, .int e2, .int e3, .int e4, .int e5]) s_copy hu r a xs U B A
  refine ⟨n', T', U', V', X', S', K', B', A', Y', ?_, r'⟩
  simp only [r237_1309, r237_1310, r237_1311, r237_1312, r237_1313, r237_1314, r237_1315, r237_1316, r237_1317, r237_1318, r237_1319, r237_1320, r237_1321, r237_1322, r237_1323, r237_1324, r237_1325, r237_1326, r237_1327, r237_1328, r237_1329, r237_1330, r237_1331, r237_1332, r237_1333, r237_1334, r237_1335, r237_1338, r237_1339, r237_1340, r237_1341, r237_1342, r237_1343, r237_1344, r237_1345, r237_1346, r237_1347, r237_1348, r237_1349, r237_1350, r237_1351, r237_1352, r237_1353, r237_1354, r237_1355, r237_1356, r237_1357, r237_1358, r237_1359, r237_1360, r237_1361, r237_1362, r237_1363, r237_1364, r237_1367, Nl_none, Nl_int, Nl_ref, Nl_null, Kv_some, Ki_some, Kh_some, Bk_some, Bk_void, ↓reduceIte, mrt10, mrt11, zl2, zl3, zl4, zl8, Bool.false_eq_true, wd_mis0, wd_mis50, wd_ld, l1, l2, l3, l4, l5, ec, em]
theorem l_load (hu : u ≤ 50000) (r : Rel u n T V X S K Y) (l1 : mld (outc xs) 1200 (i + 1) false = some e1) : Nx xs u 1372 a i T U V X S K B A Y := by
  obtain ⟨v, n', T', U', V', X', S', K', B', A', Y', ec, em, r'⟩ := sim_go (as := [.int e1]) s_load hu r a xs U B A
  refine ⟨n', T', U', V', X', S', K', B', A', Y', ?_, r'⟩
  simp only [r237_1372, r237_1373, r237_1374, r237_1375, r237_1376, r237_1377, r237_1378, r237_1381, r237_1382, r237_1383, r237_1384, r237_1385, r237_1386, r237_1387, r237_1390, Nl_none, Nl_int, Nl_ref, Nl_null, Kv_some, Ki_some, Kh_some, Bk_some, Bk_void, ↓reduceIte, mrt10, mrt11, zl2, zl3, zl4, zl8, Bool.false_eq_true, wd_mis0, wd_mis50, wd_ld, l1, ec, em]
theorem l_judge (hu : u ≤ 50000) (r : Rel u n T V X S K Y) (l1 : mld (outc xs) 1200 (i + 1) false = some e1) : Nx xs u 1395 a i T U V X S K B A Y := by
  obtain ⟨v, n', T', U', V', X', S', K', B', A', Y', ec, em, r'⟩ := sim_go (as := [.int e1]) s_judge hu r a xs U B A
  refine ⟨n', T', U', V', X', S', K', B', A', Y', ?_, r'⟩
  simp only [r237_1395, r237_1396, r237_1397, r237_1398, r237_1399, r237_1400, r237_1401, r237_1404, r237_1405, r237_1406, r237_1407, r237_1408, r237_1409, r237_1410, r237_1413, Nl_none, Nl_int, Nl_ref, Nl_null, Kv_some, Ki_some, Kh_some, Bk_some, Bk_void, ↓reduceIte, mrt10, mrt11, zl2, zl3, zl4, zl8, Bool.false_eq_true, wd_mis0, wd_mis50, wd_ld, l1, ec, em]
theorem l_image (hu : u ≤ 50000) (r : Rel u n T V X S K Y)  : Nx xs u 1418 a i T U V X S K B A Y := by
  obtain ⟨v, n', T', U', V', X', S', K', B', A', Y', ec, em, r'⟩ := sim_go (as := []) s_image hu r a xs U B A
  refine ⟨n', T', U', V', X', S', K', B', A', Y', ?_, r'⟩
  simp only [r237_1418, r237_1419, r237_1422, r237_1423, r237_1426, Nl_none, Nl_int, Nl_ref, Nl_null, Kv_some, Ki_some, Kh_some, Bk_some, Bk_void, ↓reduceIte, mrt10, mrt11, zl2, zl3, zl4, zl8, Bool.false_eq_true, wd_mis0, wd_mis50, ec, em]
theorem l_undo (hu : u ≤ 50000) (r : Rel u n T V X S K Y)  : Nx xs u 1431 a i T U V X S K B A Y := by
  obtain ⟨v, n', T', U', V', X', S', K', B', A', Y', ec, em, r'⟩ := sim_go (as := []) s_undo hu r a xs U B A
  refine ⟨n', T', U', V', X', S', K', B', A', Y', ?_, r'⟩
  simp only [r237_1431, r237_1432, r237_1435, r237_1436, r237_1439, Nl_none, Nl_int, Nl_ref, Nl_null, Kv_some, Ki_some, Kh_some, Bk_some, Bk_void, ↓reduceIte, mrt10, mrt11, zl2, zl3, zl4, zl8, Bool.false_eq_true, wd_mis0, wd_mis50, ec, em]
theorem l_tear (hu : u ≤ 50000) (r : Rel u n T V X S K Y)  : Nx xs u 1444 a i T U V X S K B A Y := by
  obtain ⟨v, n', T', U', V', X', S', K', B', A', Y', ec, em, r'⟩ := sim_go (as := []) s_tear hu r a xs U B A
  refine ⟨n', T', U', V', X', S', K', B', A', Y', ?_, r'⟩
  simp only [r237_1444, r237_1445, r237_1448, r237_1449, r237_1452, Nl_none, Nl_int, Nl_ref, Nl_null, Kv_some, Ki_some, Kh_some, Bk_some, Bk_void, ↓reduceIte, mrt10, mrt11, zl2, zl3, zl4, zl8, Bool.false_eq_true, wd_mis0, wd_mis50, ec, em]
theorem l_count (hu : u ≤ 50000) (r : Rel u n T V X S K Y) (l1 : mld (outc xs) 1200 (i + 1) false = some e1) : Nx xs u 1457 a i T U V X S K B A Y := by
  obtain ⟨v, n', T', U', V', X', S', K', B', A', Y', ec, em, r'⟩ := sim_go (as := [.int e1]) s_count hu r a xs U B A
  refine ⟨n', T', U', V', X', S', K', B', A', Y', ?_, r'⟩
  simp only [r237_1457, r237_1458, r237_1459, r237_1460, r237_1461, r237_1462, r237_1463, r237_1466, r237_1467, r237_1468, r237_1469, r237_1470, r237_1471, r237_1472, r237_1475, Nl_none, Nl_int, Nl_ref, Nl_null, Kv_some, Ki_some, Kh_some, Bk_some, Bk_void, ↓reduceIte, mrt10, mrt11, zl2, zl3, zl4, zl8, Bool.false_eq_true, wd_mis0, wd_mis50, wd_ld, l1, ec, em]
theorem l_status (hu : u ≤ 50000) (r : Rel u n T V X S K Y) (l1 : mld (outc xs) 1200 (i + 1) false = some e1) : Nx xs u 1480 a i T U V X S K B A Y := by
  obtain ⟨v, n', T', U', V', X', S', K', B', A', Y', ec, em, r'⟩ := sim_go (as := [.int e1]) s_status hu r a xs U B A
  refine ⟨n', T', U', V', X', S', K', B', A', Y', ?_, r'⟩
  simp only [r237_1480, r237_1481, r237_1482, r237_1483, r237_1484, r237_1485, r237_1486, r237_1489, r237_1490, r237_1491, r237_1492, r237_1493, r237_1494, r237_1495, r237_1498, Nl_none, Nl_int, Nl_ref, Nl_null, Kv_some, Ki_some, Kh_some, Bk_some, Bk_void, ↓reduceIte, mrt10, mrt11, zl2, zl3, zl4, zl8, Bool.false_eq_true, wd_mis0, wd_mis50, wd_ld, l1, ec, em]
/-- one call of the script -/
theorem law_call (hu : u ≤ 50000) (r : Rel u n T V X S K Y) (l0 : mld (outc xs) 1200 i false = some e0) (l1 : mld (outc xs) 1200 (i + 1) false = some e1) (l2 : mld (outc xs) 1200 (i + 2) false = some e2) (l3 : mld (outc xs) 1200 (i + 3) false = some e3) (l4 : mld (outc xs) 1200 (i + 4) false = some e4) (l5 : mld (outc xs) 1200 (i + 5) false = some e5) : Nx xs u 27 a i T U V X S K B A Y := by
  have go : ∀ (pc : Nat), Rn 237 (33, LL i, [.int (e0 &&& 63)], a, Wd xs T U V X S K B A Y) = Rn 237 (pc, LL i, [], a, Wd xs T U V X S K B A Y) → Nx xs u pc a i T U V X S K B A Y → Nx xs u 27 a i T U V X S K B A Y := fun pc e ⟨n', T', U', V', X', S', K', B', A', Y', e', r'⟩ => by
    refine ⟨n', T', U', V', X', S', K', B', A', Y', ?_, r'⟩
    rw [← e', ← e]
    simp only [r237_27, r237_28, r237_29, r237_30, r237_32, Nl_none, Nl_int, Nl_ref, Nl_null, Kv_some, Ki_some, Kh_some, Bk_some, Bk_void, ↓reduceIte, mrt10, mrt11, zl2, zl3, zl4, zl8, Bool.false_eq_true, wd_ld, l0]
  by_cases d : (e0 &&& 63).toInt < 0 ∨ 41 < (e0 &&& 63).toInt
  · exact go 1503 (r237_33_d d) ⟨n, T, U, V, X, S, K, B, A, Y, rfl, r.mono (by omega)⟩
  obtain ⟨k, hk, e⟩ := of_rg (x := e0 &&& 63) (m := 42) (by omega) (by omega) (by decide)
  have c : k = 0 ∨ k = 1 ∨ k = 2 ∨ k = 3 ∨ k = 4 ∨ k = 5 ∨ k = 6 ∨ k = 7 ∨ k = 8 ∨ k = 9 ∨ k = 10 ∨ k = 11 ∨ k = 12 ∨ k = 13 ∨ k = 14 ∨ k = 15 ∨ k = 16 ∨ k = 17 ∨ k = 18 ∨ k = 19 ∨ k = 20 ∨ k = 21 ∨ k = 22 ∨ k = 23 ∨ k = 24 ∨ k = 25 ∨ k = 26 ∨ k = 27 ∨ k = 28 ∨ k = 29 ∨ k = 30 ∨ k = 31 ∨ k = 32 ∨ k = 33 ∨ k = 34 ∨ k = 35 ∨ k = 36 ∨ k = 37 ∨ k = 38 ∨ k = 39 ∨ k = 40 ∨ k = 41 := by omega
  rcases c with rfl | rfl | rfl | rfl | rfl | rfl | rfl | rfl | rfl | rfl | rfl | rfl | rfl | rfl | rfl | rfl | rfl | rfl | rfl | rfl | rfl | rfl | rfl | rfl | rfl | rfl | rfl | rfl | rfl | rfl | rfl | rfl | rfl | rfl | rfl | rfl | rfl | rfl | rfl | rfl | rfl | rfl
  · exact go 216 (by rw [show e0 &&& 63 = (0 : Int32) from e]; exact r237_33_0) (l_dye hu r l1 l2 l3)
  · exact go 259 (by rw [show e0 &&& 63 = (1 : Int32) from e]; exact r237_33_1) (l_layer hu r l1 l2)
  · exact go 292 (by rw [show e0 &&& 63 = (2 : Int32) from e]; exact r237_33_2) (l_lye hu r l1)
  · exact go 315 (by rw [show e0 &&& 63 = (3 : Int32) from e]; exact r237_33_3) (l_stir hu r l1 l2)
  · exact go 348 (by rw [show e0 &&& 63 = (4 : Int32) from e]; exact r237_33_4) (l_thing hu r l1 l2)
  · exact go 381 (by rw [show e0 &&& 63 = (5 : Int32) from e]; exact r237_33_5) (l_of hu r l1 l2)
  · exact go 414 (by rw [show e0 &&& 63 = (6 : Int32) from e]; exact r237_33_6) (l_change hu r l1 l2 l3)
  · exact go 457 (by rw [show e0 &&& 63 = (7 : Int32) from e]; exact r237_33_7) (l_go hu r l1)
  · exact go 480 (by rw [show e0 &&& 63 = (8 : Int32) from e]; exact r237_33_8) (l_now hu r l1)
  · exact go 503 (by rw [show e0 &&& 63 = (9 : Int32) from e]; exact r237_33_9) (l_ahead hu r l1 l2 l3)
  · exact go 546 (by rw [show e0 &&& 63 = (10 : Int32) from e]; exact r237_33_10) (l_dyed hu r l1 l2 l3)
  · exact go 589 (by rw [show e0 &&& 63 = (11 : Int32) from e]; exact r237_33_11) (l_seen hu r l1)
  · exact go 612 (by rw [show e0 &&& 63 = (12 : Int32) from e]; exact r237_33_12) (l_when hu r l1 l2)
  · exact go 645 (by rw [show e0 &&& 63 = (13 : Int32) from e]; exact r237_33_13) (l_murky hu r l1)
  · exact go 668 (by rw [show e0 &&& 63 = (14 : Int32) from e]; exact r237_33_14) (l_treaty hu r l1 l2)
  · exact go 701 (by rw [show e0 &&& 63 = (15 : Int32) from e]; exact r237_33_15) (l_stirFor hu r l1 l2)
  · exact go 734 (by rw [show e0 &&& 63 = (16 : Int32) from e]; exact r237_33_16) (l_put hu r l1 l2)
  · exact go 767 (by rw [show e0 &&& 63 = (17 : Int32) from e]; exact r237_33_17) (l_kindFor hu r l1 l2)
  · exact go 800 (by rw [show e0 &&& 63 = (18 : Int32) from e]; exact r237_33_18) (l_holdsFor hu r l1 l2)
  · exact go 833 (by rw [show e0 &&& 63 = (19 : Int32) from e]; exact r237_33_19) (l_lyeFor hu r l1 l2)
  · exact go 866 (by rw [show e0 &&& 63 = (20 : Int32) from e]; exact r237_33_20) (l_out hu r l1 l2)
  · exact go 899 (by rw [show e0 &&& 63 = (21 : Int32) from e]; exact r237_33_21) (l_fits hu r l1 l2 l3)
  · exact go 942 (by rw [show e0 &&& 63 = (22 : Int32) from e]; exact r237_33_22) (l_held hu r l1 l2 l3)
  · exact go 985 (by rw [show e0 &&& 63 = (23 : Int32) from e]; exact r237_33_23) (l_kinds hu r l1 l2)
  · exact go 1018 (by rw [show e0 &&& 63 = (24 : Int32) from e]; exact r237_33_24) (l_sticks hu r l1)
  · exact go 1041 (by rw [show e0 &&& 63 = (25 : Int32) from e]; exact r237_33_25) (l_odds hu r l1 l2)
  · exact go 1075 (by rw [show e0 &&& 63 = (26 : Int32) from e]; exact r237_33_26) (l_seed hu r l1)
  · exact go 1098 (by rw [show e0 &&& 63 = (27 : Int32) from e]; exact r237_33_27) (l_feed hu r l1 l2)
  · exact go 1131 (by rw [show e0 &&& 63 = (28 : Int32) from e]; exact r237_33_28) (l_wipe hu r)
  · exact go 1144 (by rw [show e0 &&& 63 = (29 : Int32) from e]; exact r237_33_29) (l_text hu r)
  · exact go 1157 (by rw [show e0 &&& 63 = (30 : Int32) from e]; exact r237_33_30) (l_hold hu r l1 l2)
  · exact go 1190 (by rw [show e0 &&& 63 = (31 : Int32) from e]; exact r237_33_31) (l_as hu r l1 l2)
  · exact go 1223 (by rw [show e0 &&& 63 = (32 : Int32) from e]; exact r237_33_32) (l_sheet hu r l1 l2 l3)
  · exact go 1266 (by rw [show e0 &&& 63 = (33 : Int32) from e]; exact r237_33_33) (l_write hu r l1 l2 l3)
  · exact go 1309 (by rw [show e0 &&& 63 = (34 : Int32) from e]; exact r237_33_34) (l_copy hu r l1 l2 l3 l4 l5)
  · exact go 1372 (by rw [show e0 &&& 63 = (35 : Int32) from e]; exact r237_33_35) (l_load hu r l1)
  · exact go 1395 (by rw [show e0 &&& 63 = (36 : Int32) from e]; exact r237_33_36) (l_judge hu r l1)
  · exact go 1418 (by rw [show e0 &&& 63 = (37 : Int32) from e]; exact r237_33_37) (l_image hu r)
  · exact go 1431 (by rw [show e0 &&& 63 = (38 : Int32) from e]; exact r237_33_38) (l_undo hu r)
  · exact go 1444 (by rw [show e0 &&& 63 = (39 : Int32) from e]; exact r237_33_39) (l_tear hu r)
  · exact go 1457 (by rw [show e0 &&& 63 = (40 : Int32) from e]; exact r237_33_40) (l_count hu r l1)
  · exact go 1480 (by rw [show e0 &&& 63 = (41 : Int32) from e]; exact r237_33_41) (l_status hu r l1)
theorem law_loop (hx : xs.length ≤ 3072) : ∀ (m c n : Nat) (T U V X S K B A Y : TS), 6 * (c + m) ≤ xs.length → xs.length < 6 * (c + m) + 6 → Rel (60 * c) n T V X S K Y → ∃ h', Rn 237 (18, LL (Int32.ofNat (6 * c)), [], a, Wd xs T U V X S K B A Y) = some (some (.int 1), a, h') := by
  intro m
  induction m with
  | zero =>
    intro c n T U V X S K B A Y h1 h2 r
    refine ⟨Wd xs T U V X S K B A Y, ?_⟩
    have lt : (Int32.ofNat xs.length - 6 < Int32.ofNat (6 * c)) = True := by
      have f := ti_of (n := xs.length) (by omega)
      have g := ti_of (n := 6 * c) (by omega)
      have e6 : (6 : Int32).toInt = 6 := by decide
      rw [lt_ti, ti_sub (by omega) (by omega)]
      exact eq_true (by omega)
    simp only [r237_18, r237_19, r237_20, r237_21, r237_23, r237_24, r237_1509, r237_1510, Nl_none, Nl_int, Nl_ref, Nl_null, Kv_some, Ki_some, Kh_some, Bk_some, Bk_void, ↓reduceIte, mrt10, mrt11, zl2, zl3, zl4, zl8, Bool.false_eq_true, wd_len, lt]
  | succ m ih =>
    intro c n T U V X S K B A Y h1 h2 r
    have lt : (Int32.ofNat xs.length - 6 < Int32.ofNat (6 * c)) = False := by
      have f := ti_of (n := xs.length) (by omega)
      have g := ti_of (n := 6 * c) (by omega)
      have e6 : (6 : Int32).toInt = 6 := by decide
      rw [lt_ti, ti_sub (by omega) (by omega)]
      exact eq_false (by omega)
    have ld : ∀ j, j < 6 → mld (outc xs) 1200 (Int32.ofNat (6 * c + j)) false = some (xs.getD (6 * c + j) 0) := fun j hj => oc_ld (by omega) (by omega)
    have ld1 : ∀ j, j < 6 → mld (outc xs) 1200 (Int32.ofNat (6 * c) + Int32.ofNat j) false = some (xs.getD (6 * c + j) 0) := fun j hj => by rw [of_add]; exact ld j hj
    obtain ⟨n', T', U', V', X', S', K', B', A', Y', e, r'⟩ := law_call (u := 60 * (c : Int)) (i := Int32.ofNat (6 * c)) (a := a) (U := U) (B := B) (A := A) (by omega) r (ld 0 (by omega)) (ld1 1 (by omega)) (ld1 2 (by omega)) (ld1 3 (by omega)) (ld1 4 (by omega)) (ld1 5 (by omega))
    obtain ⟨h', e2⟩ := ih (c + 1) n' T' U' V' X' S' K' B' A' Y' (by omega) (by omega) (r'.mono (by omega))
    refine ⟨h', ?_⟩
    have st : Rn 237 (18, LL (Int32.ofNat (6 * c)), [], a, Wd xs T U V X S K B A Y) = Rn 237 (27, LL (Int32.ofNat (6 * c)), [], a, Wd xs T U V X S K B A Y) := by
      simp only [r237_18, r237_19, r237_20, r237_21, r237_23, r237_24, Nl_none, Nl_int, Nl_ref, Nl_null, Kv_some, Ki_some, Kh_some, Bk_some, Bk_void, ↓reduceIte, mrt10, mrt11, zl2, zl3, zl4, zl8, Bool.false_eq_true, wd_len, lt]
    have en : Rn 237 (1503, LL (Int32.ofNat (6 * c)), [], a, Wd xs T' U' V' X' S' K' B' A' Y') = Rn 237 (18, LL (Int32.ofNat (6 * (c + 1))), [], a, Wd xs T' U' V' X' S' K' B' A' Y') := by
      have e6 : Int32.ofNat (6 * c) + 6 = Int32.ofNat (6 * (c + 1)) := of_add (6 * c) 6
      rw [← e6]
      simp only [r237_1503, r237_1506, Nl_none, Nl_int, Nl_ref, Nl_null, Kv_some, Ki_some, Kh_some, Bk_some, Bk_void, ↓reduceIte, mrt10, mrt11, zl2, zl3, zl4, zl8, Bool.false_eq_true]
    rw [st, e, en]
    exact e2
end
