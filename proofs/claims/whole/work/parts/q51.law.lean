/-! ===== the law: a call of the script on both sides; the loop ===== -/
def Wd (xs : List Int32) (T U V X S K B A Y : TS) : MH := cw (mw (outc xs) S K B A Y) T U V X
abbrev LL (i : Int32) : ML := [some (.ref 1200), some (.ref 0), some (.ref 50), some (.int i)]
section
variable {xs : List Int32} {h : MH} {T U V X S K B A Y T' V' X' S' K' Y' : TS} {x y z v w i e0 e1 e2 e3 e4 e5 : Int32} {n n' k m s : Nat} {u u' : Int} {a : MA} {Mc Mr : Nat} {as : List Value}
theorem wd_cm : cw (mw h S K B A Y) T U V X = mw (cw h T U V X) S K B A Y := by
  funext q
  by_cases e : 50 ≤ q
  · rw [cw_off e]
    by_cases e2 : q < 60
    · rw [mw_at ⟨e, e2⟩, mw_at ⟨e, e2⟩]
    · rw [mw_off (by omega), mw_off (by omega), cw_off e]
  · rw [mw_off (by omega)]
    unfold cw setTub
    have o : setX (mw h S K B A Y) X q = setX h X q := by
      unfold setX
      by_cases e1 : q = 0 ∨ 37 ≤ q ∧ q < 50
      · rw [if_pos e1, if_pos e1]
      · rw [if_neg e1, if_neg e1, mw_off (by omega)]
    by_cases e1 : 25 ≤ q ∧ q < 25 + 12
    · rw [if_pos e1, if_pos e1]
    rw [if_neg e1, if_neg e1]
    by_cases e1 : 13 ≤ q ∧ q < 13 + 12
    · rw [if_pos e1, if_pos e1]
    rw [if_neg e1, if_neg e1]
    by_cases e1 : 1 ≤ q ∧ q < 1 + 12
    · rw [if_pos e1, if_pos e1]
    rw [if_neg e1, if_neg e1]
    exact o
theorem wd_hst : Hst (mw (outc xs) S K B A Y) := ⟨xs, fun q hq => mw_off (by omega)⟩
theorem wd_off {q : Nat} (hq : 60 ≤ q) : Wd xs T U V X S K B A Y q = outc xs q := by
  unfold Wd
  rw [cw_off (by omega), mw_off (by omega)]
theorem wd_mis0 : mis (Wd xs T U V X S K B A Y) 0 5 = true := cx_mis
theorem wd_mis50 : mis (Wd xs T U V X S K B A Y) 50 6 = true := by unfold Wd; rw [wd_cm]; exact my_mis
theorem wd_ld : mld (Wd xs T U V X S K B A Y) 1200 i false = mld (outc xs) 1200 i false := by
  unfold mld; rw [wd_off (by decide)]
theorem wd_len : mlen (Wd xs T U V X S K B A Y) 1200 = some (Int32.ofNat xs.length) := by
  have e : outc xs 1200 = .inr (.inr (8, xs.map Value.int)) := rfl
  unfold mlen; rw [wd_off (by decide), e]
  show (if _ then some (Int32.ofNat (xs.map Value.int).length) else none) = _
  rw [if_pos (Or.inl rfl), List.length_map]
theorem oc_ld {j : Nat} (hj : j < xs.length) (h31 : j < 2147483648) : mld (outc xs) 1200 (Int32.ofNat j) false = some (xs.getD j 0) := by
  have e : outc xs 1200 = .inr (.inr (8, xs.map Value.int)) := rfl
  unfold mld
  rw [e]
  have g : (xs.map Value.int)[(Int32.ofNat j).toNatClampNeg]? = some (.int (xs.getD j 0)) := by
    rw [show (Int32.ofNat j).toNatClampNeg = j from iN_of h31, List.getElem?_map, List.getElem?_eq_getElem hj, List.getD_eq_getElem?_getD, List.getElem?_eq_getElem hj]
    rfl
  show (if _ then none else if _ then _ else none) = _
  rw [if_neg (by rw [of_nn h31]; exact id), if_pos (Or.inl ⟨Or.inl rfl, rfl⟩), g]
/-- from this pc on, both sides do the call, and go on at 1503 -/
def Nx (xs : List Int32) (u : Int) (pc : Nat) (a : MA) (i : Int32) (T U V X S K B A Y : TS) : Prop := ∃ (n' : Nat) (T' U' V' X' S' K' B' A' Y' : TS), Rn 236 (pc, LL i, [], a, Wd xs T U V X S K B A Y) = Rn 236 (1503, LL i, [], a, Wd xs T' U' V' X' S' K' B' A' Y') ∧ Rel (u + 60) n' T' V' X' S' K' Y'
theorem sim_go (h : Sim Mc Mr as) (hu : u ≤ 50000) (r : Rel u n T V X S K Y) (a : MA) (xs : List Int32) (U B A : TS) : ∃ (v : Int32) (n' : Nat) (T' U' V' X' S' K' B' A' Y' : TS), Ec Mc (.ref 0 :: as) a (Wd xs T U V X S K B A Y) = some (some (.int v), a, Wd xs T' U' V' X' S K B A Y) ∧ Ec Mr (.ref 50 :: as) a (Wd xs T' U' V' X' S K B A Y) = some (some (.int v), a, Wd xs T' U' V' X' S' K' B' A' Y') ∧ Rel (u + 60) n' T' V' X' S' K' Y' := by
  obtain ⟨v, n', T', V', X', S', K', Y', c, m, r'⟩ := h u n T V X S K Y hu r
  obtain ⟨U', X'', ec, hX⟩ := c a (mw (outc xs) S K B A Y) U wd_hst
  obtain ⟨B', A', Y'', em, hY⟩ := m a (cw (outc xs) T' U' V' X'') B A
  rw [← wd_cm, ← wd_cm] at em
  exact ⟨v, n', T', U', V', X'', S', K', B', A', Y'', ec, em, r'.cg hX hY⟩
theorem sim_goL (h : SimL Mc Mr as) (hu : u ≤ 50000) (r : Rel u n T V X S K Y) (a : MA) (xs : List Int32) (U B A : TS) : ∃ (v : Int64) (n' : Nat) (T' U' V' X' S' K' B' A' Y' : TS), Ec Mc (.ref 0 :: as) a (Wd xs T U V X S K B A Y) = some (some (.long v), a, Wd xs T' U' V' X' S K B A Y) ∧ Ec Mr (.ref 50 :: as) a (Wd xs T' U' V' X' S K B A Y) = some (some (.long v), a, Wd xs T' U' V' X' S' K' B' A' Y') ∧ Rel (u + 60) n' T' V' X' S' K' Y' := by
  obtain ⟨v, n', T', V', X', S', K', Y', c, m, r'⟩ := h u n T V X S K Y hu r
  obtain ⟨U', X'', ec, hX⟩ := c a (mw (outc xs) S K B A Y) U wd_hst
  obtain ⟨B', A', Y'', em, hY⟩ := m a (cw (outc xs) T' U' V' X'') B A
  rw [← wd_cm, ← wd_cm] at em
  exact ⟨v, n', T', U', V', X'', S', K', B', A', Y'', ec, em, r'.cg hX hY⟩
theorem l_dye (hu : u ≤ 50000) (r : Rel u n T V X S K Y) (l1 : mld (outc xs) 1200 (i + 1) false = some e1) (l2 : mld (outc xs) 1200 (i + 2) false = some e2) (l3 : mld (outc xs) 1200 (i + 3) false = some e3) : Nx xs u 216 a i T U V X S K B A Y := by
  obtain ⟨v, n', T', U', V', X', S', K', B', A', Y', ec, em, r'⟩ := sim_go (as := [.int e1, .int e2, .int e3]) s_dye hu r a xs U B A
  refine ⟨n', T', U', V', X', S', K', B', A', Y', ?_, r'⟩
  simp only [r236_216, r236_217, r236_218, r236_219, r236_220, r236_221, r236_222, r236_223, r236_224, r236_225, r236_226, r236_227, r236_228, r236_229, r236_230, r236_231, r236_232, r236_235, r236_236, r236_237, r236_238, r236_239, r236_240, r236_241, r236_242, r236_243, r236_244, r236_245, r236_246, r236_247, r236_248, r236_249, r236_250, r236_251, r236_254, Nl_none, Nl_int, Nl_ref, Nl_null, Kv_some, Ki_some, Kh_some, Bk_some, Bk_void, ↓reduceIte, mrt10, mrt11, zl2, zl3, zl4, zl8, Bool.false_eq_true, wd_mis0, wd_mis50, wd_ld, l1, l2, l3, ec, em]
theorem l_layer (hu : u ≤ 50000) (r : Rel u n T V X S K Y) (l1 : mld (outc xs) 1200 (i + 1) false = some e1) (l2 : mld (outc xs) 1200 (i + 2) false = some e2) : Nx xs u 259 a i T U V X S K B A Y := by
  obtain ⟨v, n', T', U', V', X', S', K', B', A', Y', ec, em, r'⟩ := sim_go (as := [.int e1, .int e2]) s_layer hu r a xs U B A
  refine ⟨n', T', U', V', X', S', K', B', A', Y', ?_, r'⟩
  simp only [r236_259, r236_260, r236_261, r236_262, r236_263, r236_264, r236_265, r236_266, r236_267, r236_268, r236_269, r236_270, r236_273, r236_274, r236_275, r236_276, r236_277, r236_278, r236_279, r236_280, r236_281, r236_282, r236_283, r236_284, r236_287, Nl_none, Nl_int, Nl_ref, Nl_null, Kv_some, Ki_some, Kh_some, Bk_some, Bk_void, ↓reduceIte, mrt10, mrt11, zl2, zl3, zl4, zl8, Bool.false_eq_true, wd_mis0, wd_mis50, wd_ld, l1, l2, ec, em]
theorem l_lye (hu : u ≤ 50000) (r : Rel u n T V X S K Y) (l1 : mld (outc xs) 1200 (i + 1) false = some e1) : Nx xs u 292 a i T U V X S K B A Y := by
  obtain ⟨v, n', T', U', V', X', S', K', B', A', Y', ec, em, r'⟩ := sim_go (as := [.int e1]) s_lye hu r a xs U B A
  refine ⟨n', T', U', V', X', S', K', B', A', Y', ?_, r'⟩
  simp only [r236_292, r236_293, r236_294, r236_295, r236_296, r236_297, r236_298, r236_301, r236_302, r236_303, r236_304, r236_305, r236_306, r236_307, r236_310, Nl_none, Nl_int, Nl_ref, Nl_null, Kv_some, Ki_some, Kh_some, Bk_some, Bk_void, ↓reduceIte, mrt10, mrt11, zl2, zl3, zl4, zl8, Bool.false_eq_true, wd_mis0, wd_mis50, wd_ld, l1, ec, em]
theorem l_stir (hu : u ≤ 50000) (r : Rel u n T V X S K Y) (l1 : mld (outc xs) 1200 (i + 1) false = some e1) (l2 : mld (outc xs) 1200 (i + 2) false = some e2) : Nx xs u 315 a i T U V X S K B A Y := by
  obtain ⟨v, n', T', U', V', X', S', K', B', A', Y', ec, em, r'⟩ := sim_go (as := [.int e1, .int e2]) s_stir hu r a xs U B A
  refine ⟨n', T', U', V', X', S', K', B', A', Y', ?_, r'⟩
  simp only [r236_315, r236_316, r236_317, r236_318, r236_319, r236_320, r236_321, r236_322, r236_323, r236_324, r236_325, r236_326, r236_329, r236_330, r236_331, r236_332, r236_333, r236_334, r236_335, r236_336, r236_337, r236_338, r236_339, r236_340, r236_343, Nl_none, Nl_int, Nl_ref, Nl_null, Kv_some, Ki_some, Kh_some, Bk_some, Bk_void, ↓reduceIte, mrt10, mrt11, zl2, zl3, zl4, zl8, Bool.false_eq_true, wd_mis0, wd_mis50, wd_ld, l1, l2, ec, em]
theorem l_thing (hu : u ≤ 50000) (r : Rel u n T V X S K Y) (l1 : mld (outc xs) 1200 (i + 1) false = some e1) (l2 : mld (outc xs) 1200 (i + 2) false = some e2) : Nx xs u 348 a i T U V X S K B A Y := by
  obtain ⟨v, n', T', U', V', X', S', K', B', A', Y', ec, em, r'⟩ := sim_go (as := [.int e1, .int e2]) s_thing hu r a xs U B A
  refine ⟨n', T', U', V', X', S', K', B', A', Y', ?_, r'⟩
  simp only [r236_348, r236_349, r236_350, r236_351, r236_352, r236_353, r236_354, r236_355, r236_356, r236_357, r236_358, r236_359, r236_362, r236_363, r236_364, r236_365, r236_366, r236_367, r236_368, r236_369, r236_370, r236_371, r236_372, r236_373, r236_376, Nl_none, Nl_int, Nl_ref, Nl_null, Kv_some, Ki_some, Kh_some, Bk_some, Bk_void, ↓reduceIte, mrt10, mrt11, zl2, zl3, zl4, zl8, Bool.false_eq_true, wd_mis0, wd_mis50, wd_ld, l1, l2, ec, em]
theorem l_of (hu : u ≤ 50000) (r : Rel u n T V X S K Y) (l1 : mld (outc xs) 1200 (i + 1) false = some e1) (l2 : mld (outc xs) 1200 (i + 2) false = some e2) : Nx xs u 381 a i T U V X S K B A Y := by
  obtain ⟨v, n', T', U', V', X', S', K', B', A', Y', ec, em, r'⟩ := sim_go (as := [.int e1, .int e2]) s_of hu r a xs U B A
  refine ⟨n', T', U', V', X', S', K', B', A', Y', ?_, r'⟩
  simp only [r236_381, r236_382, r236_383, r236_384, r236_385, r236_386, r236_387, r236_388, r236_389, r236_390, r236_391, r236_392, r236_395, r236_396, r236_397, r236_398, r236_399, r236_400, r236_401, r236_402, r236_403, r236_404, r236_405, r236_406, r236_409, Nl_none, Nl_int, Nl_ref, Nl_null, Kv_some, Ki_some, Kh_some, Bk_some, Bk_void, ↓reduceIte, mrt10, mrt11, zl2, zl3, zl4, zl8, Bool.false_eq_true, wd_mis0, wd_mis50, wd_ld, l1, l2, ec, em]
theorem l_change (hu : u ≤ 50000) (r : Rel u n T V X S K Y) (l1 : mld (outc xs) 1200 (i + 1) false = some e1) (l2 : mld (outc xs) 1200 (i + 2) false = some e2) (l3 : mld (outc xs) 1200 (i + 3) false = some e3) : Nx xs u 414 a i T U V X S K B A Y := by
  obtain ⟨v, n', T', U', V', X', S', K', B', A', Y', ec, em, r'⟩ := sim_go (as := [.int e1, .int e2, .int e3]) s_change hu r a xs U B A
  refine ⟨n', T', U', V', X', S', K', B', A', Y', ?_, r'⟩
  simp only [r236_414, r236_415, r236_416, r236_417, r236_418, r236_419, r236_420, r236_421, r236_422, r236_423, r236_424, r236_425, r236_426, r236_427, r236_428, r236_429, r236_430, r236_433, r236_434, r236_435, r236_436, r236_437, r236_438, r236_439, r236_440, r236_441, r236_442, r236_443, r236_444, r236_445, r236_446, r236_447, r236_448, r236_449, r236_452, Nl_none, Nl_int, Nl_ref, Nl_null, Kv_some, Ki_some, Kh_some, Bk_some, Bk_void, ↓reduceIte, mrt10, mrt11, zl2, zl3, zl4, zl8, Bool.false_eq_true, wd_mis0, wd_mis50, wd_ld, l1, l2, l3, ec, em]
theorem l_go (hu : u ≤ 50000) (r : Rel u n T V X S K Y) (l1 : mld (outc xs) 1200 (i + 1) false = some e1) : Nx xs u 457 a i T U V X S K B A Y := by
  obtain ⟨v, n', T', U', V', X', S', K', B', A', Y', ec, em, r'⟩ := sim_go (as := [.int e1]) s_go hu r a xs U B A
  refine ⟨n', T', U', V', X', S', K', B', A', Y', ?_, r'⟩
  simp only [r236_457, r236_458, r236_459, r236_460, r236_461, r236_462, r236_463, r236_466, r236_467, r236_468, r236_469, r236_470, r236_471, r236_472, r236_475, Nl_none, Nl_int, Nl_ref, Nl_null, Kv_some, Ki_some, Kh_some, Bk_some, Bk_void, ↓reduceIte, mrt10, mrt11, zl2, zl3, zl4, zl8, Bool.false_eq_true, wd_mis0, wd_mis50, wd_ld, l1, ec, em]
theorem l_now (hu : u ≤ 50000) (r : Rel u n T V X S K Y) (l1 : mld (outc xs) 1200 (i + 1) false = some e1) : Nx xs u 480 a i T U V X S K B A Y := by
  obtain ⟨v, n', T', U', V', X', S', K', B', A', Y', ec, em, r'⟩ := sim_go (as := [.int e1]) s_now hu r a xs U B A
  refine ⟨n', T', U', V', X', S', K', B', A', Y', ?_, r'⟩
  simp only [r236_480, r236_481, r236_482, r236_483, r236_484, r236_485, r236_486, r236_489, r236_490, r236_491, r236_492, r236_493, r236_494, r236_495, r236_498, Nl_none, Nl_int, Nl_ref, Nl_null, Kv_some, Ki_some, Kh_some, Bk_some, Bk_void, ↓reduceIte, mrt10, mrt11, zl2, zl3, zl4, zl8, Bool.false_eq_true, wd_mis0, wd_mis50, wd_ld, l1, ec, em]
theorem l_ahead (hu : u ≤ 50000) (r : Rel u n T V X S K Y) (l1 : mld (outc xs) 1200 (i + 1) false = some e1) (l2 : mld (outc xs) 1200 (i + 2) false = some e2) (l3 : mld (outc xs) 1200 (i + 3) false = some e3) : Nx xs u 503 a i T U V X S K B A Y := by
  obtain ⟨v, n', T', U', V', X', S', K', B', A', Y', ec, em, r'⟩ := sim_go (as := [.int e1, .int e2, .int e3]) s_ahead hu r a xs U B A
  refine ⟨n', T', U', V', X', S', K', B', A', Y', ?_, r'⟩
  simp only [r236_503, r236_504, r236_505, r236_506, r236_507, r236_508, r236_509, r236_510, r236_511, r236_512, r236_513, r236_514, r236_515, r236_516, r236_517, r236_518, r236_519, r236_522, r236_523, r236_524, r236_525, r236_526, r236_527, r236_528, r236_529, r236_530, r236_531, r236_532, r236_533, r236_534, r236_535, r236_536, r236_537, r236_538, r236_541, Nl_none, Nl_int, Nl_ref, Nl_null, Kv_some, Ki_some, Kh_some, Bk_some, Bk_void, ↓reduceIte, mrt10, mrt11, zl2, zl3, zl4, zl8, Bool.false_eq_true, wd_mis0, wd_mis50, wd_ld, l1, l2, l3, ec, em]
theorem l_dyed (hu : u ≤ 50000) (r : Rel u n T V X S K Y) (l1 : mld (outc xs) 1200 (i + 1) false = some e1) (l2 : mld (outc xs) 1200 (i + 2) false = some e2) (l3 : mld (outc xs) 1200 (i + 3) false = some e3) : Nx xs u 546 a i T U V X S K B A Y := by
  obtain ⟨v, n', T', U', V', X', S', K', B', A', Y', ec, em, r'⟩ := sim_go (as := [.int e1, .int e2, .int e3]) s_dyed hu r a xs U B A
  refine ⟨n', T', U', V', X', S', K', B', A', Y', ?_, r'⟩
  simp only [r236_546, r236_547, r236_548, r236_549, r236_550, r236_551, r236_552, r236_553, r236_554, r236_555, r236_556, r236_557, r236_558, r236_559, r236_560, r236_561, r236_562, r236_565, r236_566, r236_567, r236_568, r236_569, r236_570, r236_571, r236_572, r236_573, r236_574, r236_575, r236_576, r236_577, r236_578, r236_579, r236_580, r236_581, r236_584, Nl_none, Nl_int, Nl_ref, Nl_null, Kv_some, Ki_some, Kh_some, Bk_some, Bk_void, ↓reduceIte, mrt10, mrt11, zl2, zl3, zl4, zl8, Bool.false_eq_true, wd_mis0, wd_mis50, wd_ld, l1, l2, l3, ec, em]
theorem l_seen (hu : u ≤ 50000) (r : Rel u n T V X S K Y) (l1 : mld (outc xs) 1200 (i + 1) false = some e1) : Nx xs u 589 a i T U V X S K B A Y := by
  obtain ⟨v, n', T', U', V', X', S', K', B', A', Y', ec, em, r'⟩ := sim_go (as := [.int e1]) s_seen hu r a xs U B A
  refine ⟨n', T', U', V', X', S', K', B', A', Y', ?_, r'⟩
  simp only [r236_589, r236_590, r236_591, r236_592, r236_593, r236_594, r236_595, r236_598, r236_599, r236_600, r236_601, r236_602, r236_603, r236_604, r236_607, Nl_none, Nl_int, Nl_ref, Nl_null, Kv_some, Ki_some, Kh_some, Bk_some, Bk_void, ↓reduceIte, mrt10, mrt11, zl2, zl3, zl4, zl8, Bool.false_eq_true, wd_mis0, wd_mis50, wd_ld, l1, ec, em]
theorem l_when (hu : u ≤ 50000) (r : Rel u n T V X S K Y) (l1 : mld (outc xs) 1200 (i + 1) false = some e1) (l2 : mld (outc xs) 1200 (i + 2) false = some e2) : Nx xs u 612 a i T U V X S K B A Y := by
  obtain ⟨v, n', T', U', V', X', S', K', B', A', Y', ec, em, r'⟩ := sim_go (as := [.int e1, .int e2]) s_when hu r a xs U B A
  refine ⟨n', T', U', V', X', S', K', B', A', Y', ?_, r'⟩
  simp only [r236_612, r236_613, r236_614, r236_615, r236_616, r236_617, r236_618, r236_619, r236_620, r236_621, r236_622, r236_623, r236_626, r236_627, r236_628, r236_629, r236_630, r236_631, r236_632, r236_633, r236_634, r236_635, r236_636, r236_637, r236_640, Nl_none, Nl_int, Nl_ref, Nl_null, Kv_some, Ki_some, Kh_some, Bk_some, Bk_void, ↓reduceIte, mrt10, mrt11, zl2, zl3, zl4, zl8, Bool.false_eq_true, wd_mis0, wd_mis50, wd_ld, l1, l2, ec, em]
theorem l_murky (hu : u ≤ 50000) (r : Rel u n T V X S K Y) (l1 : mld (outc xs) 1200 (i + 1) false = some e1) : Nx xs u 645 a i T U V X S K B A Y := by
  obtain ⟨v, n', T', U', V', X', S', K', B', A', Y', ec, em, r'⟩ := sim_go (as := [.int e1]) s_murky hu r a xs U B A
  refine ⟨n', T', U', V', X', S', K', B', A', Y', ?_, r'⟩
  simp only [r236_645, r236_646, r236_647, r236_648, r236_649, r236_650, r236_651, r236_654, r236_655, r236_656, r236_657, r236_658, r236_659, r236_660, r236_663, Nl_none, Nl_int, Nl_ref, Nl_null, Kv_some, Ki_some, Kh_some, Bk_some, Bk_void, ↓reduceIte, mrt10, mrt11, zl2, zl3, zl4, zl8, Bool.false_eq_true, wd_mis0, wd_mis50, wd_ld, l1, ec, em]
theorem l_treaty (hu : u ≤ 50000) (r : Rel u n T V X S K Y) (l1 : mld (outc xs) 1200 (i + 1) false = some e1) (l2 : mld (outc xs) 1200 (i + 2) false = some e2) : Nx xs u 668 a i T U V X S K B A Y := by
  obtain ⟨v, n', T', U', V', X', S', K', B', A', Y', ec, em, r'⟩ := sim_go (as := [.int e1, .int e2]) s_treaty hu r a xs U B A
  refine ⟨n', T', U', V', X', S', K', B', A', Y', ?_, r'⟩
  simp only [r236_668, r236_669, r236_670, r236_671, r236_672, r236_673, r236_674, r236_675, r236_676, r236_677, r236_678, r236_679, r236_682, r236_683, r236_684, r236_685, r236_686, r236_687, r236_688, r236_689, r236_690, r236_691, r236_692, r236_693, r236_696, Nl_none, Nl_int, Nl_ref, Nl_null, Kv_some, Ki_some, Kh_some, Bk_some, Bk_void, ↓reduceIte, mrt10, mrt11, zl2, zl3, zl4, zl8, Bool.false_eq_true, wd_mis0, wd_mis50, wd_ld, l1, l2, ec, em]
theorem l_stirFor (hu : u ≤ 50000) (r : Rel u n T V X S K Y) (l1 : mld (outc xs) 1200 (i + 1) false = some e1) (l2 : mld (outc xs) 1200 (i + 2) false = some e2) : Nx xs u 701 a i T U V X S K B A Y := by
  obtain ⟨v, n', T', U', V', X', S', K', B', A', Y', ec, em, r'⟩ := sim_go (as := [.int e1, .int e2]) s_stirFor hu r a xs U B A
  refine ⟨n', T', U', V', X', S', K', B', A', Y', ?_, r'⟩
  simp only [r236_701, r236_702, r236_703, r236_704, r236_705, r236_706, r236_707, r236_708, r236_709, r236_710, r236_711, r236_712, r236_715, r236_716, r236_717, r236_718, r236_719, r236_720, r236_721, r236_722, r236_723, r236_724, r236_725, r236_726, r236_729, Nl_none, Nl_int, Nl_ref, Nl_null, Kv_some, Ki_some, Kh_some, Bk_some, Bk_void, ↓reduceIte, mrt10, mrt11, zl2, zl3, zl4, zl8, Bool.false_eq_true, wd_mis0, wd_mis50, wd_ld, l1, l2, ec, em]
theorem l_put (hu : u ≤ 50000) (r : Rel u n T V X S K Y) (l1 : mld (outc xs) 1200 (i + 1) false = some e1) (l2 : mld (outc xs) 1200 (i + 2) false = some e2) : Nx xs u 734 a i T U V X S K B A Y := by
  obtain ⟨v, n', T', U', V', X', S', K', B', A', Y', ec, em, r'⟩ := sim_go (as := [.int e1, .int e2]) s_put hu r a xs U B A
  refine ⟨n', T', U', V', X', S', K', B', A', Y', ?_, r'⟩
  simp only [r236_734, r236_735, r236_736, r236_737, r236_738, r236_739, r236_740, r236_741, r236_742, r236_743, r236_744, r236_745, r236_748, r236_749, r236_750, r236_751, r236_752, r236_753, r236_754, r236_755, r236_756, r236_757, r236_758, r236_759, r236_762, Nl_none, Nl_int, Nl_ref, Nl_null, Kv_some, Ki_some, Kh_some, Bk_some, Bk_void, ↓reduceIte, mrt10, mrt11, zl2, zl3, zl4, zl8, Bool.false_eq_true, wd_mis0, wd_mis50, wd_ld, l1, l2, ec, em]
theorem l_kindFor (hu : u ≤ 50000) (r : Rel u n T V X S K Y) (l1 : mld (outc xs) 1200 (i + 1) false = some e1) (l2 : mld (outc xs) 1200 (i + 2) false = some e2) : Nx xs u 767 a i T U V X S K B A Y := by
  obtain ⟨v, n', T', U', V', X', S', K', B', A', Y', ec, em, r'⟩ := sim_go (as := [.int e1, .int e2]) s_kindFor hu r a xs U B A
  refine ⟨n', T', U', V', X', S', K', B', A', Y', ?_, r'⟩
  simp only [r236_767, r236_768, r236_769, r236_770, r236_771, r236_772, r236_773, r236_774, r236_775, r236_776, r236_777, r236_778, r236_781, r236_782, r236_783, r236_784, r236_785, r236_786, r236_787, r236_788, r236_789, r236_790, r236_791, r236_792, r236_795, Nl_none, Nl_int, Nl_ref, Nl_null, Kv_some, Ki_some, Kh_some, Bk_some, Bk_void, ↓reduceIte, mrt10, mrt11, zl2, zl3, zl4, zl8, Bool.false_eq_true, wd_mis0, wd_mis50, wd_ld, l1, l2, ec, em]
theorem l_holdsFor (hu : u ≤ 50000) (r : Rel u n T V X S K Y) (l1 : mld (outc xs) 1200 (i + 1) false = some e1) (l2 : mld (outc xs) 1200 (i + 2) false = some e2) : Nx xs u 800 a i T U V X S K B A Y := by
  obtain ⟨v, n', T', U', V', X', S', K', B', A', Y', ec, em, r'⟩ := sim_go (as := [.int e1, .int e2]) s_holdsFor hu r a xs U B A
  refine ⟨n', T', U', V', X', S', K', B', A', Y', ?_, r'⟩
  simp only [r236_800, r236_801, r236_802, r236_803, r236_804, r236_805, r236_806, r236_807, r236_808, r236_809, r236_810, r236_811, r236_814, r236_815, r236_816, r236_817, r236_818, r236_819, r236_820, r236_821, r236_822, r236_823, r236_824, r236_825, r236_828, Nl_none, Nl_int, Nl_ref, Nl_null, Kv_some, Ki_some, Kh_some, Bk_some, Bk_void, ↓reduceIte, mrt10, mrt11, zl2, zl3, zl4, zl8, Bool.false_eq_true, wd_mis0, wd_mis50, wd_ld, l1, l2, ec, em]
theorem l_lyeFor (hu : u ≤ 50000) (r : Rel u n T V X S K Y) (l1 : mld (outc xs) 1200 (i + 1) false = some e1) (l2 : mld (outc xs) 1200 (i + 2) false = some e2) : Nx xs u 833 a i T U V X S K B A Y := by
  obtain ⟨v, n', T', U', V', X', S', K', B', A', Y', ec, em, r'⟩ := sim_go (as := [.int e1, .int e2]) s_lyeFor hu r a xs U B A
  refine ⟨n', T', U', V', X', S', K', B', A', Y', ?_, r'⟩
  simp only [r236_833, r236_834, r236_835, r236_836, r236_837, r236_838, r236_839, r236_840, r236_841, r236_842, r236_843, r236_844, r236_847, r236_848, r236_849, r236_850, r236_851, r236_852, r236_853, r236_854, r236_855, r236_856, r236_857, r236_858, r236_861, Nl_none, Nl_int, Nl_ref, Nl_null, Kv_some, Ki_some, Kh_some, Bk_some, Bk_void, ↓reduceIte, mrt10, mrt11, zl2, zl3, zl4, zl8, Bool.false_eq_true, wd_mis0, wd_mis50, wd_ld, l1, l2, ec, em]
theorem l_out (hu : u ≤ 50000) (r : Rel u n T V X S K Y) (l1 : mld (outc xs) 1200 (i + 1) false = some e1) (l2 : mld (outc xs) 1200 (i + 2) false = some e2) : Nx xs u 866 a i T U V X S K B A Y := by
  obtain ⟨v, n', T', U', V', X', S', K', B', A', Y', ec, em, r'⟩ := sim_go (as := [.int e1, .int e2]) s_out hu r a xs U B A
  refine ⟨n', T', U', V', X', S', K', B', A', Y', ?_, r'⟩
  simp only [r236_866, r236_867, r236_868, r236_869, r236_870, r236_871, r236_872, r236_873, r236_874, r236_875, r236_876, r236_877, r236_880, r236_881, r236_882, r236_883, r236_884, r236_885, r236_886, r236_887, r236_888, r236_889, r236_890, r236_891, r236_894, Nl_none, Nl_int, Nl_ref, Nl_null, Kv_some, Ki_some, Kh_some, Bk_some, Bk_void, ↓reduceIte, mrt10, mrt11, zl2, zl3, zl4, zl8, Bool.false_eq_true, wd_mis0, wd_mis50, wd_ld, l1, l2, ec, em]
theorem l_fits (hu : u ≤ 50000) (r : Rel u n T V X S K Y) (l1 : mld (outc xs) 1200 (i + 1) false = some e1) (l2 : mld (outc xs) 1200 (i + 2) false = some e2) (l3 : mld (outc xs) 1200 (i + 3) false = some e3) : Nx xs u 899 a i T U V X S K B A Y := by
  obtain ⟨v, n', T', U', V', X', S', K', B', A', Y', ec, em, r'⟩ := sim_go (as := [.int e1, .int e2, .int e3]) s_fits hu r a xs U B A
  refine ⟨n', T', U', V', X', S', K', B', A', Y', ?_, r'⟩
  simp only [r236_899, r236_900, r236_901, r236_902, r236_903, r236_904, r236_905, r236_906, r236_907, r236_908, r236_909, r236_910, r236_911, r236_912, r236_913, r236_914, r236_915, r236_918, r236_919, r236_920, r236_921, r236_922, r236_923, r236_924, r236_925, r236_926, r236_927, r236_928, r236_929, r236_930, r236_931, r236_932, r236_933, r236_934, r236_937, Nl_none, Nl_int, Nl_ref, Nl_null, Kv_some, Ki_some, Kh_some, Bk_some, Bk_void, ↓reduceIte, mrt10, mrt11, zl2, zl3, zl4, zl8, Bool.false_eq_true, wd_mis0, wd_mis50, wd_ld, l1, l2, l3, ec, em]
theorem l_held (hu : u ≤ 50000) (r : Rel u n T V X S K Y) (l1 : mld (outc xs) 1200 (i + 1) false = some e1) (l2 : mld (outc xs) 1200 (i + 2) false = some e2) (l3 : mld (outc xs) 1200 (i + 3) false = some e3) : Nx xs u 942 a i T U V X S K B A Y := by
  obtain ⟨v, n', T', U', V', X', S', K', B', A', Y', ec, em, r'⟩ := sim_go (as := [.int e1, .int e2, .int e3]) s_held hu r a xs U B A
  refine ⟨n', T', U', V', X', S', K', B', A', Y', ?_, r'⟩
  simp only [r236_942, r236_943, r236_944, r236_945, r236_946, r236_947, r236_948, r236_949, r236_950, r236_951, r236_952, r236_953, r236_954, r236_955, r236_956, r236_957, r236_958, r236_961, r236_962, r236_963, r236_964, r236_965, r236_966, r236_967, r236_968, r236_969, r236_970, r236_971, r236_972, r236_973, r236_974, r236_975, r236_976, r236_977, r236_980, Nl_none, Nl_int, Nl_ref, Nl_null, Kv_some, Ki_some, Kh_some, Bk_some, Bk_void, ↓reduceIte, mrt10, mrt11, zl2, zl3, zl4, zl8, Bool.false_eq_true, wd_mis0, wd_mis50, wd_ld, l1, l2, l3, ec, em]
theorem l_kinds (hu : u ≤ 50000) (r : Rel u n T V X S K Y) (l1 : mld (outc xs) 1200 (i + 1) false = some e1) (l2 : mld (outc xs) 1200 (i + 2) false = some e2) : Nx xs u 985 a i T U V X S K B A Y := by
  obtain ⟨v, n', T', U', V', X', S', K', B', A', Y', ec, em, r'⟩ := sim_go (as := [.int e1, .int e2]) s_kinds hu r a xs U B A
  refine ⟨n', T', U', V', X', S', K', B', A', Y', ?_, r'⟩
  simp only [r236_985, r236_986, r236_987, r236_988, r236_989, r236_990, r236_991, r236_992, r236_993, r236_994, r236_995, r236_996, r236_999, r236_1000, r236_1001, r236_1002, r236_1003, r236_1004, r236_1005, r236_1006, r236_1007, r236_1008, r236_1009, r236_1010, r236_1013, Nl_none, Nl_int, Nl_ref, Nl_null, Kv_some, Ki_some, Kh_some, Bk_some, Bk_void, ↓reduceIte, mrt10, mrt11, zl2, zl3, zl4, zl8, Bool.false_eq_true, wd_mis0, wd_mis50, wd_ld, l1, l2, ec, em]
theorem l_sticks (hu : u ≤ 50000) (r : Rel u n T V X S K Y) (l1 : mld (outc xs) 1200 (i + 1) false = some e1) : Nx xs u 1018 a i T U V X S K B A Y := by
  obtain ⟨v, n', T', U', V', X', S', K', B', A', Y', ec, em, r'⟩ := sim_go (as := [.int e1]) s_sticks hu r a xs U B A
  refine ⟨n', T', U', V', X', S', K', B', A', Y', ?_, r'⟩
  simp only [r236_1018, r236_1019, r236_1020, r236_1021, r236_1022, r236_1023, r236_1024, r236_1027, r236_1028, r236_1029, r236_1030, r236_1031, r236_1032, r236_1033, r236_1036, Nl_none, Nl_int, Nl_ref, Nl_null, Kv_some, Ki_some, Kh_some, Bk_some, Bk_void, ↓reduceIte, mrt10, mrt11, zl2, zl3, zl4, zl8, Bool.false_eq_true, wd_mis0, wd_mis50, wd_ld, l1, ec, em]
theorem ll_f {l : Int64} : (l < l) = False := eq_false Int64.lt_irrefl
theorem l_odds (hu : u ≤ 50000) (r : Rel u n T V X S K Y) (l1 : mld (outc xs) 1200 (i + 1) false = some e1) (l2 : mld (outc xs) 1200 (i + 2) false = some e2) : Nx xs u 1041 a i T U V X S K B A Y := by
  obtain ⟨v, n', T', U', V', X', S', K', B', A', Y', ec, em, r'⟩ := sim_goL (as := [.int e1, .int e2]) s_odds hu r a xs U B A
  refine ⟨n', T', U', V', X', S', K', B', A', Y', ?_, r'⟩
  simp only [r236_1041, r236_1042, r236_1043, r236_1044, r236_1045, r236_1046, r236_1047, r236_1048, r236_1049, r236_1050, r236_1051, r236_1052, r236_1055, r236_1056, r236_1057, r236_1058, r236_1059, r236_1060, r236_1061, r236_1062, r236_1063, r236_1064, r236_1065, r236_1066, r236_1069, r236_1070, Nl_none, Nl_int, Nl_ref, Nl_null, Kv_some, Ki_some, Kh_some, Bk_some, Bk_void, ↓reduceIte, mrt10, mrt11, zl2, zl3, zl4, zl8, Bool.false_eq_true, wd_mis0, wd_mis50, wd_ld, l1, l2, ec, em, ll_f]
theorem l_seed (hu : u ≤ 50000) (r : Rel u n T V X S K Y) (l1 : mld (outc xs) 1200 (i + 1) false = some e1) : Nx xs u 1075 a i T U V X S K B A Y := by
  obtain ⟨v, n', T', U', V', X', S', K', B', A', Y', ec, em, r'⟩ := sim_go (as := [.int e1]) s_seed hu r a xs U B A
  refine ⟨n', T', U', V', X', S', K', B', A', Y', ?_, r'⟩
  simp only [r236_1075, r236_1076, r236_1077, r236_1078, r236_1079, r236_1080, r236_1081, r236_1084, r236_1085, r236_1086, r236_1087, r236_1088, r236_1089, r236_1090, r236_1093, Nl_none, Nl_int, Nl_ref, Nl_null, Kv_some, Ki_some, Kh_some, Bk_some, Bk_void, ↓reduceIte, mrt10, mrt11, zl2, zl3, zl4, zl8, Bool.false_eq_true, wd_mis0, wd_mis50, wd_ld, l1, ec, em]
theorem l_feed (hu : u ≤ 50000) (r : Rel u n T V X S K Y) (l1 : mld (outc xs) 1200 (i + 1) false = some e1) (l2 : mld (outc xs) 1200 (i + 2) false = some e2) : Nx xs u 1098 a i T U V X S K B A Y := by
  obtain ⟨v, n', T', U', V', X', S', K', B', A', Y', ec, em, r'⟩ := sim_go (as := [.int e1, .int e2]) s_feed hu r a xs U B A
  refine ⟨n', T', U', V', X', S', K', B', A', Y', ?_, r'⟩
  simp only [r236_1098, r236_1099, r236_1100, r236_1101, r236_1102, r236_1103, r236_1104, r236_1105, r236_1106, r236_1107, r236_1108, r236_1109, r236_1112, r236_1113, r236_1114, r236_1115, r236_1116, r236_1117, r236_1118, r236_1119, r236_1120, r236_1121, r236_1122, r236_1123, r236_1126, Nl_none, Nl_int, Nl_ref, Nl_null, Kv_some, Ki_some, Kh_some, Bk_some, Bk_void, ↓reduceIte, mrt10, mrt11, zl2, zl3, zl4, zl8, Bool.false_eq_true, wd_mis0, wd_mis50, wd_ld, l1, l2, ec, em]
theorem l_wipe (hu : u ≤ 50000) (r : Rel u n T V X S K Y)  : Nx xs u 1131 a i T U V X S K B A Y := by
  obtain ⟨v, n', T', U', V', X', S', K', B', A', Y', ec, em, r'⟩ := sim_go (as := []) s_wipe hu r a xs U B A
  refine ⟨n', T', U', V', X', S', K', B', A', Y', ?_, r'⟩
  simp only [r236_1131, r236_1132, r236_1135, r236_1136, r236_1139, Nl_none, Nl_int, Nl_ref, Nl_null, Kv_some, Ki_some, Kh_some, Bk_some, Bk_void, ↓reduceIte, mrt10, mrt11, zl2, zl3, zl4, zl8, Bool.false_eq_true, wd_mis0, wd_mis50, ec, em]
theorem l_text (hu : u ≤ 50000) (r : Rel u n T V X S K Y)  : Nx xs u 1144 a i T U V X S K B A Y := by
  obtain ⟨v, n', T', U', V', X', S', K', B', A', Y', ec, em, r'⟩ := sim_go (as := []) s_text hu r a xs U B A
  refine ⟨n', T', U', V', X', S', K', B', A', Y', ?_, r'⟩
  simp only [r236_1144, r236_1145, r236_1148, r236_1149, r236_1152, Nl_none, Nl_int, Nl_ref, Nl_null, Kv_some, Ki_some, Kh_some, Bk_some, Bk_void, ↓reduceIte, mrt10, mrt11, zl2, zl3, zl4, zl8, Bool.false_eq_true, wd_mis0, wd_mis50, ec, em]
theorem l_hold (hu : u ≤ 50000) (r : Rel u n T V X S K Y) (l1 : mld (outc xs) 1200 (i + 1) false = some e1) (l2 : mld (outc xs) 1200 (i + 2) false = some e2) : Nx xs u 1157 a i T U V X S K B A Y := by
  obtain ⟨v, n', T', U', V', X', S', K', B', A', Y', ec, em, r'⟩ := sim_go (as := [.int e1, .int e2]) s_hold hu r a xs U B A
  refine ⟨n', T', U', V', X', S', K', B', A', Y', ?_, r'⟩
  simp only [r236_1157, r236_1158, r236_1159, r236_1160, r236_1161, r236_1162, r236_1163, r236_1164, r236_1165, r236_1166, r236_1167, r236_1168, r236_1171, r236_1172, r236_1173, r236_1174, r236_1175, r236_1176, r236_1177, r236_1178, r236_1179, r236_1180, r236_1181, r236_1182, r236_1185, Nl_none, Nl_int, Nl_ref, Nl_null, Kv_some, Ki_some, Kh_some, Bk_some, Bk_void, ↓reduceIte, mrt10, mrt11, zl2, zl3, zl4, zl8, Bool.false_eq_true, wd_mis0, wd_mis50, wd_ld, l1, l2, ec, em]
theorem l_as (hu : u ≤ 50000) (r : Rel u n T V X S K Y) (l1 : mld (outc xs) 1200 (i + 1) false = some e1) (l2 : mld (outc xs) 1200 (i + 2) false = some e2) : Nx xs u 1190 a i T U V X S K B A Y := by
  obtain ⟨v, n', T', U', V', X', S', K', B', A', Y', ec, em, r'⟩ := sim_go (as := [.int e1, .int e2]) s_as hu r a xs U B A
  refine ⟨n', T', U', V', X', S', K', B', A', Y', ?_, r'⟩
  simp only [r236_1190, r236_1191, r236_1192, r236_1193, r236_1194, r236_1195, r236_1196, r236_1197, r236_1198, r236_1199, r236_1200, r236_1201, r236_1204, r236_1205, r236_1206, r236_1207, r236_1208, r236_1209, r236_1210, r236_1211, r236_1212, r236_1213, r236_1214, r236_1215, r236_1218, Nl_none, Nl_int, Nl_ref, Nl_null, Kv_some, Ki_some, Kh_some, Bk_some, Bk_void, ↓reduceIte, mrt10, mrt11, zl2, zl3, zl4, zl8, Bool.false_eq_true, wd_mis0, wd_mis50, wd_ld, l1, l2, ec, em]
theorem l_sheet (hu : u ≤ 50000) (r : Rel u n T V X S K Y) (l1 : mld (outc xs) 1200 (i + 1) false = some e1) (l2 : mld (outc xs) 1200 (i + 2) false = some e2) (l3 : mld (outc xs) 1200 (i + 3) false = some e3) : Nx xs u 1223 a i T U V X S K B A Y := by
  obtain ⟨v, n', T', U', V', X', S', K', B', A', Y', ec, em, r'⟩ := sim_go (as := [.int e1, .int e2, .int e3]) s_sheet hu r a xs U B A
  refine ⟨n', T', U', V', X', S', K', B', A', Y', ?_, r'⟩
  simp only [r236_1223, r236_1224, r236_1225, r236_1226, r236_1227, r236_1228, r236_1229, r236_1230, r236_1231, r236_1232, r236_1233, r236_1234, r236_1235, r236_1236, r236_1237, r236_1238, r236_1239, r236_1242, r236_1243, r236_1244, r236_1245, r236_1246, r236_1247, r236_1248, r236_1249, r236_1250, r236_1251, r236_1252, r236_1253, r236_1254, r236_1255, r236_1256, r236_1257, r236_1258, r236_1261, Nl_none, Nl_int, Nl_ref, Nl_null, Kv_some, Ki_some, Kh_some, Bk_some, Bk_void, ↓reduceIte, mrt10, mrt11, zl2, zl3, zl4, zl8, Bool.false_eq_true, wd_mis0, wd_mis50, wd_ld, l1, l2, l3, ec, em]
theorem l_write (hu : u ≤ 50000) (r : Rel u n T V X S K Y) (l1 : mld (outc xs) 1200 (i + 1) false = some e1) (l2 : mld (outc xs) 1200 (i + 2) false = some e2) (l3 : mld (outc xs) 1200 (i + 3) false = some e3) : Nx xs u 1266 a i T U V X S K B A Y := by
  obtain ⟨v, n', T', U', V', X', S', K', B', A', Y', ec, em, r'⟩ := sim_go (as := [.int e1, .int e2, .int e3]) s_write hu r a xs U B A
  refine ⟨n', T', U', V', X', S', K', B', A', Y', ?_, r'⟩
  simp only [r236_1266, r236_1267, r236_1268, r236_1269, r236_1270, r236_1271, r236_1272, r236_1273, r236_1274, r236_1275, r236_1276, r236_1277, r236_1278, r236_1279, r236_1280, r236_1281, r236_1282, r236_1285, r236_1286, r236_1287, r236_1288, r236_1289, r236_1290, r236_1291, r236_1292, r236_1293, r236_1294, r236_1295, r236_1296, r236_1297, r236_1298, r236_1299, r236_1300, r236_1301, r236_1304, Nl_none, Nl_int, Nl_ref, Nl_null, Kv_some, Ki_some, Kh_some, Bk_some, Bk_void, ↓reduceIte, mrt10, mrt11, zl2, zl3, zl4, zl8, Bool.false_eq_true, wd_mis0, wd_mis50, wd_ld, l1, l2, l3, ec, em]
theorem l_copy (hu : u ≤ 50000) (r : Rel u n T V X S K Y) (l1 : mld (outc xs) 1200 (i + 1) false = some e1) (l2 : mld (outc xs) 1200 (i + 2) false = some e2) (l3 : mld (outc xs) 1200 (i + 3) false = some e3) (l4 : mld (outc xs) 1200 (i + 4) false = some e4) (l5 : mld (outc xs) 1200 (i + 5) false = some e5) : Nx xs u 1309 a i T U V X S K B A Y := by
  obtain ⟨v, n', T', U', V', X', S', K', B', A', Y', ec, em, r'⟩ := sim_go (as := [.int e1, .int e2, .int e3, .int e4, .int e5]) s_copy hu r a xs U B A
  refine ⟨n', T', U', V', X', S', K', B', A', Y', ?_, r'⟩
  simp only [r236_1309, r236_1310, r236_1311, r236_1312, r236_1313, r236_1314, r236_1315, r236_1316, r236_1317, r236_1318, r236_1319, r236_1320, r236_1321, r236_1322, r236_1323, r236_1324, r236_1325, r236_1326, r236_1327, r236_1328, r236_1329, r236_1330, r236_1331, r236_1332, r236_1333, r236_1334, r236_1335, r236_1338, r236_1339, r236_1340, r236_1341, r236_1342, r236_1343, r236_1344, r236_1345, r236_1346, r236_1347, r236_1348, r236_1349, r236_1350, r236_1351, r236_1352, r236_1353, r236_1354, r236_1355, r236_1356, r236_1357, r236_1358, r236_1359, r236_1360, r236_1361, r236_1362, r236_1363, r236_1364, r236_1367, Nl_none, Nl_int, Nl_ref, Nl_null, Kv_some, Ki_some, Kh_some, Bk_some, Bk_void, ↓reduceIte, mrt10, mrt11, zl2, zl3, zl4, zl8, Bool.false_eq_true, wd_mis0, wd_mis50, wd_ld, l1, l2, l3, l4, l5, ec, em]
theorem l_load (hu : u ≤ 50000) (r : Rel u n T V X S K Y) (l1 : mld (outc xs) 1200 (i + 1) false = some e1) : Nx xs u 1372 a i T U V X S K B A Y := by
  obtain ⟨v, n', T', U', V', X', S', K', B', A', Y', ec, em, r'⟩ := sim_go (as := [.int e1]) s_load hu r a xs U B A
  refine ⟨n', T', U', V', X', S', K', B', A', Y', ?_, r'⟩
  simp only [r236_1372, r236_1373, r236_1374, r236_1375, r236_1376, r236_1377, r236_1378, r236_1381, r236_1382, r236_1383, r236_1384, r236_1385, r236_1386, r236_1387, r236_1390, Nl_none, Nl_int, Nl_ref, Nl_null, Kv_some, Ki_some, Kh_some, Bk_some, Bk_void, ↓reduceIte, mrt10, mrt11, zl2, zl3, zl4, zl8, Bool.false_eq_true, wd_mis0, wd_mis50, wd_ld, l1, ec, em]
theorem l_judge (hu : u ≤ 50000) (r : Rel u n T V X S K Y) (l1 : mld (outc xs) 1200 (i + 1) false = some e1) : Nx xs u 1395 a i T U V X S K B A Y := by
  obtain ⟨v, n', T', U', V', X', S', K', B', A', Y', ec, em, r'⟩ := sim_go (as := [.int e1]) s_judge hu r a xs U B A
  refine ⟨n', T', U', V', X', S', K', B', A', Y', ?_, r'⟩
  simp only [r236_1395, r236_1396, r236_1397, r236_1398, r236_1399, r236_1400, r236_1401, r236_1404, r236_1405, r236_1406, r236_1407, r236_1408, r236_1409, r236_1410, r236_1413, Nl_none, Nl_int, Nl_ref, Nl_null, Kv_some, Ki_some, Kh_some, Bk_some, Bk_void, ↓reduceIte, mrt10, mrt11, zl2, zl3, zl4, zl8, Bool.false_eq_true, wd_mis0, wd_mis50, wd_ld, l1, ec, em]
theorem l_image (hu : u ≤ 50000) (r : Rel u n T V X S K Y)  : Nx xs u 1418 a i T U V X S K B A Y := by
  obtain ⟨v, n', T', U', V', X', S', K', B', A', Y', ec, em, r'⟩ := sim_go (as := []) s_image hu r a xs U B A
  refine ⟨n', T', U', V', X', S', K', B', A', Y', ?_, r'⟩
  simp only [r236_1418, r236_1419, r236_1422, r236_1423, r236_1426, Nl_none, Nl_int, Nl_ref, Nl_null, Kv_some, Ki_some, Kh_some, Bk_some, Bk_void, ↓reduceIte, mrt10, mrt11, zl2, zl3, zl4, zl8, Bool.false_eq_true, wd_mis0, wd_mis50, ec, em]
theorem l_undo (hu : u ≤ 50000) (r : Rel u n T V X S K Y)  : Nx xs u 1431 a i T U V X S K B A Y := by
  obtain ⟨v, n', T', U', V', X', S', K', B', A', Y', ec, em, r'⟩ := sim_go (as := []) s_undo hu r a xs U B A
  refine ⟨n', T', U', V', X', S', K', B', A', Y', ?_, r'⟩
  simp only [r236_1431, r236_1432, r236_1435, r236_1436, r236_1439, Nl_none, Nl_int, Nl_ref, Nl_null, Kv_some, Ki_some, Kh_some, Bk_some, Bk_void, ↓reduceIte, mrt10, mrt11, zl2, zl3, zl4, zl8, Bool.false_eq_true, wd_mis0, wd_mis50, ec, em]
theorem l_tear (hu : u ≤ 50000) (r : Rel u n T V X S K Y)  : Nx xs u 1444 a i T U V X S K B A Y := by
  obtain ⟨v, n', T', U', V', X', S', K', B', A', Y', ec, em, r'⟩ := sim_go (as := []) s_tear hu r a xs U B A
  refine ⟨n', T', U', V', X', S', K', B', A', Y', ?_, r'⟩
  simp only [r236_1444, r236_1445, r236_1448, r236_1449, r236_1452, Nl_none, Nl_int, Nl_ref, Nl_null, Kv_some, Ki_some, Kh_some, Bk_some, Bk_void, ↓reduceIte, mrt10, mrt11, zl2, zl3, zl4, zl8, Bool.false_eq_true, wd_mis0, wd_mis50, ec, em]
theorem l_count (hu : u ≤ 50000) (r : Rel u n T V X S K Y) (l1 : mld (outc xs) 1200 (i + 1) false = some e1) : Nx xs u 1457 a i T U V X S K B A Y := by
  obtain ⟨v, n', T', U', V', X', S', K', B', A', Y', ec, em, r'⟩ := sim_go (as := [.int e1]) s_count hu r a xs U B A
  refine ⟨n', T', U', V', X', S', K', B', A', Y', ?_, r'⟩
  simp only [r236_1457, r236_1458, r236_1459, r236_1460, r236_1461, r236_1462, r236_1463, r236_1466, r236_1467, r236_1468, r236_1469, r236_1470, r236_1471, r236_1472, r236_1475, Nl_none, Nl_int, Nl_ref, Nl_null, Kv_some, Ki_some, Kh_some, Bk_some, Bk_void, ↓reduceIte, mrt10, mrt11, zl2, zl3, zl4, zl8, Bool.false_eq_true, wd_mis0, wd_mis50, wd_ld, l1, ec, em]
theorem l_status (hu : u ≤ 50000) (r : Rel u n T V X S K Y) (l1 : mld (outc xs) 1200 (i + 1) false = some e1) : Nx xs u 1480 a i T U V X S K B A Y := by
  obtain ⟨v, n', T', U', V', X', S', K', B', A', Y', ec, em, r'⟩ := sim_go (as := [.int e1]) s_status hu r a xs U B A
  refine ⟨n', T', U', V', X', S', K', B', A', Y', ?_, r'⟩
  simp only [r236_1480, r236_1481, r236_1482, r236_1483, r236_1484, r236_1485, r236_1486, r236_1489, r236_1490, r236_1491, r236_1492, r236_1493, r236_1494, r236_1495, r236_1498, Nl_none, Nl_int, Nl_ref, Nl_null, Kv_some, Ki_some, Kh_some, Bk_some, Bk_void, ↓reduceIte, mrt10, mrt11, zl2, zl3, zl4, zl8, Bool.false_eq_true, wd_mis0, wd_mis50, wd_ld, l1, ec, em]
/-- one call of the script -/
theorem law_call (hu : u ≤ 50000) (r : Rel u n T V X S K Y) (l0 : mld (outc xs) 1200 i false = some e0) (l1 : mld (outc xs) 1200 (i + 1) false = some e1) (l2 : mld (outc xs) 1200 (i + 2) false = some e2) (l3 : mld (outc xs) 1200 (i + 3) false = some e3) (l4 : mld (outc xs) 1200 (i + 4) false = some e4) (l5 : mld (outc xs) 1200 (i + 5) false = some e5) : Nx xs u 27 a i T U V X S K B A Y := by
  have go : ∀ (pc : Nat), Rn 236 (33, LL i, [.int (e0 &&& 63)], a, Wd xs T U V X S K B A Y) = Rn 236 (pc, LL i, [], a, Wd xs T U V X S K B A Y) → Nx xs u pc a i T U V X S K B A Y → Nx xs u 27 a i T U V X S K B A Y := fun pc e ⟨n', T', U', V', X', S', K', B', A', Y', e', r'⟩ => by
    refine ⟨n', T', U', V', X', S', K', B', A', Y', ?_, r'⟩
    rw [← e', ← e]
    simp only [r236_27, r236_28, r236_29, r236_30, r236_32, Nl_none, Nl_int, Nl_ref, Nl_null, Kv_some, Ki_some, Kh_some, Bk_some, Bk_void, ↓reduceIte, mrt10, mrt11, zl2, zl3, zl4, zl8, Bool.false_eq_true, wd_ld, l0]
  by_cases d : (e0 &&& 63).toInt < 0 ∨ 41 < (e0 &&& 63).toInt
  · exact go 1503 (r236_33_d d) ⟨n, T, U, V, X, S, K, B, A, Y, rfl, r.mono (by omega)⟩
  obtain ⟨k, hk, e⟩ := of_rg (x := e0 &&& 63) (m := 42) (by omega) (by omega) (by decide)
  have c : k = 0 ∨ k = 1 ∨ k = 2 ∨ k = 3 ∨ k = 4 ∨ k = 5 ∨ k = 6 ∨ k = 7 ∨ k = 8 ∨ k = 9 ∨ k = 10 ∨ k = 11 ∨ k = 12 ∨ k = 13 ∨ k = 14 ∨ k = 15 ∨ k = 16 ∨ k = 17 ∨ k = 18 ∨ k = 19 ∨ k = 20 ∨ k = 21 ∨ k = 22 ∨ k = 23 ∨ k = 24 ∨ k = 25 ∨ k = 26 ∨ k = 27 ∨ k = 28 ∨ k = 29 ∨ k = 30 ∨ k = 31 ∨ k = 32 ∨ k = 33 ∨ k = 34 ∨ k = 35 ∨ k = 36 ∨ k = 37 ∨ k = 38 ∨ k = 39 ∨ k = 40 ∨ k = 41 := by omega
  rcases c with rfl | rfl | rfl | rfl | rfl | rfl | rfl | rfl | rfl | rfl | rfl | rfl | rfl | rfl | rfl | rfl | rfl | rfl | rfl | rfl | rfl | rfl | rfl | rfl | rfl | rfl | rfl | rfl | rfl | rfl | rfl | rfl | rfl | rfl | rfl | rfl | rfl | rfl | rfl | rfl | rfl | rfl
  · exact go 216 (by rw [show e0 &&& 63 = (0 : Int32) from e]; exact r236_33_0) (l_dye hu r l1 l2 l3)
  · exact go 259 (by rw [show e0 &&& 63 = (1 : Int32) from e]; exact r236_33_1) (l_layer hu r l1 l2)
  · exact go 292 (by rw [show e0 &&& 63 = (2 : Int32) from e]; exact r236_33_2) (l_lye hu r l1)
  · exact go 315 (by rw [show e0 &&& 63 = (3 : Int32) from e]; exact r236_33_3) (l_stir hu r l1 l2)
  · exact go 348 (by rw [show e0 &&& 63 = (4 : Int32) from e]; exact r236_33_4) (l_thing hu r l1 l2)
  · exact go 381 (by rw [show e0 &&& 63 = (5 : Int32) from e]; exact r236_33_5) (l_of hu r l1 l2)
  · exact go 414 (by rw [show e0 &&& 63 = (6 : Int32) from e]; exact r236_33_6) (l_change hu r l1 l2 l3)
  · exact go 457 (by rw [show e0 &&& 63 = (7 : Int32) from e]; exact r236_33_7) (l_go hu r l1)
  · exact go 480 (by rw [show e0 &&& 63 = (8 : Int32) from e]; exact r236_33_8) (l_now hu r l1)
  · exact go 503 (by rw [show e0 &&& 63 = (9 : Int32) from e]; exact r236_33_9) (l_ahead hu r l1 l2 l3)
  · exact go 546 (by rw [show e0 &&& 63 = (10 : Int32) from e]; exact r236_33_10) (l_dyed hu r l1 l2 l3)
  · exact go 589 (by rw [show e0 &&& 63 = (11 : Int32) from e]; exact r236_33_11) (l_seen hu r l1)
  · exact go 612 (by rw [show e0 &&& 63 = (12 : Int32) from e]; exact r236_33_12) (l_when hu r l1 l2)
  · exact go 645 (by rw [show e0 &&& 63 = (13 : Int32) from e]; exact r236_33_13) (l_murky hu r l1)
  · exact go 668 (by rw [show e0 &&& 63 = (14 : Int32) from e]; exact r236_33_14) (l_treaty hu r l1 l2)
  · exact go 701 (by rw [show e0 &&& 63 = (15 : Int32) from e]; exact r236_33_15) (l_stirFor hu r l1 l2)
  · exact go 734 (by rw [show e0 &&& 63 = (16 : Int32) from e]; exact r236_33_16) (l_put hu r l1 l2)
  · exact go 767 (by rw [show e0 &&& 63 = (17 : Int32) from e]; exact r236_33_17) (l_kindFor hu r l1 l2)
  · exact go 800 (by rw [show e0 &&& 63 = (18 : Int32) from e]; exact r236_33_18) (l_holdsFor hu r l1 l2)
  · exact go 833 (by rw [show e0 &&& 63 = (19 : Int32) from e]; exact r236_33_19) (l_lyeFor hu r l1 l2)
  · exact go 866 (by rw [show e0 &&& 63 = (20 : Int32) from e]; exact r236_33_20) (l_out hu r l1 l2)
  · exact go 899 (by rw [show e0 &&& 63 = (21 : Int32) from e]; exact r236_33_21) (l_fits hu r l1 l2 l3)
  · exact go 942 (by rw [show e0 &&& 63 = (22 : Int32) from e]; exact r236_33_22) (l_held hu r l1 l2 l3)
  · exact go 985 (by rw [show e0 &&& 63 = (23 : Int32) from e]; exact r236_33_23) (l_kinds hu r l1 l2)
  · exact go 1018 (by rw [show e0 &&& 63 = (24 : Int32) from e]; exact r236_33_24) (l_sticks hu r l1)
  · exact go 1041 (by rw [show e0 &&& 63 = (25 : Int32) from e]; exact r236_33_25) (l_odds hu r l1 l2)
  · exact go 1075 (by rw [show e0 &&& 63 = (26 : Int32) from e]; exact r236_33_26) (l_seed hu r l1)
  · exact go 1098 (by rw [show e0 &&& 63 = (27 : Int32) from e]; exact r236_33_27) (l_feed hu r l1 l2)
  · exact go 1131 (by rw [show e0 &&& 63 = (28 : Int32) from e]; exact r236_33_28) (l_wipe hu r)
  · exact go 1144 (by rw [show e0 &&& 63 = (29 : Int32) from e]; exact r236_33_29) (l_text hu r)
  · exact go 1157 (by rw [show e0 &&& 63 = (30 : Int32) from e]; exact r236_33_30) (l_hold hu r l1 l2)
  · exact go 1190 (by rw [show e0 &&& 63 = (31 : Int32) from e]; exact r236_33_31) (l_as hu r l1 l2)
  · exact go 1223 (by rw [show e0 &&& 63 = (32 : Int32) from e]; exact r236_33_32) (l_sheet hu r l1 l2 l3)
  · exact go 1266 (by rw [show e0 &&& 63 = (33 : Int32) from e]; exact r236_33_33) (l_write hu r l1 l2 l3)
  · exact go 1309 (by rw [show e0 &&& 63 = (34 : Int32) from e]; exact r236_33_34) (l_copy hu r l1 l2 l3 l4 l5)
  · exact go 1372 (by rw [show e0 &&& 63 = (35 : Int32) from e]; exact r236_33_35) (l_load hu r l1)
  · exact go 1395 (by rw [show e0 &&& 63 = (36 : Int32) from e]; exact r236_33_36) (l_judge hu r l1)
  · exact go 1418 (by rw [show e0 &&& 63 = (37 : Int32) from e]; exact r236_33_37) (l_image hu r)
  · exact go 1431 (by rw [show e0 &&& 63 = (38 : Int32) from e]; exact r236_33_38) (l_undo hu r)
  · exact go 1444 (by rw [show e0 &&& 63 = (39 : Int32) from e]; exact r236_33_39) (l_tear hu r)
  · exact go 1457 (by rw [show e0 &&& 63 = (40 : Int32) from e]; exact r236_33_40) (l_count hu r l1)
  · exact go 1480 (by rw [show e0 &&& 63 = (41 : Int32) from e]; exact r236_33_41) (l_status hu r l1)
theorem law_loop (hx : xs.length ≤ 3072) : ∀ (m c n : Nat) (T U V X S K B A Y : TS), 6 * (c + m) ≤ xs.length → xs.length < 6 * (c + m) + 6 → Rel (60 * c) n T V X S K Y → ∃ h', Rn 236 (18, LL (Int32.ofNat (6 * c)), [], a, Wd xs T U V X S K B A Y) = some (some (.int 1), a, h') := by
  intro m
  induction m with
  | zero =>
    intro c n T U V X S K B A Y h1 h2 r
    refine ⟨Wd xs T U V X S K B A Y, ?_⟩
    have lt : (Int32.ofNat xs.length - 6 < Int32.ofNat (6 * c)) = True := by
      have f := ti_of (n := xs.length) (by omega)
      have g := ti_of (n := 6 * c) (by omega)
      have e6 : (6 : Int32).toInt = 6 := by decide
      rw [lt_ti, ti_sub (by omega) (by omega)]
      exact eq_true (by omega)
    simp only [r236_18, r236_19, r236_20, r236_21, r236_23, r236_24, r236_1509, r236_1510, Nl_none, Nl_int, Nl_ref, Nl_null, Kv_some, Ki_some, Kh_some, Bk_some, Bk_void, ↓reduceIte, mrt10, mrt11, zl2, zl3, zl4, zl8, Bool.false_eq_true, wd_len, lt]
  | succ m ih =>
    intro c n T U V X S K B A Y h1 h2 r
    have lt : (Int32.ofNat xs.length - 6 < Int32.ofNat (6 * c)) = False := by
      have f := ti_of (n := xs.length) (by omega)
      have g := ti_of (n := 6 * c) (by omega)
      have e6 : (6 : Int32).toInt = 6 := by decide
      rw [lt_ti, ti_sub (by omega) (by omega)]
      exact eq_false (by omega)
    have ld : ∀ j, j < 6 → mld (outc xs) 1200 (Int32.ofNat (6 * c + j)) false = some (xs.getD (6 * c + j) 0) := fun j hj => oc_ld (by omega) (by omega)
    have ld1 : ∀ j, j < 6 → mld (outc xs) 1200 (Int32.ofNat (6 * c) + Int32.ofNat j) false = some (xs.getD (6 * c + j) 0) := fun j hj => by rw [of_add]; exact ld j hj
    obtain ⟨n', T', U', V', X', S', K', B', A', Y', e, r'⟩ := law_call (u := 60 * (c : Int)) (i := Int32.ofNat (6 * c)) (a := a) (U := U) (B := B) (A := A) (by omega) r (ld 0 (by omega)) (ld1 1 (by omega)) (ld1 2 (by omega)) (ld1 3 (by omega)) (ld1 4 (by omega)) (ld1 5 (by omega))
    obtain ⟨h', e2⟩ := ih (c + 1) n' T' U' V' X' S' K' B' A' Y' (by omega) (by omega) (r'.mono (by omega))
    refine ⟨h', ?_⟩
    have st : Rn 236 (18, LL (Int32.ofNat (6 * c)), [], a, Wd xs T U V X S K B A Y) = Rn 236 (27, LL (Int32.ofNat (6 * c)), [], a, Wd xs T U V X S K B A Y) := by
      simp only [r236_18, r236_19, r236_20, r236_21, r236_23, r236_24, Nl_none, Nl_int, Nl_ref, Nl_null, Kv_some, Ki_some, Kh_some, Bk_some, Bk_void, ↓reduceIte, mrt10, mrt11, zl2, zl3, zl4, zl8, Bool.false_eq_true, wd_len, lt]
    have en : Rn 236 (1503, LL (Int32.ofNat (6 * c)), [], a, Wd xs T' U' V' X' S' K' B' A' Y') = Rn 236 (18, LL (Int32.ofNat (6 * (c + 1))), [], a, Wd xs T' U' V' X' S' K' B' A' Y') := by
      have e6 : Int32.ofNat (6 * c) + 6 = Int32.ofNat (6 * (c + 1)) := of_add (6 * c) 6
      rw [← e6]
      simp only [r236_1503, r236_1506, Nl_none, Nl_int, Nl_ref, Nl_null, Kv_some, Ki_some, Kh_some, Bk_some, Bk_void, ↓reduceIte, mrt10, mrt11, zl2, zl3, zl4, zl8, Bool.false_eq_true]
    rw [st, e, en]
    exact e2
end
