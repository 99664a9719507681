/-! ===== the class's Tubs in its world: 1 the tub, 13 the trial ===== -/
section
variable {a : MA} {h : MH} {T U V W X : TS} {x y z v w out : Int32} {t n m : Nat}
theorem e_has1 (ok : Ok n T) : Ec 36 [.ref 1, .int x] a (cw h T U V X) = some (some (.int (b2i (hsB x n))), a, cw h T U V X) := by
  have z := e_has (h := cw h T U V X) (b := 1) (T := T) (a := a) (x := x) ok
  simpa only [cw_1] using z
theorem e_has13 (ok : Ok n T) : Ec 36 [.ref 13, .int x] a (cw h W T V X) = some (some (.int (b2i (hsB x n))), a, cw h W T V X) := by
  have z := e_has (h := cw h W T V X) (b := 13) (T := T) (a := a) (x := x) ok
  simpa only [cw_13] using z
theorem e_hasT1 (ok : Ok n T) (ht : t < n) : Ec 36 [.ref 1, .int (Int32.ofNat t)] a (cw h T U V X) = some (some (.int 1), a, cw h T U V X) := by
  have z := e_hasT (h := cw h T U V X) (b := 1) (T := T) (a := a) ok ht
  simpa only [cw_1] using z
theorem e_hasT13 (ok : Ok n T) (ht : t < n) : Ec 36 [.ref 13, .int (Int32.ofNat t)] a (cw h W T V X) = some (some (.int 1), a, cw h W T V X) := by
  have z := e_hasT (h := cw h W T V X) (b := 13) (T := T) (a := a) ok ht
  simpa only [cw_13] using z
theorem e_isFull1 (ok : Ok n T) : Ec 37 [.ref 1] a (cw h T U V X) = some (some (.int (b2i (decide (¬ n < 8)))), a, cw h T U V X) := by
  have z := e_isFull (h := cw h T U V X) (b := 1) (T := T) (a := a) ok
  simpa only [cw_1] using z
theorem e_isFull13 (ok : Ok n T) : Ec 37 [.ref 13] a (cw h W T V X) = some (some (.int (b2i (decide (¬ n < 8)))), a, cw h W T V X) := by
  have z := e_isFull (h := cw h W T V X) (b := 13) (T := T) (a := a) ok
  simpa only [cw_13] using z
theorem e_add1 (ok : Ok n T) (hn : n < 8) : Ec 38 [.ref 1, .int x, .int y] a (cw h T U V X) = some (none, a, cw h (coS n x y T) U V X) := by
  have z := e_add (h := cw h T U V X) (b := 1) (T := T) (a := a) (x := x) (y := y) ok hn
  simpa only [cw_1] using z
theorem e_add13 (ok : Ok n T) (hn : n < 8) : Ec 38 [.ref 13, .int x, .int y] a (cw h W T V X) = some (none, a, cw h W (coS n x y T) V X) := by
  have z := e_add (h := cw h W T V X) (b := 13) (T := T) (a := a) (x := x) (y := y) ok hn
  simpa only [cw_13] using z
theorem e_told1 (ok : Ok n T) (ht : t < n) : Ec 39 [.ref 1, .int (Int32.ofNat t), .int x] a (cw h T U V X) = some (some (.int (toS t x T)), a, cw h T U V X) := by
  have z := e_told (h := cw h T U V X) (b := 1) (T := T) (a := a) (x := x) ok ht
  simpa only [cw_1] using z
theorem e_told13 (ok : Ok n T) (ht : t < n) : Ec 39 [.ref 13, .int (Int32.ofNat t), .int x] a (cw h W T V X) = some (some (.int (toS t x T)), a, cw h W T V X) := by
  have z := e_told (h := cw h W T V X) (b := 13) (T := T) (a := a) (x := x) ok ht
  simpa only [cw_13] using z
theorem e_become1 (ok : Ok n T) (ht : t < n) : Ec 40 [.ref 1, .int (Int32.ofNat t), .int x, .int v] a (cw h T U V X) = some (none, a, cw h (beS t x v T) U V X) := by
  have z := e_become (h := cw h T U V X) (b := 1) (T := T) (a := a) (x := x) (v := v) ok ht
  simpa only [cw_1] using z
theorem e_become13 (ok : Ok n T) (ht : t < n) : Ec 40 [.ref 13, .int (Int32.ofNat t), .int x, .int v] a (cw h W T V X) = some (none, a, cw h W (beS t x v T) V X) := by
  have z := e_become (h := cw h W T V X) (b := 13) (T := T) (a := a) (x := x) (v := v) ok ht
  simpa only [cw_13] using z
theorem e_dyeIn1 (hx : isL x = true) (hy : isC y = true) : Ec 41 [.ref 1, .int x, .int y] a (cw h T U V X) = some (some (.int (T (dyI x y))), a, cw h T U V X) := by
  have z := e_dyeIn (h := cw h T U V X) (b := 1) (T := T) (a := a) (x := x) (y := y) hx hy
  simpa only [cw_1] using z
theorem e_dyeIn13 (hx : isL x = true) (hy : isC y = true) : Ec 41 [.ref 13, .int x, .int y] a (cw h W T V X) = some (some (.int (T (dyI x y))), a, cw h W T V X) := by
  have z := e_dyeIn (h := cw h W T V X) (b := 13) (T := T) (a := a) (x := x) (y := y) hx hy
  simpa only [cw_13] using z
theorem e_setDye1 (hx : isL x = true) (hy : isC y = true) : Ec 42 [.ref 1, .int x, .int y, .int v] a (cw h T U V X) = some (none, a, cw h (mfu T (dyI x y) (cap v)) U V X) := by
  have z := e_setDye (h := cw h T U V X) (b := 1) (T := T) (a := a) (x := x) (y := y) (v := v) hx hy
  simpa only [cw_1] using z
theorem e_setDye13 (hx : isL x = true) (hy : isC y = true) : Ec 42 [.ref 13, .int x, .int y, .int v] a (cw h W T V X) = some (none, a, cw h W (mfu T (dyI x y) (cap v)) V X) := by
  have z := e_setDye (h := cw h W T V X) (b := 13) (T := T) (a := a) (x := x) (y := y) (v := v) hx hy
  simpa only [cw_13] using z
theorem e_dyesTogether1 (hx : isL x = true) : Ec 43 [.ref 1, .int x] a (cw h T U V X) = some (some (.int (dsS x T)), a, cw h T U V X) := by
  have z := e_dyesTogether (h := cw h T U V X) (b := 1) (T := T) (a := a) (x := x) hx
  simpa only [cw_1] using z
theorem e_dyesTogether13 (hx : isL x = true) : Ec 43 [.ref 13, .int x] a (cw h W T V X) = some (some (.int (dsS x T)), a, cw h W T V X) := by
  have z := e_dyesTogether (h := cw h W T V X) (b := 13) (T := T) (a := a) (x := x) hx
  simpa only [cw_13] using z
theorem e_allDyes1  : Ec 44 [.ref 1] a (cw h T U V X) = some (some (.int (adS T)), a, cw h T U V X) := by
  have z := e_allDyes (h := cw h T U V X) (b := 1) (T := T) (a := a)
  simpa only [cw_1] using z
theorem e_allDyes13  : Ec 44 [.ref 13] a (cw h W T V X) = some (some (.int (adS T)), a, cw h W T V X) := by
  have z := e_allDyes (h := cw h W T V X) (b := 13) (T := T) (a := a)
  simpa only [cw_13] using z
theorem e_isClear1 (hx : isL x = true) : Ec 45 [.ref 1, .int x] a (cw h T U V X) = some (some (.int (b2i (clS x T))), a, cw h T U V X) := by
  have z := e_isClear (h := cw h T U V X) (b := 1) (T := T) (a := a) (x := x) hx
  simpa only [cw_1] using z
theorem e_isClear13 (hx : isL x = true) : Ec 45 [.ref 13, .int x] a (cw h W T V X) = some (some (.int (b2i (clS x T))), a, cw h W T V X) := by
  have z := e_isClear (h := cw h W T V X) (b := 13) (T := T) (a := a) (x := x) hx
  simpa only [cw_13] using z
theorem e_clearLayers1  : Ec 46 [.ref 1] a (cw h T U V X) = some (some (.int (clA T)), a, cw h T U V X) := by
  have z := e_clearLayers (h := cw h T U V X) (b := 1) (T := T) (a := a)
  simpa only [cw_1] using z
theorem e_clearLayers13  : Ec 46 [.ref 13] a (cw h W T V X) = some (some (.int (clA T)), a, cw h W T V X) := by
  have z := e_clearLayers (h := cw h W T V X) (b := 13) (T := T) (a := a)
  simpa only [cw_13] using z
theorem e_thingsIn1 (ok : Ok n T) : Ec 48 [.ref 1, .int x] a (cw h T U V X) = some (some (.int (thS x n T)), a, cw h T U V X) := by
  have z := e_thingsIn (h := cw h T U V X) (b := 1) (T := T) (a := a) (x := x) ok
  simpa only [cw_1] using z
theorem e_thingsIn13 (ok : Ok n T) : Ec 48 [.ref 13, .int x] a (cw h W T V X) = some (some (.int (thS x n T)), a, cw h W T V X) := by
  have z := e_thingsIn (h := cw h W T V X) (b := 13) (T := T) (a := a) (x := x) ok
  simpa only [cw_13] using z
theorem e_coloursOfThings1 (ok : Ok n T) : Ec 49 [.ref 1] a (cw h T U V X) = some (some (.int (csS n T)), a, cw h T U V X) := by
  have z := e_coloursOfThings (h := cw h T U V X) (b := 1) (T := T) (a := a) ok
  simpa only [cw_1] using z
theorem e_coloursOfThings13 (ok : Ok n T) : Ec 49 [.ref 13] a (cw h W T V X) = some (some (.int (csS n T)), a, cw h W T V X) := by
  have z := e_coloursOfThings (h := cw h W T V X) (b := 13) (T := T) (a := a) ok
  simpa only [cw_13] using z
theorem e_sumOf1 (ok : Ok n T) : Ec 50 [.ref 1, .int x] a (cw h T U V X) = some (some (.int (suS x n T)), a, cw h T U V X) := by
  have z := e_sumOf (h := cw h T U V X) (b := 1) (T := T) (a := a) (x := x) ok
  simpa only [cw_1] using z
theorem e_sumOf13 (ok : Ok n T) : Ec 50 [.ref 13, .int x] a (cw h W T V X) = some (some (.int (suS x n T)), a, cw h W T V X) := by
  have z := e_sumOf (h := cw h W T V X) (b := 13) (T := T) (a := a) (x := x) ok
  simpa only [cw_13] using z
theorem e_agree1 {t' : Nat} (ok : Ok n T) (ht : t < n) (ht' : t' < n) : Ec 51 [.ref 1, .int (Int32.ofNat t), .int (Int32.ofNat t'), .int w] a (cw h T U V X) = some (some (.int (b2i (decide (toS t w T = toS t' w T)))), a, cw h T U V X) := by
  have z := e_agree (h := cw h T U V X) (b := 1) (T := T) (a := a) (w := w) ok ht ht'
  simpa only [cw_1] using z
theorem e_agree13 {t' : Nat} (ok : Ok n T) (ht : t < n) (ht' : t' < n) : Ec 51 [.ref 13, .int (Int32.ofNat t), .int (Int32.ofNat t'), .int w] a (cw h W T V X) = some (some (.int (b2i (decide (toS t w T = toS t' w T)))), a, cw h W T V X) := by
  have z := e_agree (h := cw h W T V X) (b := 13) (T := T) (a := a) (w := w) ok ht ht'
  simpa only [cw_13] using z
theorem e_chiefN1 (ok : Ok n T) (hx : isL x = true) : Ec 47 [.ref 1, .int x, .int (-1)] a (cw h T U V X) = some (some (.int (ch3 (T (dyI x 0)) (T (dyI x 1)) (T (dyI x 2)))), a, cw h T U V X) := by
  have z := e_chiefN (h := cw h T U V X) (b := 1) (T := T) (a := a) (x := x) ok hx
  simpa only [cw_1] using z
theorem e_chiefN13 (ok : Ok n T) (hx : isL x = true) : Ec 47 [.ref 13, .int x, .int (-1)] a (cw h W T V X) = some (some (.int (ch3 (T (dyI x 0)) (T (dyI x 1)) (T (dyI x 2)))), a, cw h W T V X) := by
  have z := e_chiefN (h := cw h W T V X) (b := 13) (T := T) (a := a) (x := x) ok hx
  simpa only [cw_13] using z
theorem e_exchange1 (ok : Ok n T) (hx : isL x = true) (hy : isL y = true) : Ec 52 [.ref 1, .int x, .int y] a (cw h T U V X) = some (none, a, cw h (stS x y n T) U V X) := by
  have z := e_exchange (h := cw h T U V X) (b := 1) (T := T) (a := a) (x := x) (y := y) ok hx hy
  simpa only [cw_1] using z
theorem e_exchange13 (ok : Ok n T) (hx : isL x = true) (hy : isL y = true) : Ec 52 [.ref 13, .int x, .int y] a (cw h W T V X) = some (none, a, cw h W (stS x y n T) V X) := by
  have z := e_exchange (h := cw h W T V X) (b := 13) (T := T) (a := a) (x := x) (y := y) ok hx hy
  simpa only [cw_13] using z
theorem e_passYears1 {m : Nat} (ok : Ok n T) (hd : T 86 = out) (hm : m < 2147483648) : Ec 53 [.ref 1, .int (Int32.ofNat m)] a (cw h T U V X) = some (none, a, cw h (ysT out n m T) U V X) := by
  have z := e_passYears (h := cw h T U V X) (b := 1) (T := T) (a := a) ok hd hm
  simpa only [cw_1] using z
theorem e_passYears13 {m : Nat} (ok : Ok n T) (hd : T 86 = out) (hm : m < 2147483648) : Ec 53 [.ref 13, .int (Int32.ofNat m)] a (cw h W T V X) = some (none, a, cw h W (ysT out n m T) V X) := by
  have z := e_passYears (h := cw h W T V X) (b := 13) (T := T) (a := a) ok hd hm
  simpa only [cw_13] using z
theorem e_draw1  : Ec 58 [.ref 1] a (cw h T U V X) = some (some (.int (drV (drZ (T 2)))), a, cw h (mfu T 2 (drZ (T 2))) U V X) := by
  have z := e_draw (h := cw h T U V X) (b := 1) (T := T) (a := a)
  simpa only [cw_1] using z
theorem e_draw13  : Ec 58 [.ref 13] a (cw h W T V X) = some (some (.int (drV (drZ (T 2)))), a, cw h W (mfu T 2 (drZ (T 2))) V X) := by
  have z := e_draw (h := cw h W T V X) (b := 13) (T := T) (a := a)
  simpa only [cw_13] using z
theorem e_setSpot1 (hk : t < 10) : Ec 59 [.ref 1, .int (Int32.ofNat t), .int v] a (cw h T U V X) = some (none, a, cw h (mfu T (76 + t) v) U V X) := by
  have z := e_setSpot (h := cw h T U V X) (b := 1) (T := T) (a := a) (v := v) hk
  simpa only [cw_1] using z
theorem e_setSpot13 (hk : t < 10) : Ec 59 [.ref 13, .int (Int32.ofNat t), .int v] a (cw h W T V X) = some (none, a, cw h W (mfu T (76 + t) v) V X) := by
  have z := e_setSpot (h := cw h W T V X) (b := 13) (T := T) (a := a) (v := v) hk
  simpa only [cw_13] using z
theorem e_heldBy1 (hk : t < 10) : Ec 60 [.ref 1, .int (Int32.ofNat t)] a (cw h T U V X) = some (some (.int (T (76 + t))), a, cw h T U V X) := by
  have z := e_heldBy (h := cw h T U V X) (b := 1) (T := T) (a := a) hk
  simpa only [cw_1] using z
theorem e_heldBy13 (hk : t < 10) : Ec 60 [.ref 13, .int (Int32.ofNat t)] a (cw h W T V X) = some (some (.int (T (76 + t))), a, cw h W T V X) := by
  have z := e_heldBy (h := cw h W T V X) (b := 13) (T := T) (a := a) hk
  simpa only [cw_13] using z
theorem e_spotsTaken1  : Ec 61 [.ref 1] a (cw h T U V X) = some (some (.int (spS T)), a, cw h T U V X) := by
  have z := e_spotsTaken (h := cw h T U V X) (b := 1) (T := T) (a := a)
  simpa only [cw_1] using z
theorem e_spotsTaken13  : Ec 61 [.ref 13] a (cw h W T V X) = some (some (.int (spS T)), a, cw h W T V X) := by
  have z := e_spotsTaken (h := cw h W T V X) (b := 13) (T := T) (a := a)
  simpa only [cw_13] using z
theorem gt_count1 : mgf (cw h T U V X) 1 4 3 = some (.int (T 0)) := by
  have z := gt_count (h := cw h T U V X) (b := 1) (T := T)
  simpa only [cw_1] using z
theorem pt_count1 : mpf (cw h T U V X) 1 4 3 (.int v) = some (cw h (mfu T 0 v) U V X) := by
  have z := pt_count (h := cw h T U V X) (b := 1) (T := T) (v := v)
  simpa only [cw_1] using z
theorem gt_count13 : mgf (cw h W T V X) 13 4 3 = some (.int (T 0)) := by
  have z := gt_count (h := cw h W T V X) (b := 13) (T := T)
  simpa only [cw_13] using z
theorem pt_count13 : mpf (cw h W T V X) 13 4 3 (.int v) = some (cw h W (mfu T 0 v) V X) := by
  have z := pt_count (h := cw h W T V X) (b := 13) (T := T) (v := v)
  simpa only [cw_13] using z
theorem gt_lye1 : mgf (cw h T U V X) 1 4 4 = some (.int (T 3)) := by
  have z := gt_lye (h := cw h T U V X) (b := 1) (T := T)
  simpa only [cw_1] using z
theorem pt_lye1 : mpf (cw h T U V X) 1 4 4 (.int v) = some (cw h (mfu T 3 v) U V X) := by
  have z := pt_lye (h := cw h T U V X) (b := 1) (T := T) (v := v)
  simpa only [cw_1] using z
theorem gt_lye13 : mgf (cw h W T V X) 13 4 4 = some (.int (T 3)) := by
  have z := gt_lye (h := cw h W T V X) (b := 13) (T := T)
  simpa only [cw_13] using z
theorem pt_lye13 : mpf (cw h W T V X) 13 4 4 (.int v) = some (cw h W (mfu T 3 v) V X) := by
  have z := pt_lye (h := cw h W T V X) (b := 13) (T := T) (v := v)
  simpa only [cw_13] using z
theorem gt_year1 : mgf (cw h T U V X) 1 4 5 = some (.int (T 1)) := by
  have z := gt_year (h := cw h T U V X) (b := 1) (T := T)
  simpa only [cw_1] using z
theorem pt_year1 : mpf (cw h T U V X) 1 4 5 (.int v) = some (cw h (mfu T 1 v) U V X) := by
  have z := pt_year (h := cw h T U V X) (b := 1) (T := T) (v := v)
  simpa only [cw_1] using z
theorem gt_year13 : mgf (cw h W T V X) 13 4 5 = some (.int (T 1)) := by
  have z := gt_year (h := cw h W T V X) (b := 13) (T := T)
  simpa only [cw_13] using z
theorem pt_year13 : mpf (cw h W T V X) 13 4 5 (.int v) = some (cw h W (mfu T 1 v) V X) := by
  have z := pt_year (h := cw h W T V X) (b := 13) (T := T) (v := v)
  simpa only [cw_13] using z
theorem gt_z1 : mgf (cw h T U V X) 1 4 6 = some (.int (T 2)) := by
  have z := gt_z (h := cw h T U V X) (b := 1) (T := T)
  simpa only [cw_1] using z
theorem pt_z1 : mpf (cw h T U V X) 1 4 6 (.int v) = some (cw h (mfu T 2 v) U V X) := by
  have z := pt_z (h := cw h T U V X) (b := 1) (T := T) (v := v)
  simpa only [cw_1] using z
theorem gt_z13 : mgf (cw h W T V X) 13 4 6 = some (.int (T 2)) := by
  have z := gt_z (h := cw h W T V X) (b := 13) (T := T)
  simpa only [cw_13] using z
theorem pt_z13 : mpf (cw h W T V X) 13 4 6 (.int v) = some (cw h W (mfu T 2 v) V X) := by
  have z := pt_z (h := cw h W T V X) (b := 13) (T := T) (v := v)
  simpa only [cw_13] using z
theorem gt_dry1 : mgf (cw h T U V X) 1 4 7 = some (.int (T 86)) := by
  have z := gt_dry (h := cw h T U V X) (b := 1) (T := T)
  simpa only [cw_1] using z
theorem pt_dry1 : mpf (cw h T U V X) 1 4 7 (.int v) = some (cw h (mfu T 86 v) U V X) := by
  have z := pt_dry (h := cw h T U V X) (b := 1) (T := T) (v := v)
  simpa only [cw_1] using z
theorem gt_dry13 : mgf (cw h W T V X) 13 4 7 = some (.int (T 86)) := by
  have z := gt_dry (h := cw h W T V X) (b := 13) (T := T)
  simpa only [cw_13] using z
theorem pt_dry13 : mpf (cw h W T V X) 13 4 7 (.int v) = some (cw h W (mfu T 86 v) V X) := by
  have z := pt_dry (h := cw h W T V X) (b := 13) (T := T) (v := v)
  simpa only [cw_13] using z
theorem mis_1 : mis (cw h T U V X) 1 4 = true := by
  have z := mis_tub (h := cw h T U V X) (b := 1) (T := T)
  simpa only [cw_1] using z
theorem mis_13 : mis (cw h T U V X) 13 4 = true := by
  have z := mis_tub (h := cw h T U V X) (b := 13) (T := U)
  simpa only [cw_13] using z
theorem mis_25 : mis (cw h T U V X) 25 4 = true := by
  have z := mis_tub (h := cw h T U V X) (b := 25) (T := V)
  simpa only [cw_25] using z
theorem e_take13_1 (ok : Ok n T) : Ec 35 [.ref 13, .ref 1] a (cw h T U V X) = some (none, a, cw h T (tkS n T U) V X) := by
  have z := e_takeFrom (h := cw h T U V X) (b := 13) (c := 1) (T := U) (U := T) (a := a) (Or.inr (by decide)) ok.1 ok.2.1
  simpa only [cw_1, cw_13] using z
theorem e_take1_13 (ok : Ok n U) : Ec 35 [.ref 1, .ref 13] a (cw h T U V X) = some (none, a, cw h (tkS n U T) U V X) := by
  have z := e_takeFrom (h := cw h T U V X) (b := 1) (c := 13) (T := T) (U := U) (a := a) (Or.inl (by decide)) ok.1 ok.2.1
  simpa only [cw_1, cw_13] using z
theorem e_take25_1 (ok : Ok n T) : Ec 35 [.ref 25, .ref 1] a (cw h T U V X) = some (none, a, cw h T U (tkS n T V) X) := by
  have z := e_takeFrom (h := cw h T U V X) (b := 25) (c := 1) (T := V) (U := T) (a := a) (Or.inr (by decide)) ok.1 ok.2.1
  simpa only [cw_1, cw_25] using z
theorem e_take1_25 (ok : Ok n V) : Ec 35 [.ref 1, .ref 25] a (cw h T U V X) = some (none, a, cw h (tkS n V T) U V X) := by
  have z := e_takeFrom (h := cw h T U V X) (b := 1) (c := 25) (T := T) (U := V) (a := a) (Or.inl (by decide)) ok.1 ok.2.1
  simpa only [cw_1, cw_25] using z
theorem e_begin13 (ok : Ok n T) : Ec 114 [.ref 0] a (cw h T U V X) = some (none, a, cw h T (tkS n T U) V X) := by
  rw [Ec_go rfl]; show Rn 114 (0, [some (.ref 0)], [], a, cw h T U V X) = _
  simp only [r114_0, r114_1, r114_4, r114_5, r114_8, r114_11, Nl_none, Nl_int, Nl_ref, Nl_null, Kv_some, Ki_some, Kh_some, Bk_some, Bk_void, ↓reduceIte, mrt10, mrt11, zl2, zl3, zl4, zl8, Bool.false_eq_true, cx_tub, cx_trial, cx_kept, cx_isKept, cx_tape, cx_reader, cx_sheets, cx_findings, cx_mis, cx_mis37, cx_mis38, cx_bytes, cx_tlen, cx_rtape, cx_token, cx_start, cx_end, cx_number, cx_lnBytes, cx_lnSheets, cx_lnFind, mis_13, e_take13_1 ok]
theorem tk_86 : tkS n T U 86 = 0 := if_pos rfl
theorem e_found {f : Int32} {i : Nat} (hf : -1000001 - f = Int32.ofNat i) (hi : i < 7) : Ec 105 [.ref 0, .int f] a (cw h T U V X) = some (some (.int f), a, cw h T U V (fnX i X)) := by
  have n0 : (Int32.ofNat i < 0) = False := of_nn (by omega)
  have n7 : (Int32.ofNat i < (7 : Int32)) = True := ltT (m := 7) hi (by decide)
  rw [Ec_go rfl]; show Rn 105 (0, [some (.ref 0), some (.int f), none], [], a, cw h T U V X) = _
  simp only [r105_0, r105_2, r105_3, r105_4, r105_5, r105_6, r105_9, r105_10, r105_11, r105_14, r105_15, r105_18, r105_19, r105_22, r105_23, r105_24, r105_25, r105_26, r105_27, r105_28, r105_29, Nl_none, Nl_int, Nl_ref, Nl_null, Kv_some, Ki_some, Kh_some, Bk_some, Bk_void, ↓reduceIte, mrt10, mrt11, zl2, zl3, zl4, zl8, Bool.false_eq_true, cx_tub, cx_trial, cx_kept, cx_isKept, cx_tape, cx_reader, cx_sheets, cx_findings, cx_mis, cx_mis37, cx_mis38, cx_bytes, cx_tlen, cx_rtape, cx_token, cx_start, cx_end, cx_number, cx_lnBytes, cx_lnSheets, cx_lnFind, hf, n0, n7, cx_ldFind hi, cp_find hi, fnX]
theorem cf_0 : Ec 105 [.ref 0, .int (-1000001)] a (cw h T U V X) = some (some (.int (-1000001)), a, cw h T U V (fnX 0 X)) := e_found (i := 0) (by decide) (by decide)
theorem cf_1 : Ec 105 [.ref 0, .int (-1000002)] a (cw h T U V X) = some (some (.int (-1000002)), a, cw h T U V (fnX 1 X)) := e_found (i := 1) (by decide) (by decide)
theorem cf_2 : Ec 105 [.ref 0, .int (-1000003)] a (cw h T U V X) = some (some (.int (-1000003)), a, cw h T U V (fnX 2 X)) := e_found (i := 2) (by decide) (by decide)
theorem cf_3 : Ec 105 [.ref 0, .int (-1000004)] a (cw h T U V X) = some (some (.int (-1000004)), a, cw h T U V (fnX 3 X)) := e_found (i := 3) (by decide) (by decide)
theorem cf_4 : Ec 105 [.ref 0, .int (-1000005)] a (cw h T U V X) = some (some (.int (-1000005)), a, cw h T U V (fnX 4 X)) := e_found (i := 4) (by decide) (by decide)
theorem cf_5 : Ec 105 [.ref 0, .int (-1000006)] a (cw h T U V X) = some (some (.int (-1000006)), a, cw h T U V (fnX 5 X)) := e_found (i := 5) (by decide) (by decide)
theorem cf_6 : Ec 105 [.ref 0, .int (-1000007)] a (cw h T U V X) = some (some (.int (-1000007)), a, cw h T U V (fnX 6 X)) := e_found (i := 6) (by decide) (by decide)
theorem e_mostOf : Ec 111 [.int x] a h = some (some (.int (mxS x)), a, h) := by
  rw [Ec_go rfl]; show Rn 111 (0, [some (.int x)], [], a, h) = _
  unfold mxS
  by_cases h0 : x = 0
  · subst h0; simp only [r111_0, r111_1_0, r111_1_1, r111_1_2, r111_28, r111_30, r111_31, r111_33, r111_34, r111_35, r111_36, r111_39, Nl_none, Nl_int, Nl_ref, Nl_null, Kv_some, Ki_some, Kh_some, Bk_some, Bk_void, ↓reduceIte, mrt10, mrt11, zl2, zl3, zl4, zl8, Bool.false_eq_true, Int32.reduceAdd, Int32.reduceSub, Int32.reduceMul, Int32.reduceLT, zqm0, zqm1, zqm2, zqm3, zqm4, zqm5, zqm6, zqm7, zqm8, zq0m, zq01, zq02, zq03, zq04, zq05, zq06, zq07, zq08, zq1m, zq10, zq12, zq13, zq14, zq15, zq16, zq17, zq18, zq2m, zq20, zq21, zq23, zq24, zq25, zq26, zq27, zq28, zq3m, zq30, zq31, zq32, zq34, zq35, zq36, zq37, zq38, zq4m, zq40, zq41, zq42, zq43, zq45, zq46, zq47, zq48, zq5m, zq50, zq51, zq52, zq53, zq54, zq56, zq57, zq58, zq6m, zq60, zq61, zq62, zq63, zq64, zq65, zq67, zq68, zq7m, zq70, zq71, zq72, zq73, zq74, zq75, zq76, zq78, zq8m, zq80, zq81, zq82, zq83, zq84, zq85, zq86, zq87]
  by_cases h1 : x = 1
  · subst h1; simp only [r111_0, r111_1_0, r111_1_1, r111_1_2, r111_28, r111_30, r111_31, r111_33, r111_34, r111_35, r111_36, r111_39, Nl_none, Nl_int, Nl_ref, Nl_null, Kv_some, Ki_some, Kh_some, Bk_some, Bk_void, ↓reduceIte, mrt10, mrt11, zl2, zl3, zl4, zl8, Bool.false_eq_true, Int32.reduceAdd, Int32.reduceSub, Int32.reduceMul, Int32.reduceLT, zqm0, zqm1, zqm2, zqm3, zqm4, zqm5, zqm6, zqm7, zqm8, zq0m, zq01, zq02, zq03, zq04, zq05, zq06, zq07, zq08, zq1m, zq10, zq12, zq13, zq14, zq15, zq16, zq17, zq18, zq2m, zq20, zq21, zq23, zq24, zq25, zq26, zq27, zq28, zq3m, zq30, zq31, zq32, zq34, zq35, zq36, zq37, zq38, zq4m, zq40, zq41, zq42, zq43, zq45, zq46, zq47, zq48, zq5m, zq50, zq51, zq52, zq53, zq54, zq56, zq57, zq58, zq6m, zq60, zq61, zq62, zq63, zq64, zq65, zq67, zq68, zq7m, zq70, zq71, zq72, zq73, zq74, zq75, zq76, zq78, zq8m, zq80, zq81, zq82, zq83, zq84, zq85, zq86, zq87]
  by_cases h2 : x = 2
  · subst h2; simp only [r111_0, r111_1_0, r111_1_1, r111_1_2, r111_28, r111_30, r111_31, r111_33, r111_34, r111_35, r111_36, r111_39, Nl_none, Nl_int, Nl_ref, Nl_null, Kv_some, Ki_some, Kh_some, Bk_some, Bk_void, ↓reduceIte, mrt10, mrt11, zl2, zl3, zl4, zl8, Bool.false_eq_true, Int32.reduceAdd, Int32.reduceSub, Int32.reduceMul, Int32.reduceLT, zqm0, zqm1, zqm2, zqm3, zqm4, zqm5, zqm6, zqm7, zqm8, zq0m, zq01, zq02, zq03, zq04, zq05, zq06, zq07, zq08, zq1m, zq10, zq12, zq13, zq14, zq15, zq16, zq17, zq18, zq2m, zq20, zq21, zq23, zq24, zq25, zq26, zq27, zq28, zq3m, zq30, zq31, zq32, zq34, zq35, zq36, zq37, zq38, zq4m, zq40, zq41, zq42, zq43, zq45, zq46, zq47, zq48, zq5m, zq50, zq51, zq52, zq53, zq54, zq56, zq57, zq58, zq6m, zq60, zq61, zq62, zq63, zq64, zq65, zq67, zq68, zq7m, zq70, zq71, zq72, zq73, zq74, zq75, zq76, zq78, zq8m, zq80, zq81, zq82, zq83, zq84, zq85, zq86, zq87]
  have hd : x.toInt < 0 ∨ 2 < x.toInt := by
    have a0 := ne_toInt (n := 0) h0 rfl
    have a1 := ne_toInt (n := 1) h1 rfl
    have a2 := ne_toInt (n := 2) h2 rfl
    omega
  rw [r111_0, r111_1_d hd]
  simp only [r111_0, r111_1_0, r111_1_1, r111_1_2, r111_28, r111_30, r111_31, r111_33, r111_34, r111_35, r111_36, r111_39, Nl_none, Nl_int, Nl_ref, Nl_null, Kv_some, Ki_some, Kh_some, Bk_some, Bk_void, ↓reduceIte, mrt10, mrt11, zl2, zl3, zl4, zl8, Bool.false_eq_true, h0, h1, h2]
/-- the cells that were there before -/
def Hst (h : MH) : Prop := ∃ xs, ∀ q, 1000 ≤ q → h q = outc xs q
/-- a call of the class: from T (the tub), V (kept), X it answers v and leaves T', V', X' (the trial and the reader aside) -/
def OpC (M : Nat) (as : List Value) (T V X : TS) (v : Value) (T' V' X' : TS) : Prop := ∀ (a : MA) (h : MH) (U : TS), Hst h → ∃ U' X'' : TS, Ec M (.ref 0 :: as) a (cw h T U V X) = some (some v, a, cw h T' U' V' X'') ∧ ∀ k, (k < 2 ∨ 6 ≤ k) → X'' k = X' k
abbrev OpQC (M : Nat) (as : List Value) (T V X : TS) (q : QR) : Prop := OpC M as T V X (.int (qv q)) T V (qX q X)
end
