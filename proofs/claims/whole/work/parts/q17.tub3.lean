/-! ===== a Tub's years, its taking over ===== -/
section
variable {a : MA} {h : MH} {b : Nat} {T U : TS} {x y z v w out : Int32} {t n : Nat}
theorem dy_86 {x y : Int32} (hx : isL x = true) (hy : isC y = true) : dyI x y ≠ 86 := by
  obtain ⟨k, hk, e⟩ := dyI_rg hx hy
  omega
theorem bl_86 (ok : Ok n T) (ht : t < n) : blT t T 86 = T 86 := by
  have h8 := ok.1
  have := dy_86 (sr_isL ok ht) (sr_isC ok ht)
  unfold blT
  rw [fu_ne (by omega), fu_ne (by omega)]
theorem blB_86 (ok : Ok n T) (ht : t < n) : blB out t T 86 = T 86 := by
  unfold blB
  split
  · exact bl_86 ok ht
  · rfl
theorem e_bleed (ok : Ok n T) (hd : T 86 = out) : Ec 54 [.ref b] a (setTub h b T) = some (none, a, setTub h b (blA out n T)) ∧ blA out n T 86 = out := by
  have h8 := ok.1
  have L := lp_up (M := 54) (X := fun k (s : TS × Option Value × Option Value) => (2, [some (.ref b), some (.int (Int32.ofNat k)), s.2.1, s.2.2], [], a, setTub h b s.1)) (f := fun k s => (blB out k s.1, if out >>> (Int32.ofNat k &&& 31) &&& 1 = 0 then (some (.ref (b + 4 + k)), some (.int (losT k s.1))) else s.2)) (P := fun _ s => Ok n s.1 ∧ s.1 86 = out) (N := n) (fun k s hk ⟨ok, hd⟩ => ⟨by
    obtain ⟨s, u, v⟩ := s
    have ok : Ok n s := ok
    have hd : s 86 = out := hd
    have k8 : k < 8 := by omega
    have lt := ltT hk (by omega)
    have hL := sr_isL ok hk
    have hC := sr_isC ok hk
    have g1 : mfu s (31 + 6 * k) (s (31 + 6 * k) - losT k s) (29 + 6 * k) = s (29 + 6 * k) := fu_ne (by omega)
    have g2 : mfu s (31 + 6 * k) (s (31 + 6 * k) - losT k s) (30 + 6 * k) = s (30 + 6 * k) := fu_ne (by omega)
    have g3 : mfu s (31 + 6 * k) (s (31 + 6 * k) - losT k s) (dyI (s (29 + 6 * k)) (s (30 + 6 * k))) = s (dyI (s (29 + 6 * k)) (s (30 + 6 * k))) := by
      obtain ⟨j, hj, e⟩ := dyI_rg hL hC
      rw [e]; exact fu_ne (by omega)
    show Rn 54 (2, [some (.ref b), some (.int (Int32.ofNat k)), u, v], [], a, setTub h b s) = Rn 54 (2, [some (.ref b), some (.int (Int32.ofNat (k + 1))), (if out >>> (Int32.ofNat k &&& 31) &&& 1 = 0 then (some (Value.ref (b + 4 + k)), some (Value.int (losT k s))) else (u, v)).1, (if out >>> (Int32.ofNat k &&& 31) &&& 1 = 0 then (some (Value.ref (b + 4 + k)), some (Value.int (losT k s))) else (u, v)).2], [], a, setTub h b (blB out k s))
    rw [r54_2]
    by_cases q : out >>> (Int32.ofNat k &&& 31) &&& 1 = 0
    · simp only [r54_0, r54_1, r54_3, r54_4, r54_7, r54_10, r54_11, r54_12, r54_15, r54_16, r54_19, r54_20, r54_23, r54_24, r54_25, r54_26, r54_27, r54_30, r54_31, r54_34, r54_35, r54_36, r54_37, r54_38, r54_41, r54_42, r54_43, r54_46, r54_49, r54_52, r54_53, r54_54, r54_55, r54_58, r54_59, r54_60, r54_63, r54_64, r54_65, r54_68, r54_69, r54_72, r54_73, r54_74, r54_77, r54_78, r54_81, r54_84, r54_85, r54_86, r54_89, r54_92, r54_95, Nl_none, Nl_int, Nl_ref, Nl_null, Kv_some, Ki_some, Kh_some, Bk_some, Bk_void, ↓reduceIte, mrt10, mrt11, zl2, zl3, zl4, zl8, Bool.false_eq_true, gt_dyes, gt_things, gt_spots, gt_count, gt_lye, gt_year, gt_z, gt_dry, mis_tub, ln_dyes, ln_things, ln_spots, Int32.reduceAdd, Int32.reduceSub, Int32.reduceMul, Int32.reduceLT, zqm0, zqm1, zqm2, zqm3, zqm4, zqm5, zqm6, zqm7, zqm8, zq0m, zq01, zq02, zq03, zq04, zq05, zq06, zq07, zq08, zq1m, zq10, zq12, zq13, zq14, zq15, zq16, zq17, zq18, zq2m, zq20, zq21, zq23, zq24, zq25, zq26, zq27, zq28, zq3m, zq30, zq31, zq32, zq34, zq35, zq36, zq37, zq38, zq4m, zq40, zq41, zq42, zq43, zq45, zq46, zq47, zq48, zq5m, zq50, zq51, zq52, zq53, zq54, zq56, zq57, zq58, zq6m, zq60, zq61, zq62, zq63, zq64, zq65, zq67, zq68, zq7m, zq70, zq71, zq72, zq73, zq74, zq75, zq76, zq78, zq8m, zq80, zq81, zq82, zq83, zq84, zq85, zq86, zq87, ok.2.1, hd, lt, lt8 k8, ld_thN k8, mis_thing k8, gt_holds k8, gt_layer k8, gt_colour k8, pt_holds k8, e_bleeds k8, e_min, of_in, q, blB]
      rw [show (if blS (s (28 + 6 * k)) (s 3) (s (33 + 6 * k)) < s (31 + 6 * k) then blS (s (28 + 6 * k)) (s 3) (s (33 + 6 * k)) else s (31 + 6 * k)) = losT k s from rfl]
      simp only [r54_0, r54_1, r54_3, r54_4, r54_7, r54_10, r54_11, r54_12, r54_15, r54_16, r54_19, r54_20, r54_23, r54_24, r54_25, r54_26, r54_27, r54_30, r54_31, r54_34, r54_35, r54_36, r54_37, r54_38, r54_41, r54_42, r54_43, r54_46, r54_49, r54_52, r54_53, r54_54, r54_55, r54_58, r54_59, r54_60, r54_63, r54_64, r54_65, r54_68, r54_69, r54_72, r54_73, r54_74, r54_77, r54_78, r54_81, r54_84, r54_85, r54_86, r54_89, r54_92, r54_95, Nl_none, Nl_int, Nl_ref, Nl_null, Kv_some, Ki_some, Kh_some, Bk_some, Bk_void, ↓reduceIte, mrt10, mrt11, zl2, zl3, zl4, zl8, Bool.false_eq_true, gt_dyes, gt_things, gt_spots, gt_count, gt_lye, gt_year, gt_z, gt_dry, mis_tub, ln_dyes, ln_things, ln_spots, Int32.reduceAdd, Int32.reduceSub, Int32.reduceMul, Int32.reduceLT, zqm0, zqm1, zqm2, zqm3, zqm4, zqm5, zqm6, zqm7, zqm8, zq0m, zq01, zq02, zq03, zq04, zq05, zq06, zq07, zq08, zq1m, zq10, zq12, zq13, zq14, zq15, zq16, zq17, zq18, zq2m, zq20, zq21, zq23, zq24, zq25, zq26, zq27, zq28, zq3m, zq30, zq31, zq32, zq34, zq35, zq36, zq37, zq38, zq4m, zq40, zq41, zq42, zq43, zq45, zq46, zq47, zq48, zq5m, zq50, zq51, zq52, zq53, zq54, zq56, zq57, zq58, zq6m, zq60, zq61, zq62, zq63, zq64, zq65, zq67, zq68, zq7m, zq70, zq71, zq72, zq73, zq74, zq75, zq76, zq78, zq8m, zq80, zq81, zq82, zq83, zq84, zq85, zq86, zq87, ok.2.1, hd, lt, lt8 k8, ld_thN k8, mis_thing k8, gt_holds k8, gt_layer k8, gt_colour k8, pt_holds k8, of_in, g1, g2, g3, e_dyeIn hL hC, e_setDye hL hC, blT]
    · simp only [r54_0, r54_1, r54_3, r54_4, r54_7, r54_10, r54_11, r54_12, r54_15, r54_16, r54_19, r54_20, r54_23, r54_24, r54_25, r54_26, r54_27, r54_30, r54_31, r54_34, r54_35, r54_36, r54_37, r54_38, r54_41, r54_42, r54_43, r54_46, r54_49, r54_52, r54_53, r54_54, r54_55, r54_58, r54_59, r54_60, r54_63, r54_64, r54_65, r54_68, r54_69, r54_72, r54_73, r54_74, r54_77, r54_78, r54_81, r54_84, r54_85, r54_86, r54_89, r54_92, r54_95, Nl_none, Nl_int, Nl_ref, Nl_null, Kv_some, Ki_some, Kh_some, Bk_some, Bk_void, ↓reduceIte, mrt10, mrt11, zl2, zl3, zl4, zl8, Bool.false_eq_true, gt_dyes, gt_things, gt_spots, gt_count, gt_lye, gt_year, gt_z, gt_dry, mis_tub, ln_dyes, ln_things, ln_spots, Int32.reduceAdd, Int32.reduceSub, Int32.reduceMul, Int32.reduceLT, zqm0, zqm1, zqm2, zqm3, zqm4, zqm5, zqm6, zqm7, zqm8, zq0m, zq01, zq02, zq03, zq04, zq05, zq06, zq07, zq08, zq1m, zq10, zq12, zq13, zq14, zq15, zq16, zq17, zq18, zq2m, zq20, zq21, zq23, zq24, zq25, zq26, zq27, zq28, zq3m, zq30, zq31, zq32, zq34, zq35, zq36, zq37, zq38, zq4m, zq40, zq41, zq42, zq43, zq45, zq46, zq47, zq48, zq5m, zq50, zq51, zq52, zq53, zq54, zq56, zq57, zq58, zq6m, zq60, zq61, zq62, zq63, zq64, zq65, zq67, zq68, zq7m, zq70, zq71, zq72, zq73, zq74, zq75, zq76, zq78, zq8m, zq80, zq81, zq82, zq83, zq84, zq85, zq86, zq87, ok.2.1, hd, lt, lt8 k8, of_in, q, blB], ⟨sr_blB ok hk, (blB_86 ok hk).trans hd⟩⟩) n 0 (T, none, none) (by omega) ⟨ok, hd⟩
  have e1 : ∀ m k (s : TS × Option Value × Option Value), (lpf (fun k (s : TS × Option Value × Option Value) => (blB out k s.1, if out >>> (Int32.ofNat k &&& 31) &&& 1 = 0 then (some (Value.ref (b + 4 + k)), some (Value.int (losT k s.1))) else s.2)) k m s).1 = lpf (blB out) k m s.1 := by
    intro m
    induction m with
    | zero => intro k s; rfl
    | succ m ih => intro k s; exact ih (k + 1) _
  have e2 := e1 n 0 (T, none, none)
  generalize hs : lpf (fun k (s : TS × Option Value × Option Value) => (blB out k s.1, if out >>> (Int32.ofNat k &&& 31) &&& 1 = 0 then (some (Value.ref (b + 4 + k)), some (Value.int (losT k s.1))) else s.2)) 0 n (T, none, none) = s' at L e2
  obtain ⟨s, u, v⟩ := s'
  have e2 : s = blA out n T := e2
  subst e2
  refine ⟨?_, L.2.2⟩
  rw [Ec_go rfl]; show Rn 54 (0, [some (.ref b), none, none, none], [], a, setTub h b T) = _
  simp only [r54_0, r54_1, r54_3, r54_4, r54_7, r54_10, r54_11, r54_12, r54_15, r54_16, r54_19, r54_20, r54_23, r54_24, r54_25, r54_26, r54_27, r54_30, r54_31, r54_34, r54_35, r54_36, r54_37, r54_38, r54_41, r54_42, r54_43, r54_46, r54_49, r54_52, r54_53, r54_54, r54_55, r54_58, r54_59, r54_60, r54_63, r54_64, r54_65, r54_68, r54_69, r54_72, r54_73, r54_74, r54_77, r54_78, r54_81, r54_84, r54_85, r54_86, r54_89, r54_92, r54_95, Nl_none, Nl_int, Nl_ref, Nl_null, Kv_some, Ki_some, Kh_some, Bk_some, Bk_void, ↓reduceIte, mrt10, mrt11, zl2, zl3, zl4, zl8, Bool.false_eq_true]
  refine L.1.trans ?_
  show Rn 54 (2, [some (.ref b), some (.int (Int32.ofNat n)), u, v], [], a, setTub h b (blA out n T)) = _
  have ok' : Ok n (blA out n T) := sr_blA ok
  have lf := ltF (Nat.le_refl n) (by omega)
  rw [r54_2]
  simp only [r54_0, r54_1, r54_3, r54_4, r54_7, r54_10, r54_11, r54_12, r54_15, r54_16, r54_19, r54_20, r54_23, r54_24, r54_25, r54_26, r54_27, r54_30, r54_31, r54_34, r54_35, r54_36, r54_37, r54_38, r54_41, r54_42, r54_43, r54_46, r54_49, r54_52, r54_53, r54_54, r54_55, r54_58, r54_59, r54_60, r54_63, r54_64, r54_65, r54_68, r54_69, r54_72, r54_73, r54_74, r54_77, r54_78, r54_81, r54_84, r54_85, r54_86, r54_89, r54_92, r54_95, Nl_none, Nl_int, Nl_ref, Nl_null, Kv_some, Ki_some, Kh_some, Bk_some, Bk_void, ↓reduceIte, mrt10, mrt11, zl2, zl3, zl4, zl8, Bool.false_eq_true, gt_dyes, gt_things, gt_spots, gt_count, gt_lye, gt_year, gt_z, gt_dry, mis_tub, ln_dyes, ln_things, ln_spots, ok'.2.1, lf]
theorem sk_eq {k : Nat} : mfu (mfu T (7 + k) (cap (T (7 + k) + T (4 + k) / 4))) (4 + k) (T (4 + k) - T (4 + k) / 4) = skS k T := by
  unfold skS; exact fu_cm (by omega)
theorem e_sink : Ec 55 [.ref b] a (setTub h b T) = some (none, a, setTub h b (skA T)) := by
  have L := lp_up (M := 55) (X := fun k (s : TS × Option Value) => (8, [some (.ref b), some (.int (Int32.ofNat (23 - k))), s.2], [], a, setTub h b s.1)) (f := fun k s => (skS (20 - k) s.1, some (.int (s.1 (4 + (20 - k)) / 4)))) (P := fun _ s => True) (N := 21) (fun k s hk _ => ⟨by
    obtain ⟨s, v⟩ := s
    obtain ⟨j, hj⟩ : ∃ j, k + j = 20 := ⟨20 - k, by omega⟩
    show Rn 55 (8, [some (.ref b), some (.int (Int32.ofNat (23 - k))), v], [], a, setTub h b s) = Rn 55 (8, [some (.ref b), some (.int (Int32.ofNat (23 - (k + 1)))), some (.int (s (4 + (20 - k)) / 4))], [], a, setTub h b (skS (20 - k) s))
    rw [show 20 - k = j by omega, show 23 - k = j + 3 by omega, show 23 - (k + 1) = j + 3 - 1 by omega]
    have e3 : Int32.ofNat (j + 3) - 3 = Int32.ofNat j := of_sub (j + 3) 3 (by omega)
    have e1 : Int32.ofNat (j + 3) + -1 = Int32.ofNat (j + 3 - 1) := of_dec (by omega)
    have lt : (Int32.ofNat (j + 3) < (3 : Int32)) = False := ltF (m := 3) (by omega) (by omega)
    have l1 : ∀ s : TS, mld (setTub h b s) (b + 1) (Int32.ofNat (j + 3)) false = some (s (7 + j)) := fun s => by rw [ld_dyN (by omega), show 4 + (j + 3) = 7 + j by omega]
    have p1 : ∀ (s : TS) (v : Int32), mias (setTub h b s) (b + 1) (Int32.ofNat (j + 3)) v = some (setTub h b (mfu s (7 + j) v)) := fun s v => by rw [pt_dyN (by omega), show 4 + (j + 3) = 7 + j by omega]
    have l2 : ∀ v, mfu s (7 + j) v (4 + j) = s (4 + j) := fun v => fu_ne (by omega)
    have hj4 : j < 24 := by omega
    rw [r55_8]
    simp only [r55_0, r55_1, r55_4, r55_5, r55_6, r55_7, r55_9, r55_10, r55_13, r55_14, r55_17, r55_18, r55_19, r55_20, r55_21, r55_22, r55_23, r55_24, r55_25, r55_28, r55_29, r55_30, r55_33, r55_34, r55_35, r55_36, r55_37, r55_40, r55_43, r55_44, r55_45, r55_48, r55_49, r55_50, r55_51, r55_52, r55_53, r55_54, r55_55, r55_56, r55_59, r55_62, Nl_none, Nl_int, Nl_ref, Nl_null, Kv_some, Ki_some, Kh_some, Bk_some, Bk_void, ↓reduceIte, mrt10, mrt11, zl2, zl3, zl4, zl8, Bool.false_eq_true, gt_dyes, gt_things, gt_spots, gt_count, gt_lye, gt_year, gt_z, gt_dry, mis_tub, ln_dyes, ln_things, ln_spots, lt, e3, e1, l1, p1, l2, ld_dyN hj4, pt_dyN hj4, e_mincap, sk_eq], trivial⟩) 21 0 (T, none) (by omega) trivial
  have e1 : ∀ m k (s : TS × Option Value), (lpf (fun k (s : TS × Option Value) => (skS (20 - k) s.1, some (Value.int (s.1 (4 + (20 - k)) / 4)))) k m s).1 = lpf (fun i => skS (20 - i)) k m s.1 := by
    intro m
    induction m with
    | zero => intro k s; rfl
    | succ m ih => intro k s; exact ih (k + 1) _
  have e2 := e1 21 0 (T, none)
  generalize hs : lpf (fun k (s : TS × Option Value) => (skS (20 - k) s.1, some (Value.int (s.1 (4 + (20 - k)) / 4)))) 0 21 (T, none) = s' at L e2
  obtain ⟨s, v⟩ := s'
  have e2 : s = skA T := e2
  subst e2
  rw [Ec_go rfl]; show Rn 55 (0, [some (.ref b), none, none], [], a, setTub h b T) = _
  simp only [r55_0, r55_1, r55_4, r55_5, r55_6, r55_7, r55_9, r55_10, r55_13, r55_14, r55_17, r55_18, r55_19, r55_20, r55_21, r55_22, r55_23, r55_24, r55_25, r55_28, r55_29, r55_30, r55_33, r55_34, r55_35, r55_36, r55_37, r55_40, r55_43, r55_44, r55_45, r55_48, r55_49, r55_50, r55_51, r55_52, r55_53, r55_54, r55_55, r55_56, r55_59, r55_62, Nl_none, Nl_int, Nl_ref, Nl_null, Kv_some, Ki_some, Kh_some, Bk_some, Bk_void, ↓reduceIte, mrt10, mrt11, zl2, zl3, zl4, zl8, Bool.false_eq_true, gt_dyes, gt_things, gt_spots, gt_count, gt_lye, gt_year, gt_z, gt_dry, mis_tub, ln_dyes, ln_things, ln_spots, Int32.reduceSub]
  refine L.1.trans ?_
  show Rn 55 (8, [some (.ref b), some (.int (Int32.ofNat 2)), v], [], a, setTub h b (skA T)) = _
  rw [r55_8]
  simp only [r55_0, r55_1, r55_4, r55_5, r55_6, r55_7, r55_9, r55_10, r55_13, r55_14, r55_17, r55_18, r55_19, r55_20, r55_21, r55_22, r55_23, r55_24, r55_25, r55_28, r55_29, r55_30, r55_33, r55_34, r55_35, r55_36, r55_37, r55_40, r55_43, r55_44, r55_45, r55_48, r55_49, r55_50, r55_51, r55_52, r55_53, r55_54, r55_55, r55_56, r55_59, r55_62, Nl_none, Nl_int, Nl_ref, Nl_null, Kv_some, Ki_some, Kh_some, Bk_some, Bk_void, ↓reduceIte, mrt10, mrt11, zl2, zl3, zl4, zl8, Bool.false_eq_true, gt_dyes, gt_things, gt_spots, gt_count, gt_lye, gt_year, gt_z, gt_dry, mis_tub, ln_dyes, ln_things, ln_spots, Int32.reduceAdd, Int32.reduceSub, Int32.reduceMul, Int32.reduceLT, zqm0, zqm1, zqm2, zqm3, zqm4, zqm5, zqm6, zqm7, zqm8, zq0m, zq01, zq02, zq03, zq04, zq05, zq06, zq07, zq08, zq1m, zq10, zq12, zq13, zq14, zq15, zq16, zq17, zq18, zq2m, zq20, zq21, zq23, zq24, zq25, zq26, zq27, zq28, zq3m, zq30, zq31, zq32, zq34, zq35, zq36, zq37, zq38, zq4m, zq40, zq41, zq42, zq43, zq45, zq46, zq47, zq48, zq5m, zq50, zq51, zq52, zq53, zq54, zq56, zq57, zq58, zq6m, zq60, zq61, zq62, zq63, zq64, zq65, zq67, zq68, zq7m, zq70, zq71, zq72, zq73, zq74, zq75, zq76, zq78, zq8m, zq80, zq81, zq82, zq83, zq84, zq85, zq86, zq87, Int32.reduceOfNat]
theorem sk_86 : skA T 86 = T 86 := lpf_inv (f := fun i => skS (20 - i)) (P := fun _ (s : TS) => s 86 = T 86) (N := 21) (fun k s hk p => by show skS (20 - k) s 86 = _; unfold skS; rw [fu_ne (by omega), fu_ne (by omega)]; exact p) 21 0 T (by omega) rfl
theorem tn_86 {s : TS} (hn : n ≤ 8) (ht : t < n) : tnT t s 86 = s 86 := by
  unfold tnT
  split
  · rw [fu_ne (by omega), fu_ne (by omega)]
  · rfl
theorem ri_86 {s : TS} (hn : n ≤ 8) (ht : t < n) : riT t s 86 = s 86 := by
  unfold riT
  rw [fu_ne (by omega), fu_ne (by omega)]
  split
  · rw [fu_ne (by omega)]
  · rfl
theorem e_turn (ok : Ok n T) : Ec 56 [.ref b] a (setTub h b T) = some (none, a, setTub h b (tnA n T)) := by
  have h8 := ok.1
  have L := lp_up (M := 56) (X := fun k (s : TS × Option Value × Option Value × Option Value) => (2, [some (.ref b), some (.int (Int32.ofNat k)), s.2.1, s.2.2.1, s.2.2.2], [], a, setTub h b s.1)) (f := fun k s => (tnT k s.1, some (.ref (b + 4 + k)), some (.int (othT k s.1)), some (.int (s.1 (dyI (s.1 (29 + 6 * k)) (othT k s.1)))))) (P := fun _ s => Ok n s.1) (N := n) (fun k s hk ok => ⟨by
    obtain ⟨s, u1, u2, u3⟩ := s
    have ok : Ok n s := ok
    have k8 : k < 8 := by omega
    have lt := ltT hk (by omega)
    have hL := sr_isL ok hk
    have hC := sr_isC ok hk
    have hO : isC (othT k s) = true := chO_isC
    have ech : Ec 47 [.ref b, .int (s (29 + 6 * k)), .int (s (30 + 6 * k))] a (setTub h b s) = some (some (.int (othT k s)), a, setTub h b s) := e_chief ok hL hC
    have etu : Ec 32 [.ref (b + 4 + k), .int (othT k s)] a (setTub h b s) = some (none, a, setTub h b (mfu (mfu s (30 + 6 * k) (othT k s)) (31 + 6 * k) (cap (s (31 + 6 * k) + 10)))) := e_turnInto k8
    show Rn 56 (2, [some (.ref b), some (.int (Int32.ofNat k)), u1, u2, u3], [], a, setTub h b s) = Rn 56 (2, [some (.ref b), some (.int (Int32.ofNat (k + 1))), some (.ref (b + 4 + k)), some (.int (othT k s)), some (.int (s (dyI (s (29 + 6 * k)) (othT k s))))], [], a, setTub h b (tnT k s))
    rw [r56_2]
    unfold tnT
    by_cases q : faS (s (28 + 6 * k)) (s 3) < s (dyI (s (29 + 6 * k)) (othT k s))
    · by_cases q2 : s (dyI (s (29 + 6 * k)) (s (30 + 6 * k))) < s (dyI (s (29 + 6 * k)) (othT k s))
      · simp only [r56_0, r56_1, r56_3, r56_4, r56_7, r56_10, r56_11, r56_12, r56_15, r56_16, r56_19, r56_20, r56_23, r56_24, r56_25, r56_26, r56_27, r56_28, r56_31, r56_32, r56_35, r56_38, r56_39, r56_40, r56_41, r56_44, r56_45, r56_48, r56_50, r56_52, r56_53, r56_54, r56_57, r56_60, r56_63, r56_65, r56_66, r56_67, r56_70, r56_71, r56_74, r56_77, r56_80, r56_81, r56_82, r56_85, r56_88, r56_91, Nl_none, Nl_int, Nl_ref, Nl_null, Kv_some, Ki_some, Kh_some, Bk_some, Bk_void, ↓reduceIte, mrt10, mrt11, zl2, zl3, zl4, zl8, Bool.false_eq_true, gt_dyes, gt_things, gt_spots, gt_count, gt_lye, gt_year, gt_z, gt_dry, mis_tub, ln_dyes, ln_things, ln_spots, ok.2.1, lt, lt8 k8, ld_thN k8, mis_thing k8, gt_layer k8, gt_colour k8, ech, etu, e_fast k8, e_dyeIn hL hC, e_dyeIn hL hO, of_in, q, q2, and_self]
      · simp only [r56_0, r56_1, r56_3, r56_4, r56_7, r56_10, r56_11, r56_12, r56_15, r56_16, r56_19, r56_20, r56_23, r56_24, r56_25, r56_26, r56_27, r56_28, r56_31, r56_32, r56_35, r56_38, r56_39, r56_40, r56_41, r56_44, r56_45, r56_48, r56_50, r56_52, r56_53, r56_54, r56_57, r56_60, r56_63, r56_65, r56_66, r56_67, r56_70, r56_71, r56_74, r56_77, r56_80, r56_81, r56_82, r56_85, r56_88, r56_91, Nl_none, Nl_int, Nl_ref, Nl_null, Kv_some, Ki_some, Kh_some, Bk_some, Bk_void, ↓reduceIte, mrt10, mrt11, zl2, zl3, zl4, zl8, Bool.false_eq_true, gt_dyes, gt_things, gt_spots, gt_count, gt_lye, gt_year, gt_z, gt_dry, mis_tub, ln_dyes, ln_things, ln_spots, ok.2.1, lt, lt8 k8, ld_thN k8, mis_thing k8, gt_layer k8, gt_colour k8, ech, etu, e_fast k8, e_dyeIn hL hC, e_dyeIn hL hO, of_in, q, q2, and_false]
    · simp only [r56_0, r56_1, r56_3, r56_4, r56_7, r56_10, r56_11, r56_12, r56_15, r56_16, r56_19, r56_20, r56_23, r56_24, r56_25, r56_26, r56_27, r56_28, r56_31, r56_32, r56_35, r56_38, r56_39, r56_40, r56_41, r56_44, r56_45, r56_48, r56_50, r56_52, r56_53, r56_54, r56_57, r56_60, r56_63, r56_65, r56_66, r56_67, r56_70, r56_71, r56_74, r56_77, r56_80, r56_81, r56_82, r56_85, r56_88, r56_91, Nl_none, Nl_int, Nl_ref, Nl_null, Kv_some, Ki_some, Kh_some, Bk_some, Bk_void, ↓reduceIte, mrt10, mrt11, zl2, zl3, zl4, zl8, Bool.false_eq_true, gt_dyes, gt_things, gt_spots, gt_count, gt_lye, gt_year, gt_z, gt_dry, mis_tub, ln_dyes, ln_things, ln_spots, ok.2.1, lt, lt8 k8, ld_thN k8, mis_thing k8, gt_layer k8, gt_colour k8, ech, etu, e_fast k8, e_dyeIn hL hC, e_dyeIn hL hO, of_in, q, false_and], sr_tn ok hk⟩) n 0 (T, none, none, none) (by omega) ok
  have e1 : ∀ m k (s : TS × Option Value × Option Value × Option Value), (lpf (fun k (s : TS × Option Value × Option Value × Option Value) => (tnT k s.1, some (Value.ref (b + 4 + k)), some (Value.int (othT k s.1)), some (Value.int (s.1 (dyI (s.1 (29 + 6 * k)) (othT k s.1)))))) k m s).1 = lpf tnT k m s.1 := by
    intro m
    induction m with
    | zero => intro k s; rfl
    | succ m ih => intro k s; exact ih (k + 1) _
  have e2 := e1 n 0 (T, none, none, none)
  generalize hs : lpf (fun k (s : TS × Option Value × Option Value × Option Value) => (tnT k s.1, some (Value.ref (b + 4 + k)), some (Value.int (othT k s.1)), some (Value.int (s.1 (dyI (s.1 (29 + 6 * k)) (othT k s.1)))))) 0 n (T, none, none, none) = s' at L e2
  obtain ⟨s, u1, u2, u3⟩ := s'
  have e2 : s = tnA n T := e2
  subst e2
  rw [Ec_go rfl]; show Rn 56 (0, [some (.ref b), none, none, none, none], [], a, setTub h b T) = _
  simp only [r56_0, r56_1, r56_3, r56_4, r56_7, r56_10, r56_11, r56_12, r56_15, r56_16, r56_19, r56_20, r56_23, r56_24, r56_25, r56_26, r56_27, r56_28, r56_31, r56_32, r56_35, r56_38, r56_39, r56_40, r56_41, r56_44, r56_45, r56_48, r56_50, r56_52, r56_53, r56_54, r56_57, r56_60, r56_63, r56_65, r56_66, r56_67, r56_70, r56_71, r56_74, r56_77, r56_80, r56_81, r56_82, r56_85, r56_88, r56_91, Nl_none, Nl_int, Nl_ref, Nl_null, Kv_some, Ki_some, Kh_some, Bk_some, Bk_void, ↓reduceIte, mrt10, mrt11, zl2, zl3, zl4, zl8, Bool.false_eq_true]
  refine L.1.trans ?_
  show Rn 56 (2, [some (.ref b), some (.int (Int32.ofNat n)), u1, u2, u3], [], a, setTub h b (tnA n T)) = _
  have ok' : Ok n (tnA n T) := sr_tnA ok
  have lf := ltF (Nat.le_refl n) (by omega)
  rw [r56_2]
  simp only [r56_0, r56_1, r56_3, r56_4, r56_7, r56_10, r56_11, r56_12, r56_15, r56_16, r56_19, r56_20, r56_23, r56_24, r56_25, r56_26, r56_27, r56_28, r56_31, r56_32, r56_35, r56_38, r56_39, r56_40, r56_41, r56_44, r56_45, r56_48, r56_50, r56_52, r56_53, r56_54, r56_57, r56_60, r56_63, r56_65, r56_66, r56_67, r56_70, r56_71, r56_74, r56_77, r56_80, r56_81, r56_82, r56_85, r56_88, r56_91, Nl_none, Nl_int, Nl_ref, Nl_null, Kv_some, Ki_some, Kh_some, Bk_some, Bk_void, ↓reduceIte, mrt10, mrt11, zl2, zl3, zl4, zl8, Bool.false_eq_true, gt_dyes, gt_things, gt_spots, gt_count, gt_lye, gt_year, gt_z, gt_dry, mis_tub, ln_dyes, ln_things, ln_spots, ok'.2.1, lf]
theorem e_riseT (ht : t < 8) : Ec 33 [.ref (b + 4 + t), .int (T 1)] a (setTub h b T) = some (none, a, setTub h b (riT t T)) := e_rise ht
theorem e_riseAll (ok : Ok n T) : Ec 57 [.ref b] a (setTub h b T) = some (none, a, setTub h b (riA n T)) := by
  have h8 := ok.1
  have L := lp_up (M := 57) (X := fun k (s : TS) => (2, [some (.ref b), some (.int (Int32.ofNat k))], [], a, setTub h b s)) (f := riT) (P := fun _ s => Ok n s) (N := n) (fun k s hk ok => ⟨by
    have k8 : k < 8 := by omega
    have lt := ltT hk (by omega)
    show Rn 57 (2, [some (.ref b), some (.int (Int32.ofNat k))], [], a, setTub h b s) = Rn 57 (2, [some (.ref b), some (.int (Int32.ofNat (k + 1)))], [], a, setTub h b (riT k s))
    rw [r57_2]
    simp only [r57_0, r57_1, r57_3, r57_4, r57_7, r57_10, r57_11, r57_12, r57_15, r57_16, r57_19, r57_20, r57_23, r57_24, r57_25, r57_26, r57_29, r57_32, r57_35, r57_38, Nl_none, Nl_int, Nl_ref, Nl_null, Kv_some, Ki_some, Kh_some, Bk_some, Bk_void, ↓reduceIte, mrt10, mrt11, zl2, zl3, zl4, zl8, Bool.false_eq_true, gt_dyes, gt_things, gt_spots, gt_count, gt_lye, gt_year, gt_z, gt_dry, mis_tub, ln_dyes, ln_things, ln_spots, ok.2.1, lt, lt8 k8, ld_thN k8, mis_thing k8, e_riseT k8, of_in], sr_ri ok hk⟩) n 0 T (by omega) ok
  rw [Ec_go rfl]; show Rn 57 (0, [some (.ref b), none], [], a, setTub h b T) = _
  simp only [r57_0, r57_1, r57_3, r57_4, r57_7, r57_10, r57_11, r57_12, r57_15, r57_16, r57_19, r57_20, r57_23, r57_24, r57_25, r57_26, r57_29, r57_32, r57_35, r57_38, Nl_none, Nl_int, Nl_ref, Nl_null, Kv_some, Ki_some, Kh_some, Bk_some, Bk_void, ↓reduceIte, mrt10, mrt11, zl2, zl3, zl4, zl8, Bool.false_eq_true]
  refine L.1.trans ?_
  show Rn 57 (2, [some (.ref b), some (.int (Int32.ofNat n))], [], a, setTub h b (riA n T)) = _
  have ok' : Ok n (riA n T) := sr_riA ok
  have lf := ltF (Nat.le_refl n) (by omega)
  rw [r57_2]
  simp only [r57_0, r57_1, r57_3, r57_4, r57_7, r57_10, r57_11, r57_12, r57_15, r57_16, r57_19, r57_20, r57_23, r57_24, r57_25, r57_26, r57_29, r57_32, r57_35, r57_38, Nl_none, Nl_int, Nl_ref, Nl_null, Kv_some, Ki_some, Kh_some, Bk_some, Bk_void, ↓reduceIte, mrt10, mrt11, zl2, zl3, zl4, zl8, Bool.false_eq_true, gt_dyes, gt_things, gt_spots, gt_count, gt_lye, gt_year, gt_z, gt_dry, mis_tub, ln_dyes, ln_things, ln_spots, ok'.2.1, lf]
theorem yr_86 (ok : Ok n T) (hd : T 86 = out) : yrT out n T 86 = out := by
  have h8 := ok.1
  unfold yrT
  rw [fu_ne (by omega)]
  have h1 : blA out n T 86 = out := (e_bleed (a := (0, 0, 0)) (h := fun _ => mjunk) (b := 0) ok hd).2
  have h2 := (sk_86 (T := blA out n T)).trans h1
  have h3 : tnA n (skA (blA out n T)) 86 = out := lpf_inv (f := tnT) (P := fun _ (s : TS) => s 86 = out) (N := n) (fun k s hk p => (tn_86 h8 hk).trans p) n 0 _ (by omega) h2
  exact lpf_inv (f := riT) (P := fun _ (s : TS) => s 86 = out) (N := n) (fun k s hk p => (ri_86 h8 hk).trans p) n 0 _ (by omega) h3
theorem e_minye : Ec 228 [.int (x + 1), .int 99999] a h = some (some (.int (yeS x)), a, h) := e_min
theorem e_passYears {m : Nat} (ok : Ok n T) (hd : T 86 = out) (hm : m < 2147483648) : Ec 53 [.ref b, .int (Int32.ofNat m)] a (setTub h b T) = some (none, a, setTub h b (ysT out n m T)) := by
  have L := lp_up (M := 53) (X := fun k (s : TS) => (2, [some (.ref b), some (.int (Int32.ofNat m)), some (.int (Int32.ofNat k))], [], a, setTub h b s)) (f := fun _ => yrT out n) (P := fun _ s => Ok n s ∧ s 86 = out) (N := m) (fun k s hk ⟨ok, hd⟩ => ⟨by
    have lt := ltT hk hm
    have k1 : Ok n (blA out n s) := sr_blA ok
    have k2 : Ok n (skA (blA out n s)) := sr_skA k1
    have k3 : Ok n (tnA n (skA (blA out n s))) := sr_tnA k2
    show Rn 53 (2, [some (.ref b), some (.int (Int32.ofNat m)), some (.int (Int32.ofNat k))], [], a, setTub h b s) = Rn 53 (2, [some (.ref b), some (.int (Int32.ofNat m)), some (.int (Int32.ofNat (k + 1)))], [], a, setTub h b (yrT out n s))
    rw [r53_2]
    simp only [r53_0, r53_1, r53_3, r53_4, r53_7, r53_8, r53_11, r53_12, r53_15, r53_16, r53_19, r53_20, r53_23, r53_24, r53_25, r53_28, r53_29, r53_30, r53_32, r53_35, r53_38, r53_41, r53_44, Nl_none, Nl_int, Nl_ref, Nl_null, Kv_some, Ki_some, Kh_some, Bk_some, Bk_void, ↓reduceIte, mrt10, mrt11, zl2, zl3, zl4, zl8, Bool.false_eq_true, gt_dyes, gt_things, gt_spots, gt_count, gt_lye, gt_year, gt_z, gt_dry, mis_tub, ln_dyes, ln_things, ln_spots, lt, (e_bleed ok hd).1, e_sink, e_turn k2, e_riseAll k3, e_minye, pt_year, of_in, yrT], sr_yr ok, yr_86 ok hd⟩) m 0 T (by omega) ⟨ok, hd⟩
  rw [Ec_go rfl]; show Rn 53 (0, [some (.ref b), some (.int (Int32.ofNat m)), none], [], a, setTub h b T) = _
  simp only [r53_0, r53_1, r53_3, r53_4, r53_7, r53_8, r53_11, r53_12, r53_15, r53_16, r53_19, r53_20, r53_23, r53_24, r53_25, r53_28, r53_29, r53_30, r53_32, r53_35, r53_38, r53_41, r53_44, Nl_none, Nl_int, Nl_ref, Nl_null, Kv_some, Ki_some, Kh_some, Bk_some, Bk_void, ↓reduceIte, mrt10, mrt11, zl2, zl3, zl4, zl8, Bool.false_eq_true]
  refine L.1.trans ?_
  show Rn 53 (2, [some (.ref b), some (.int (Int32.ofNat m)), some (.int (Int32.ofNat m))], [], a, setTub h b (ysT out n m T)) = _
  have lf := ltF (Nat.le_refl m) hm
  rw [r53_2]
  simp only [r53_0, r53_1, r53_3, r53_4, r53_7, r53_8, r53_11, r53_12, r53_15, r53_16, r53_19, r53_20, r53_23, r53_24, r53_25, r53_28, r53_29, r53_30, r53_32, r53_35, r53_38, r53_41, r53_44, Nl_none, Nl_int, Nl_ref, Nl_null, Kv_some, Ki_some, Kh_some, Bk_some, Bk_void, ↓reduceIte, mrt10, mrt11, zl2, zl3, zl4, zl8, Bool.false_eq_true, gt_dyes, gt_things, gt_spots, gt_count, gt_lye, gt_year, gt_z, gt_dry, mis_tub, ln_dyes, ln_things, ln_spots, lf]
def drZ (z : Int32) : Int32 := z * 1103515245 + 12345
def drV (z : Int32) : Int32 := (z.toUInt32 >>> (Int32.toUInt32 8 &&& Int32.toUInt32 31)).toInt32
theorem e_draw : Ec 58 [.ref b] a (setTub h b T) = some (some (.int (drV (drZ (T 2)))), a, setTub h b (mfu T 2 (drZ (T 2)))) := by
  rw [Ec_go rfl]; show Rn 58 (0, [some (.ref b)], [], a, setTub h b T) = _
  simp only [r58_0, r58_1, r58_2, r58_5, r58_7, r58_8, r58_11, r58_12, r58_15, r58_16, r58_19, r58_21, r58_22, Nl_none, Nl_int, Nl_ref, Nl_null, Kv_some, Ki_some, Kh_some, Bk_some, Bk_void, ↓reduceIte, mrt10, mrt11, zl2, zl3, zl4, zl8, Bool.false_eq_true, gt_dyes, gt_things, gt_spots, gt_count, gt_lye, gt_year, gt_z, gt_dry, mis_tub, ln_dyes, ln_things, ln_spots, pt_z, fu_at, drZ, drV]
theorem e_setSpot (hk : t < 10) : Ec 59 [.ref b, .int (Int32.ofNat t), .int v] a (setTub h b T) = some (none, a, setTub h b (mfu T (76 + t) v)) := by
  rw [Ec_go rfl]; show Rn 59 (0, [some (.ref b), some (.int (Int32.ofNat t)), some (.int v)], [], a, setTub h b T) = _
  have e0 : (Int32.ofNat t < 0) = False := of_nn (by omega)
  have e1 : (Int32.ofNat t < (10 : Int32)) = True := ltT (m := 10) hk (by decide)
  simp only [r59_0, r59_1, r59_4, r59_5, r59_6, r59_9, r59_10, r59_13, r59_14, r59_17, r59_18, r59_19, r59_20, Nl_none, Nl_int, Nl_ref, Nl_null, Kv_some, Ki_some, Kh_some, Bk_some, Bk_void, ↓reduceIte, mrt10, mrt11, zl2, zl3, zl4, zl8, Bool.false_eq_true, gt_dyes, gt_things, gt_spots, gt_count, gt_lye, gt_year, gt_z, gt_dry, mis_tub, ln_dyes, ln_things, ln_spots, e0, e1, pt_spN hk]
theorem e_heldBy (hk : t < 10) : Ec 60 [.ref b, .int (Int32.ofNat t)] a (setTub h b T) = some (some (.int (T (76 + t))), a, setTub h b T) := by
  rw [Ec_go rfl]; show Rn 60 (0, [some (.ref b), some (.int (Int32.ofNat t))], [], a, setTub h b T) = _
  have e0 : (Int32.ofNat t < 0) = False := of_nn (by omega)
  have e1 : (Int32.ofNat t < (10 : Int32)) = True := ltT (m := 10) hk (by decide)
  simp only [r60_0, r60_1, r60_4, r60_5, r60_6, r60_9, r60_10, r60_13, r60_14, r60_17, r60_18, r60_19, r60_22, r60_23, Nl_none, Nl_int, Nl_ref, Nl_null, Kv_some, Ki_some, Kh_some, Bk_some, Bk_void, ↓reduceIte, mrt10, mrt11, zl2, zl3, zl4, zl8, Bool.false_eq_true, gt_dyes, gt_things, gt_spots, gt_count, gt_lye, gt_year, gt_z, gt_dry, mis_tub, ln_dyes, ln_things, ln_spots, e0, e1, ld_spN hk]
theorem e_spotsTaken : Ec 61 [.ref b] a (setTub h b T) = some (some (.int (spS T)), a, setTub h b T) := by
  have L := lp_up (M := 61) (X := fun k (s : Int32) => (4, [some (.ref b), some (.int s), some (.int (Int32.ofNat k))], [], a, setTub h b T)) (f := spF T) (P := fun _ _ => True) (N := 10) (fun k s hk _ => ⟨by
    have lt : (Int32.ofNat k < (10 : Int32)) = True := ltT (m := 10) hk (by decide)
    show Rn 61 (4, [some (.ref b), some (.int s), some (.int (Int32.ofNat k))], [], a, setTub h b T) = Rn 61 (4, [some (.ref b), some (.int (spF T k s)), some (.int (Int32.ofNat (k + 1)))], [], a, setTub h b T)
    rw [r61_4]
    by_cases q : T (76 + k) = -1
    · simp only [r61_0, r61_1, r61_2, r61_3, r61_5, r61_6, r61_9, r61_10, r61_13, r61_14, r61_17, r61_18, r61_19, r61_20, r61_23, r61_26, r61_29, r61_32, r61_33, Nl_none, Nl_int, Nl_ref, Nl_null, Kv_some, Ki_some, Kh_some, Bk_some, Bk_void, ↓reduceIte, mrt10, mrt11, zl2, zl3, zl4, zl8, Bool.false_eq_true, gt_dyes, gt_things, gt_spots, gt_count, gt_lye, gt_year, gt_z, gt_dry, mis_tub, ln_dyes, ln_things, ln_spots, lt, ld_spN hk, of_in, spF, q]
    · simp only [r61_0, r61_1, r61_2, r61_3, r61_5, r61_6, r61_9, r61_10, r61_13, r61_14, r61_17, r61_18, r61_19, r61_20, r61_23, r61_26, r61_29, r61_32, r61_33, Nl_none, Nl_int, Nl_ref, Nl_null, Kv_some, Ki_some, Kh_some, Bk_some, Bk_void, ↓reduceIte, mrt10, mrt11, zl2, zl3, zl4, zl8, Bool.false_eq_true, gt_dyes, gt_things, gt_spots, gt_count, gt_lye, gt_year, gt_z, gt_dry, mis_tub, ln_dyes, ln_things, ln_spots, lt, ld_spN hk, of_in, spF, q], trivial⟩) 10 0 0 (by omega) trivial
  rw [Ec_go rfl]; show Rn 61 (0, [some (.ref b), none, none], [], a, setTub h b T) = _
  simp only [r61_0, r61_1, r61_2, r61_3, r61_5, r61_6, r61_9, r61_10, r61_13, r61_14, r61_17, r61_18, r61_19, r61_20, r61_23, r61_26, r61_29, r61_32, r61_33, Nl_none, Nl_int, Nl_ref, Nl_null, Kv_some, Ki_some, Kh_some, Bk_some, Bk_void, ↓reduceIte, mrt10, mrt11, zl2, zl3, zl4, zl8, Bool.false_eq_true]
  refine L.1.trans ?_
  show Rn 61 (4, [some (.ref b), some (.int (spS T)), some (.int (Int32.ofNat 10))], [], a, setTub h b T) = _
  rw [r61_4]
  simp only [r61_0, r61_1, r61_2, r61_3, r61_5, r61_6, r61_9, r61_10, r61_13, r61_14, r61_17, r61_18, r61_19, r61_20, r61_23, r61_26, r61_29, r61_32, r61_33, Nl_none, Nl_int, Nl_ref, Nl_null, Kv_some, Ki_some, Kh_some, Bk_some, Bk_void, ↓reduceIte, mrt10, mrt11, zl2, zl3, zl4, zl8, Bool.false_eq_true, gt_dyes, gt_things, gt_spots, gt_count, gt_lye, gt_year, gt_z, gt_dry, mis_tub, ln_dyes, ln_things, ln_spots, Int32.reduceAdd, Int32.reduceSub, Int32.reduceMul, Int32.reduceLT, zqm0, zqm1, zqm2, zqm3, zqm4, zqm5, zqm6, zqm7, zqm8, zq0m, zq01, zq02, zq03, zq04, zq05, zq06, zq07, zq08, zq1m, zq10, zq12, zq13, zq14, zq15, zq16, zq17, zq18, zq2m, zq20, zq21, zq23, zq24, zq25, zq26, zq27, zq28, zq3m, zq30, zq31, zq32, zq34, zq35, zq36, zq37, zq38, zq4m, zq40, zq41, zq42, zq43, zq45, zq46, zq47, zq48, zq5m, zq50, zq51, zq52, zq53, zq54, zq56, zq57, zq58, zq6m, zq60, zq61, zq62, zq63, zq64, zq65, zq67, zq68, zq7m, zq70, zq71, zq72, zq73, zq74, zq75, zq76, zq78, zq8m, zq80, zq81, zq82, zq83, zq84, zq85, zq86, zq87, Int32.reduceOfNat]
end
