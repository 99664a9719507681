section
variable {x0 x1 x2 x3 x4 x5 x6 x7 x8 x9 : Option Value} {i j k i0 i1 i2 i3 i4 i5 i6 : Int32} {p q q0 q1 q2 q3 q4 q5 : Nat} {l m l0 l1 l2 : Int64} {u v w v0 v1 v2 v3 v4 v5 : Value} {st : List Value} {a : MA} {h : MH}
theorem c0_0 : mcode 0 0 = some (.aload_n 0, 1, 0, 0, 0) := rfl
theorem r0_0 : Rn 0 (0, [some (.ref q)], st, a, h) = Rn 0 (1, [some (.ref q)], .ref q :: st, a, h) := Rn_go c0_0 rfl
theorem c0_1 : mcode 0 1 = some (.invokespecial 3, 3, 9999, 0, 0) := rfl
theorem r0_1 : Rn 0 (1, [x0], [.ref q], a, h) = Rn 0 (4, [x0], [], a, h) := Rn_go c0_1 rfl
theorem c0_4 : mcode 0 4 = some (.aload_n 0, 1, 0, 0, 0) := rfl
theorem r0_4 : Rn 0 (4, [some (.ref q)], st, a, h) = Rn 0 (5, [some (.ref q)], .ref q :: st, a, h) := Rn_go c0_4 rfl
theorem c0_5 : mcode 0 5 = some (.bipush 40, 2, 0, 0, 0) := rfl
theorem r0_5 : Rn 0 (5, [x0], st, a, h) = Rn 0 (7, [x0], .int (40 : Int32) :: st, a, h) := Rn_go c0_5 rfl
theorem c0_7 : mcode 0 7 = some (.newarray .int, 2, 0, 0, 0) := rfl
theorem r0_7 {b c d : Nat} (hi : ¬ i < 0) (hj : i.toNatClampNeg ≤ 65536) (hb : b < 999) : Rn 0 (7, [x0], .int i :: st, (b, c, d), h) = Rn 0 (9, [x0], .ref b :: st, (b + 1, c + 1, d + i.toNatClampNeg), mup h b (.inl (i.toNatClampNeg, fun _ => 0))) := Rn_newarray c0_7 rfl hi hj hb
theorem c0_9 : mcode 0 9 = some (.putfield 9, 3, 0, 0, 2) := rfl
theorem r0_9 : Rn 0 (9, [x0], .ref p :: .ref q :: st, a, h) = Kh 0 12 [x0] st a (mpf h q 0 0 (.ref p)) := Rn_putfr c0_9 rfl rfl
theorem c0_12 : mcode 0 12 = some (.aload_n 0, 1, 0, 0, 0) := rfl
theorem r0_12 : Rn 0 (12, [some (.ref q)], st, a, h) = Rn 0 (13, [some (.ref q)], .ref q :: st, a, h) := Rn_go c0_12 rfl
theorem c0_13 : mcode 0 13 = some (.iconst 0, 1, 0, 0, 0) := rfl
theorem r0_13 : Rn 0 (13, [x0], st, a, h) = Rn 0 (14, [x0], .int (0 : Int32) :: st, a, h) := Rn_go c0_13 rfl
theorem c0_14 : mcode 0 14 = some (.putfield 15, 3, 0, 1, 0) := rfl
theorem r0_14 : Rn 0 (14, [x0], .int i :: .ref q :: st, a, h) = Kh 0 17 [x0] st a (mpf h q 0 1 (.int i)) := Rn_putfi c0_14 rfl rfl
theorem c0_17 : mcode 0 17 = some (.aload_n 0, 1, 0, 0, 0) := rfl
theorem r0_17 : Rn 0 (17, [some (.ref q)], st, a, h) = Rn 0 (18, [some (.ref q)], .ref q :: st, a, h) := Rn_go c0_17 rfl
theorem c0_18 : mcode 0 18 = some (.iconst 0, 1, 0, 0, 0) := rfl
theorem r0_18 : Rn 0 (18, [x0], st, a, h) = Rn 0 (19, [x0], .int (0 : Int32) :: st, a, h) := Rn_go c0_18 rfl
theorem c0_19 : mcode 0 19 = some (.putfield 19, 3, 0, 2, 0) := rfl
theorem r0_19 : Rn 0 (19, [x0], .int i :: .ref q :: st, a, h) = Kh 0 22 [x0] st a (mpf h q 0 2 (.int i)) := Rn_putfi c0_19 rfl rfl
theorem c0_22 : mcode 0 22 = some (.return_, 1, 0, 0, 0) := rfl
theorem r0_22 : Rn 0 (22, [x0], [], a, h) = some (none, a, h) := Rn_act c0_22
theorem c1_0 : mcode 1 0 = some (.aload_n 0, 1, 0, 0, 0) := rfl
theorem r1_0 : Rn 1 (0, [some (.ref q)], st, a, h) = Rn 1 (1, [some (.ref q)], .ref q :: st, a, h) := Rn_go c1_0 rfl
theorem c1_1 : mcode 1 1 = some (.getfield 15, 3, 0, 1, 0) := rfl
theorem r1_1 : Rn 1 (1, [x0], .ref q :: st, a, h) = Kv 1 4 [x0] st a h (mgf h q 0 1) := Rn_getf c1_1 rfl
theorem c1_4 : mcode 1 4 = some (.ifCond .ne 7, 3, 0, 0, 0) := rfl
theorem r1_4 : Rn 1 (4, [x0], .int i :: st, a, h) = if i = 0 then Rn 1 (7, [x0], st, a, h) else Rn 1 (11, [x0], st, a, h) := Rn_ifcn c1_4 mc_ne rfl rfl
theorem c1_7 : mcode 1 7 = some (.iconst 1, 1, 0, 0, 0) := rfl
theorem r1_7 : Rn 1 (7, [x0], st, a, h) = Rn 1 (8, [x0], .int (1 : Int32) :: st, a, h) := Rn_go c1_7 rfl
theorem c1_8 : mcode 1 8 = some (.goto 4, 3, 0, 0, 0) := rfl
theorem r1_8 : Rn 1 (8, [x0], st, a, h) = Rn 1 (12, [x0], st, a, h) := Rn_goto c1_8 rfl
theorem c1_11 : mcode 1 11 = some (.iconst 0, 1, 0, 0, 0) := rfl
theorem r1_11 : Rn 1 (11, [x0], st, a, h) = Rn 1 (12, [x0], .int (0 : Int32) :: st, a, h) := Rn_go c1_11 rfl
theorem c1_12 : mcode 1 12 = some (.ireturn, 1, 1, 0, 0) := rfl
theorem r1_12 : Rn 1 (12, [x0], [.int i], a, h) = if mrt 1 i = true then some (some (.int i), a, h) else none := Rn_iretz c1_12
theorem c2_0 : mcode 2 0 = some (.aload_n 0, 1, 0, 0, 0) := rfl
theorem r2_0 : Rn 2 (0, [some (.ref q), x1, x2, x3], st, a, h) = Rn 2 (1, [some (.ref q), x1, x2, x3], .ref q :: st, a, h) := Rn_go c2_0 rfl
theorem c2_1 : mcode 2 1 = some (.iload_n 1, 1, 0, 0, 0) := rfl
theorem r2_1 : Rn 2 (1, [x0, some (.int i), x2, x3], st, a, h) = Rn 2 (2, [x0, some (.int i), x2, x3], .int i :: st, a, h) := Rn_go c2_1 rfl
theorem c2_2 : mcode 2 2 = some (.putfield 15, 3, 0, 1, 0) := rfl
theorem r2_2 : Rn 2 (2, [x0, x1, x2, x3], .int i :: .ref q :: st, a, h) = Kh 2 5 [x0, x1, x2, x3] st a (mpf h q 0 1 (.int i)) := Rn_putfi c2_2 rfl rfl
theorem c2_5 : mcode 2 5 = some (.aload_n 0, 1, 0, 0, 0) := rfl
theorem r2_5 : Rn 2 (5, [some (.ref q), x1, x2, x3], st, a, h) = Rn 2 (6, [some (.ref q), x1, x2, x3], .ref q :: st, a, h) := Rn_go c2_5 rfl
theorem c2_6 : mcode 2 6 = some (.iload_n 1, 1, 0, 0, 0) := rfl
theorem r2_6 : Rn 2 (6, [x0, some (.int i), x2, x3], st, a, h) = Rn 2 (7, [x0, some (.int i), x2, x3], .int i :: st, a, h) := Rn_go c2_6 rfl
theorem c2_7 : mcode 2 7 = some (.ifCond .ne 7, 3, 0, 0, 0) := rfl
theorem r2_7 : Rn 2 (7, [x0, x1, x2, x3], .int i :: st, a, h) = if i = 0 then Rn 2 (10, [x0, x1, x2, x3], st, a, h) else Rn 2 (14, [x0, x1, x2, x3], st, a, h) := Rn_ifcn c2_7 mc_ne rfl rfl
theorem c2_10 : mcode 2 10 = some (.iconst 0, 1, 0, 0, 0) := rfl
theorem r2_10 : Rn 2 (10, [x0, x1, x2, x3], st, a, h) = Rn 2 (11, [x0, x1, x2, x3], .int (0 : Int32) :: st, a, h) := Rn_go c2_10 rfl
theorem c2_11 : mcode 2 11 = some (.goto 4, 3, 0, 0, 0) := rfl
theorem r2_11 : Rn 2 (11, [x0, x1, x2, x3], st, a, h) = Rn 2 (15, [x0, x1, x2, x3], st, a, h) := Rn_goto c2_11 rfl
theorem c2_14 : mcode 2 14 = some (.iload_n 2, 1, 0, 0, 0) := rfl
theorem r2_14 : Rn 2 (14, [x0, x1, some (.int i), x3], st, a, h) = Rn 2 (15, [x0, x1, some (.int i), x3], .int i :: st, a, h) := Rn_go c2_14 rfl
theorem c2_15 : mcode 2 15 = some (.putfield 19, 3, 0, 2, 0) := rfl
theorem r2_15 : Rn 2 (15, [x0, x1, x2, x3], .int i :: .ref q :: st, a, h) = Kh 2 18 [x0, x1, x2, x3] st a (mpf h q 0 2 (.int i)) := Rn_putfi c2_15 rfl rfl
theorem c2_18 : mcode 2 18 = some (.iconst 0, 1, 0, 0, 0) := rfl
theorem r2_18 : Rn 2 (18, [x0, x1, x2, x3], st, a, h) = Rn 2 (19, [x0, x1, x2, x3], .int (0 : Int32) :: st, a, h) := Rn_go c2_18 rfl
theorem c2_19 : mcode 2 19 = some (.istore_n 3, 1, 0, 0, 0) := rfl
theorem r2_19 : Rn 2 (19, [x0, x1, x2, x3], .int i :: st, a, h) = Nl x2 (Rn 2 (20, [x0, x1, x2, some (.int i)], st, a, h)) := Rn_st1 (k := 3) (v := .int i) x2 c2_19 rfl rfl rfl rfl
theorem c2_20 : mcode 2 20 = some (.iload_n 3, 1, 0, 0, 0) := rfl
theorem r2_20 : Rn 2 (20, [x0, x1, x2, some (.int i)], st, a, h) = Rn 2 (21, [x0, x1, x2, some (.int i)], .int i :: st, a, h) := Rn_go c2_20 rfl
theorem c2_21 : mcode 2 21 = some (.aload_n 0, 1, 0, 0, 0) := rfl
theorem r2_21 : Rn 2 (21, [some (.ref q), x1, x2, x3], st, a, h) = Rn 2 (22, [some (.ref q), x1, x2, x3], .ref q :: st, a, h) := Rn_go c2_21 rfl
theorem c2_22 : mcode 2 22 = some (.getfield 9, 3, 0, 0, 0) := rfl
theorem r2_22 : Rn 2 (22, [x0, x1, x2, x3], .ref q :: st, a, h) = Kv 2 25 [x0, x1, x2, x3] st a h (mgf h q 0 0) := Rn_getf c2_22 rfl
theorem c2_25 : mcode 2 25 = some (.arraylength, 1, 0, 0, 0) := rfl
theorem r2_25 : Rn 2 (25, [x0, x1, x2, x3], .ref q :: st, a, h) = Ki 2 26 [x0, x1, x2, x3] st a h (mlen h q) := Rn_alen c2_25 rfl
theorem c2_26 : mcode 2 26 = some (.if_icmp .ge 16, 3, 0, 0, 0) := rfl
theorem r2_26 : Rn 2 (26, [x0, x1, x2, x3], .int j :: .int i :: st, a, h) = if i < j then Rn 2 (29, [x0, x1, x2, x3], st, a, h) else Rn 2 (42, [x0, x1, x2, x3], st, a, h) := Rn_icmpn c2_26 mc_ge rfl rfl
theorem c2_29 : mcode 2 29 = some (.aload_n 0, 1, 0, 0, 0) := rfl
theorem r2_29 : Rn 2 (29, [some (.ref q), x1, x2, x3], st, a, h) = Rn 2 (30, [some (.ref q), x1, x2, x3], .ref q :: st, a, h) := Rn_go c2_29 rfl
theorem c2_30 : mcode 2 30 = some (.getfield 9, 3, 0, 0, 0) := rfl
theorem r2_30 : Rn 2 (30, [x0, x1, x2, x3], .ref q :: st, a, h) = Kv 2 33 [x0, x1, x2, x3] st a h (mgf h q 0 0) := Rn_getf c2_30 rfl
theorem c2_33 : mcode 2 33 = some (.iload_n 3, 1, 0, 0, 0) := rfl
theorem r2_33 : Rn 2 (33, [x0, x1, x2, some (.int i)], st, a, h) = Rn 2 (34, [x0, x1, x2, some (.int i)], .int i :: st, a, h) := Rn_go c2_33 rfl
theorem c2_34 : mcode 2 34 = some (.iconst 0, 1, 0, 0, 0) := rfl
theorem r2_34 : Rn 2 (34, [x0, x1, x2, x3], st, a, h) = Rn 2 (35, [x0, x1, x2, x3], .int (0 : Int32) :: st, a, h) := Rn_go c2_34 rfl
theorem c2_35 : mcode 2 35 = some (.iastore, 1, 0, 0, 0) := rfl
theorem r2_35 : Rn 2 (35, [x0, x1, x2, x3], .int j :: .int i :: .ref q :: st, a, h) = Kh 2 36 [x0, x1, x2, x3] st a (mias h q i j) := Rn_iast c2_35 rfl
theorem c2_36 : mcode 2 36 = some (.iinc 3 1, 3, 0, 0, 0) := rfl
theorem r2_36 : Rn 2 (36, [x0, x1, x2, some (.int i)], st, a, h) = Nl x2 (Rn 2 (39, [x0, x1, x2, some (.int (i + (1 : Int32)))], st, a, h)) := Rn_st1 (k := 3) (v := .int (i + (1 : Int32))) x2 c2_36 rfl rfl rfl rfl
theorem c2_39 : mcode 2 39 = some (.goto (-19), 3, 0, 0, 0) := rfl
theorem r2_39 : Rn 2 (39, [x0, x1, x2, x3], st, a, h) = Rn 2 (20, [x0, x1, x2, x3], st, a, h) := Rn_goto c2_39 rfl
theorem c2_42 : mcode 2 42 = some (.return_, 1, 0, 0, 0) := rfl
theorem r2_42 : Rn 2 (42, [x0, x1, x2, x3], [], a, h) = some (none, a, h) := Rn_act c2_42
theorem c3_0 : mcode 3 0 = some (.iload_n 1, 1, 0, 0, 0) := rfl
theorem r3_0 : Rn 3 (0, [x0, some (.int i)], st, a, h) = Rn 3 (1, [x0, some (.int i)], .int i :: st, a, h) := Rn_go c3_0 rfl
theorem c3_1 : mcode 3 1 = some (.ifCond .lt 24, 3, 0, 0, 0) := rfl
theorem r3_1 : Rn 3 (1, [x0, x1], .int i :: st, a, h) = if i < 0 then Rn 3 (25, [x0, x1], st, a, h) else Rn 3 (4, [x0, x1], st, a, h) := Rn_ifc c3_1 mc_lt rfl rfl
theorem c3_4 : mcode 3 4 = some (.iload_n 1, 1, 0, 0, 0) := rfl
theorem r3_4 : Rn 3 (4, [x0, some (.int i)], st, a, h) = Rn 3 (5, [x0, some (.int i)], .int i :: st, a, h) := Rn_go c3_4 rfl
theorem c3_5 : mcode 3 5 = some (.aload_n 0, 1, 0, 0, 0) := rfl
theorem r3_5 : Rn 3 (5, [some (.ref q), x1], st, a, h) = Rn 3 (6, [some (.ref q), x1], .ref q :: st, a, h) := Rn_go c3_5 rfl
theorem c3_6 : mcode 3 6 = some (.getfield 19, 3, 0, 2, 0) := rfl
theorem r3_6 : Rn 3 (6, [x0, x1], .ref q :: st, a, h) = Kv 3 9 [x0, x1] st a h (mgf h q 0 2) := Rn_getf c3_6 rfl
theorem c3_9 : mcode 3 9 = some (.if_icmp .ge 16, 3, 0, 0, 0) := rfl
theorem r3_9 : Rn 3 (9, [x0, x1], .int j :: .int i :: st, a, h) = if i < j then Rn 3 (12, [x0, x1], st, a, h) else Rn 3 (25, [x0, x1], st, a, h) := Rn_icmpn c3_9 mc_ge rfl rfl
theorem c3_12 : mcode 3 12 = some (.iload_n 1, 1, 0, 0, 0) := rfl
theorem r3_12 : Rn 3 (12, [x0, some (.int i)], st, a, h) = Rn 3 (13, [x0, some (.int i)], .int i :: st, a, h) := Rn_go c3_12 rfl
theorem c3_13 : mcode 3 13 = some (.aload_n 0, 1, 0, 0, 0) := rfl
theorem r3_13 : Rn 3 (13, [some (.ref q), x1], st, a, h) = Rn 3 (14, [some (.ref q), x1], .ref q :: st, a, h) := Rn_go c3_13 rfl
theorem c3_14 : mcode 3 14 = some (.getfield 9, 3, 0, 0, 0) := rfl
theorem r3_14 : Rn 3 (14, [x0, x1], .ref q :: st, a, h) = Kv 3 17 [x0, x1] st a h (mgf h q 0 0) := Rn_getf c3_14 rfl
theorem c3_17 : mcode 3 17 = some (.arraylength, 1, 0, 0, 0) := rfl
theorem r3_17 : Rn 3 (17, [x0, x1], .ref q :: st, a, h) = Ki 3 18 [x0, x1] st a h (mlen h q) := Rn_alen c3_17 rfl
theorem c3_18 : mcode 3 18 = some (.if_icmp .ge 7, 3, 0, 0, 0) := rfl
theorem r3_18 : Rn 3 (18, [x0, x1], .int j :: .int i :: st, a, h) = if i < j then Rn 3 (21, [x0, x1], st, a, h) else Rn 3 (25, [x0, x1], st, a, h) := Rn_icmpn c3_18 mc_ge rfl rfl
theorem c3_21 : mcode 3 21 = some (.iconst 1, 1, 0, 0, 0) := rfl
theorem r3_21 : Rn 3 (21, [x0, x1], st, a, h) = Rn 3 (22, [x0, x1], .int (1 : Int32) :: st, a, h) := Rn_go c3_21 rfl
theorem c3_22 : mcode 3 22 = some (.goto 4, 3, 0, 0, 0) := rfl
theorem r3_22 : Rn 3 (22, [x0, x1], st, a, h) = Rn 3 (26, [x0, x1], st, a, h) := Rn_goto c3_22 rfl
theorem c3_25 : mcode 3 25 = some (.iconst 0, 1, 0, 0, 0) := rfl
theorem r3_25 : Rn 3 (25, [x0, x1], st, a, h) = Rn 3 (26, [x0, x1], .int (0 : Int32) :: st, a, h) := Rn_go c3_25 rfl
theorem c3_26 : mcode 3 26 = some (.ireturn, 1, 1, 0, 0) := rfl
theorem r3_26 : Rn 3 (26, [x0, x1], [.int i], a, h) = if mrt 1 i = true then some (some (.int i), a, h) else none := Rn_iretz c3_26
theorem c4_0 : mcode 4 0 = some (.iload_n 1, 1, 0, 0, 0) := rfl
theorem r4_0 : Rn 4 (0, [x0, some (.int i), x2], st, a, h) = Rn 4 (1, [x0, some (.int i), x2], .int i :: st, a, h) := Rn_go c4_0 rfl
theorem c4_1 : mcode 4 1 = some (.ifCond .lt 29, 3, 0, 0, 0) := rfl
theorem r4_1 : Rn 4 (1, [x0, x1, x2], .int i :: st, a, h) = if i < 0 then Rn 4 (30, [x0, x1, x2], st, a, h) else Rn 4 (4, [x0, x1, x2], st, a, h) := Rn_ifc c4_1 mc_lt rfl rfl
theorem c4_4 : mcode 4 4 = some (.iload_n 2, 1, 0, 0, 0) := rfl
theorem r4_4 : Rn 4 (4, [x0, x1, some (.int i)], st, a, h) = Rn 4 (5, [x0, x1, some (.int i)], .int i :: st, a, h) := Rn_go c4_4 rfl
theorem c4_5 : mcode 4 5 = some (.ifCond .lt 25, 3, 0, 0, 0) := rfl
theorem r4_5 : Rn 4 (5, [x0, x1, x2], .int i :: st, a, h) = if i < 0 then Rn 4 (30, [x0, x1, x2], st, a, h) else Rn 4 (8, [x0, x1, x2], st, a, h) := Rn_ifc c4_5 mc_lt rfl rfl
theorem c4_8 : mcode 4 8 = some (.iload_n 1, 1, 0, 0, 0) := rfl
theorem r4_8 : Rn 4 (8, [x0, some (.int i), x2], st, a, h) = Rn 4 (9, [x0, some (.int i), x2], .int i :: st, a, h) := Rn_go c4_8 rfl
theorem c4_9 : mcode 4 9 = some (.aload_n 0, 1, 0, 0, 0) := rfl
theorem r4_9 : Rn 4 (9, [some (.ref q), x1, x2], st, a, h) = Rn 4 (10, [some (.ref q), x1, x2], .ref q :: st, a, h) := Rn_go c4_9 rfl
theorem c4_10 : mcode 4 10 = some (.getfield 19, 3, 0, 2, 0) := rfl
theorem r4_10 : Rn 4 (10, [x0, x1, x2], .ref q :: st, a, h) = Kv 4 13 [x0, x1, x2] st a h (mgf h q 0 2) := Rn_getf c4_10 rfl
theorem c4_13 : mcode 4 13 = some (.if_icmp .gt 17, 3, 0, 0, 0) := rfl
theorem r4_13 : Rn 4 (13, [x0, x1, x2], .int j :: .int i :: st, a, h) = if j < i then Rn 4 (30, [x0, x1, x2], st, a, h) else Rn 4 (16, [x0, x1, x2], st, a, h) := Rn_icmp c4_13 mc_gt rfl rfl
theorem c4_16 : mcode 4 16 = some (.iload_n 2, 1, 0, 0, 0) := rfl
theorem r4_16 : Rn 4 (16, [x0, x1, some (.int i)], st, a, h) = Rn 4 (17, [x0, x1, some (.int i)], .int i :: st, a, h) := Rn_go c4_16 rfl
theorem c4_17 : mcode 4 17 = some (.aload_n 0, 1, 0, 0, 0) := rfl
theorem r4_17 : Rn 4 (17, [some (.ref q), x1, x2], st, a, h) = Rn 4 (18, [some (.ref q), x1, x2], .ref q :: st, a, h) := Rn_go c4_17 rfl
theorem c4_18 : mcode 4 18 = some (.getfield 19, 3, 0, 2, 0) := rfl
theorem r4_18 : Rn 4 (18, [x0, x1, x2], .ref q :: st, a, h) = Kv 4 21 [x0, x1, x2] st a h (mgf h q 0 2) := Rn_getf c4_18 rfl
theorem c4_21 : mcode 4 21 = some (.iload_n 1, 1, 0, 0, 0) := rfl
theorem r4_21 : Rn 4 (21, [x0, some (.int i), x2], st, a, h) = Rn 4 (22, [x0, some (.int i), x2], .int i :: st, a, h) := Rn_go c4_21 rfl
theorem c4_22 : mcode 4 22 = some (.isub, 1, 0, 0, 0) := rfl
theorem r4_22 : Rn 4 (22, [x0, x1, x2], .int j :: .int i :: st, a, h) = Rn 4 (23, [x0, x1, x2], .int (i - j) :: st, a, h) := Rn_go c4_22 rfl
theorem c4_23 : mcode 4 23 = some (.if_icmp .gt 7, 3, 0, 0, 0) := rfl
theorem r4_23 : Rn 4 (23, [x0, x1, x2], .int j :: .int i :: st, a, h) = if j < i then Rn 4 (30, [x0, x1, x2], st, a, h) else Rn 4 (26, [x0, x1, x2], st, a, h) := Rn_icmp c4_23 mc_gt rfl rfl
theorem c4_26 : mcode 4 26 = some (.iconst 1, 1, 0, 0, 0) := rfl
theorem r4_26 : Rn 4 (26, [x0, x1, x2], st, a, h) = Rn 4 (27, [x0, x1, x2], .int (1 : Int32) :: st, a, h) := Rn_go c4_26 rfl
theorem c4_27 : mcode 4 27 = some (.goto 4, 3, 0, 0, 0) := rfl
theorem r4_27 : Rn 4 (27, [x0, x1, x2], st, a, h) = Rn 4 (31, [x0, x1, x2], st, a, h) := Rn_goto c4_27 rfl
theorem c4_30 : mcode 4 30 = some (.iconst 0, 1, 0, 0, 0) := rfl
theorem r4_30 : Rn 4 (30, [x0, x1, x2], st, a, h) = Rn 4 (31, [x0, x1, x2], .int (0 : Int32) :: st, a, h) := Rn_go c4_30 rfl
theorem c4_31 : mcode 4 31 = some (.ireturn, 1, 1, 0, 0) := rfl
theorem r4_31 : Rn 4 (31, [x0, x1, x2], [.int i], a, h) = if mrt 1 i = true then some (some (.int i), a, h) else none := Rn_iretz c4_31
theorem c5_0 : mcode 5 0 = some (.aload_n 0, 1, 0, 0, 0) := rfl
theorem r5_0 : Rn 5 (0, [some (.ref q), x1], st, a, h) = Rn 5 (1, [some (.ref q), x1], .ref q :: st, a, h) := Rn_go c5_0 rfl
theorem c5_1 : mcode 5 1 = some (.iload_n 1, 1, 0, 0, 0) := rfl
theorem r5_1 : Rn 5 (1, [x0, some (.int i)], st, a, h) = Rn 5 (2, [x0, some (.int i)], .int i :: st, a, h) := Rn_go c5_1 rfl
theorem c5_2 : mcode 5 2 = some (.invokevirtual 22, 3, 3, 1, 0) := rfl
theorem r5_2 : Rn 5 (2, [x0, x1], [v0, .ref q], a, h) = if mis h q 0 = true then Bk 5 5 [x0, x1] [] (Ec 3 [.ref q, v0] a h) else none := Rn_call1 c5_2 rfl (Nat.le_of_ble_eq_true rfl) rfl rfl (Nat.le_of_ble_eq_true rfl)
theorem c5_5 : mcode 5 5 = some (.ifCond .eq 12, 3, 0, 0, 0) := rfl
theorem r5_5 : Rn 5 (5, [x0, x1], .int i :: st, a, h) = if i = 0 then Rn 5 (17, [x0, x1], st, a, h) else Rn 5 (8, [x0, x1], st, a, h) := Rn_ifc c5_5 mc_eq rfl rfl
theorem c5_8 : mcode 5 8 = some (.aload_n 0, 1, 0, 0, 0) := rfl
theorem r5_8 : Rn 5 (8, [some (.ref q), x1], st, a, h) = Rn 5 (9, [some (.ref q), x1], .ref q :: st, a, h) := Rn_go c5_8 rfl
theorem c5_9 : mcode 5 9 = some (.getfield 9, 3, 0, 0, 0) := rfl
theorem r5_9 : Rn 5 (9, [x0, x1], .ref q :: st, a, h) = Kv 5 12 [x0, x1] st a h (mgf h q 0 0) := Rn_getf c5_9 rfl
theorem c5_12 : mcode 5 12 = some (.iload_n 1, 1, 0, 0, 0) := rfl
theorem r5_12 : Rn 5 (12, [x0, some (.int i)], st, a, h) = Rn 5 (13, [x0, some (.int i)], .int i :: st, a, h) := Rn_go c5_12 rfl
theorem c5_13 : mcode 5 13 = some (.iaload, 1, 0, 0, 0) := rfl
theorem r5_13 : Rn 5 (13, [x0, x1], .int i :: .ref q :: st, a, h) = Ki 5 14 [x0, x1] st a h (mld h q i false) := Rn_iald c5_13 rfl
theorem c5_14 : mcode 5 14 = some (.goto 4, 3, 0, 0, 0) := rfl
theorem r5_14 : Rn 5 (14, [x0, x1], st, a, h) = Rn 5 (18, [x0, x1], st, a, h) := Rn_goto c5_14 rfl
theorem c5_17 : mcode 5 17 = some (.iconst 0, 1, 0, 0, 0) := rfl
theorem r5_17 : Rn 5 (17, [x0, x1], st, a, h) = Rn 5 (18, [x0, x1], .int (0 : Int32) :: st, a, h) := Rn_go c5_17 rfl
theorem c5_18 : mcode 5 18 = some (.ireturn, 1, 0, 0, 0) := rfl
theorem r5_18 : Rn 5 (18, [x0, x1], [.int i], a, h) = some (some (.int i), a, h) := Rn_ireti c5_18
theorem c6_0 : mcode 6 0 = some (.aload_n 0, 1, 0, 0, 0) := rfl
theorem r6_0 : Rn 6 (0, [some (.ref q), x1, x2], st, a, h) = Rn 6 (1, [some (.ref q), x1, x2], .ref q :: st, a, h) := Rn_go c6_0 rfl
theorem c6_1 : mcode 6 1 = some (.iload_n 1, 1, 0, 0, 0) := rfl
theorem r6_1 : Rn 6 (1, [x0, some (.int i), x2], st, a, h) = Rn 6 (2, [x0, some (.int i), x2], .int i :: st, a, h) := Rn_go c6_1 rfl
theorem c6_2 : mcode 6 2 = some (.invokevirtual 22, 3, 3, 1, 0) := rfl
theorem r6_2 : Rn 6 (2, [x0, x1, x2], [v0, .ref q], a, h) = if mis h q 0 = true then Bk 6 5 [x0, x1, x2] [] (Ec 3 [.ref q, v0] a h) else none := Rn_call1 c6_2 rfl (Nat.le_of_ble_eq_true rfl) rfl rfl (Nat.le_of_ble_eq_true rfl)
theorem c6_5 : mcode 6 5 = some (.ifCond .ne 4, 3, 0, 0, 0) := rfl
theorem r6_5 : Rn 6 (5, [x0, x1, x2], .int i :: st, a, h) = if i = 0 then Rn 6 (8, [x0, x1, x2], st, a, h) else Rn 6 (9, [x0, x1, x2], st, a, h) := Rn_ifcn c6_5 mc_ne rfl rfl
theorem c6_8 : mcode 6 8 = some (.return_, 1, 0, 0, 0) := rfl
theorem r6_8 : Rn 6 (8, [x0, x1, x2], [], a, h) = some (none, a, h) := Rn_act c6_8
theorem c6_9 : mcode 6 9 = some (.aload_n 0, 1, 0, 0, 0) := rfl
theorem r6_9 : Rn 6 (9, [some (.ref q), x1, x2], st, a, h) = Rn 6 (10, [some (.ref q), x1, x2], .ref q :: st, a, h) := Rn_go c6_9 rfl
theorem c6_10 : mcode 6 10 = some (.getfield 15, 3, 0, 1, 0) := rfl
theorem r6_10 : Rn 6 (10, [x0, x1, x2], .ref q :: st, a, h) = Kv 6 13 [x0, x1, x2] st a h (mgf h q 0 1) := Rn_getf c6_10 rfl
theorem c6_13 : mcode 6 13 = some (.bipush 8, 2, 0, 0, 0) := rfl
theorem r6_13 : Rn 6 (13, [x0, x1, x2], st, a, h) = Rn 6 (15, [x0, x1, x2], .int (8 : Int32) :: st, a, h) := Rn_go c6_13 rfl
theorem c6_15 : mcode 6 15 = some (.if_icmp .ne 14, 3, 0, 0, 0) := rfl
theorem r6_15 : Rn 6 (15, [x0, x1, x2], .int j :: .int i :: st, a, h) = if i = j then Rn 6 (18, [x0, x1, x2], st, a, h) else Rn 6 (29, [x0, x1, x2], st, a, h) := Rn_icmpn c6_15 mc_ne rfl rfl
theorem c6_18 : mcode 6 18 = some (.aload_n 0, 1, 0, 0, 0) := rfl
theorem r6_18 : Rn 6 (18, [some (.ref q), x1, x2], st, a, h) = Rn 6 (19, [some (.ref q), x1, x2], .ref q :: st, a, h) := Rn_go c6_18 rfl
theorem c6_19 : mcode 6 19 = some (.getfield 9, 3, 0, 0, 0) := rfl
theorem r6_19 : Rn 6 (19, [x0, x1, x2], .ref q :: st, a, h) = Kv 6 22 [x0, x1, x2] st a h (mgf h q 0 0) := Rn_getf c6_19 rfl
theorem c6_22 : mcode 6 22 = some (.iload_n 1, 1, 0, 0, 0) := rfl
theorem r6_22 : Rn 6 (22, [x0, some (.int i), x2], st, a, h) = Rn 6 (23, [x0, some (.int i), x2], .int i :: st, a, h) := Rn_go c6_22 rfl
theorem c6_23 : mcode 6 23 = some (.iload_n 2, 1, 0, 0, 0) := rfl
theorem r6_23 : Rn 6 (23, [x0, x1, some (.int i)], st, a, h) = Rn 6 (24, [x0, x1, some (.int i)], .int i :: st, a, h) := Rn_go c6_23 rfl
theorem c6_24 : mcode 6 24 = some (.i2b, 1, 0, 0, 0) := rfl
theorem r6_24 : Rn 6 (24, [x0, x1, x2], .int i :: st, a, h) = Rn 6 (25, [x0, x1, x2], .int i.toInt8.toInt32 :: st, a, h) := Rn_go c6_24 rfl
theorem c6_25 : mcode 6 25 = some (.iastore, 1, 0, 0, 0) := rfl
theorem r6_25 : Rn 6 (25, [x0, x1, x2], .int j :: .int i :: .ref q :: st, a, h) = Kh 6 26 [x0, x1, x2] st a (mias h q i j) := Rn_iast c6_25 rfl
theorem c6_26 : mcode 6 26 = some (.goto 30, 3, 0, 0, 0) := rfl
theorem r6_26 : Rn 6 (26, [x0, x1, x2], st, a, h) = Rn 6 (56, [x0, x1, x2], st, a, h) := Rn_goto c6_26 rfl
theorem c6_29 : mcode 6 29 = some (.aload_n 0, 1, 0, 0, 0) := rfl
theorem r6_29 : Rn 6 (29, [some (.ref q), x1, x2], st, a, h) = Rn 6 (30, [some (.ref q), x1, x2], .ref q :: st, a, h) := Rn_go c6_29 rfl
theorem c6_30 : mcode 6 30 = some (.getfield 15, 3, 0, 1, 0) := rfl
theorem r6_30 : Rn 6 (30, [x0, x1, x2], .ref q :: st, a, h) = Kv 6 33 [x0, x1, x2] st a h (mgf h q 0 1) := Rn_getf c6_30 rfl
theorem c6_33 : mcode 6 33 = some (.bipush 16, 2, 0, 0, 0) := rfl
theorem r6_33 : Rn 6 (33, [x0, x1, x2], st, a, h) = Rn 6 (35, [x0, x1, x2], .int (16 : Int32) :: st, a, h) := Rn_go c6_33 rfl
theorem c6_35 : mcode 6 35 = some (.if_icmp .ne 14, 3, 0, 0, 0) := rfl
theorem r6_35 : Rn 6 (35, [x0, x1, x2], .int j :: .int i :: st, a, h) = if i = j then Rn 6 (38, [x0, x1, x2], st, a, h) else Rn 6 (49, [x0, x1, x2], st, a, h) := Rn_icmpn c6_35 mc_ne rfl rfl
theorem c6_38 : mcode 6 38 = some (.aload_n 0, 1, 0, 0, 0) := rfl
theorem r6_38 : Rn 6 (38, [some (.ref q), x1, x2], st, a, h) = Rn 6 (39, [some (.ref q), x1, x2], .ref q :: st, a, h) := Rn_go c6_38 rfl
theorem c6_39 : mcode 6 39 = some (.getfield 9, 3, 0, 0, 0) := rfl
theorem r6_39 : Rn 6 (39, [x0, x1, x2], .ref q :: st, a, h) = Kv 6 42 [x0, x1, x2] st a h (mgf h q 0 0) := Rn_getf c6_39 rfl
theorem c6_42 : mcode 6 42 = some (.iload_n 1, 1, 0, 0, 0) := rfl
theorem r6_42 : Rn 6 (42, [x0, some (.int i), x2], st, a, h) = Rn 6 (43, [x0, some (.int i), x2], .int i :: st, a, h) := Rn_go c6_42 rfl
theorem c6_43 : mcode 6 43 = some (.iload_n 2, 1, 0, 0, 0) := rfl
theorem r6_43 : Rn 6 (43, [x0, x1, some (.int i)], st, a, h) = Rn 6 (44, [x0, x1, some (.int i)], .int i :: st, a, h) := Rn_go c6_43 rfl
theorem c6_44 : mcode 6 44 = some (.i2s, 1, 0, 0, 0) := rfl
theorem r6_44 : Rn 6 (44, [x0, x1, x2], .int i :: st, a, h) = Rn 6 (45, [x0, x1, x2], .int i.toInt16.toInt32 :: st, a, h) := Rn_go c6_44 rfl
theorem c6_45 : mcode 6 45 = some (.iastore, 1, 0, 0, 0) := rfl
theorem r6_45 : Rn 6 (45, [x0, x1, x2], .int j :: .int i :: .ref q :: st, a, h) = Kh 6 46 [x0, x1, x2] st a (mias h q i j) := Rn_iast c6_45 rfl
theorem c6_46 : mcode 6 46 = some (.goto 10, 3, 0, 0, 0) := rfl
theorem r6_46 : Rn 6 (46, [x0, x1, x2], st, a, h) = Rn 6 (56, [x0, x1, x2], st, a, h) := Rn_goto c6_46 rfl
theorem c6_49 : mcode 6 49 = some (.aload_n 0, 1, 0, 0, 0) := rfl
theorem r6_49 : Rn 6 (49, [some (.ref q), x1, x2], st, a, h) = Rn 6 (50, [some (.ref q), x1, x2], .ref q :: st, a, h) := Rn_go c6_49 rfl
theorem c6_50 : mcode 6 50 = some (.getfield 9, 3, 0, 0, 0) := rfl
theorem r6_50 : Rn 6 (50, [x0, x1, x2], .ref q :: st, a, h) = Kv 6 53 [x0, x1, x2] st a h (mgf h q 0 0) := Rn_getf c6_50 rfl
theorem c6_53 : mcode 6 53 = some (.iload_n 1, 1, 0, 0, 0) := rfl
theorem r6_53 : Rn 6 (53, [x0, some (.int i), x2], st, a, h) = Rn 6 (54, [x0, some (.int i), x2], .int i :: st, a, h) := Rn_go c6_53 rfl
theorem c6_54 : mcode 6 54 = some (.iload_n 2, 1, 0, 0, 0) := rfl
theorem r6_54 : Rn 6 (54, [x0, x1, some (.int i)], st, a, h) = Rn 6 (55, [x0, x1, some (.int i)], .int i :: st, a, h) := Rn_go c6_54 rfl
theorem c6_55 : mcode 6 55 = some (.iastore, 1, 0, 0, 0) := rfl
theorem r6_55 : Rn 6 (55, [x0, x1, x2], .int j :: .int i :: .ref q :: st, a, h) = Kh 6 56 [x0, x1, x2] st a (mias h q i j) := Rn_iast c6_55 rfl
theorem c6_56 : mcode 6 56 = some (.return_, 1, 0, 0, 0) := rfl
theorem r6_56 : Rn 6 (56, [x0, x1, x2], [], a, h) = some (none, a, h) := Rn_act c6_56
theorem c7_0 : mcode 7 0 = some (.aload_n 0, 1, 0, 0, 0) := rfl
theorem r7_0 : Rn 7 (0, [some (.ref q), x1, x2], st, a, h) = Rn 7 (1, [some (.ref q), x1, x2], .ref q :: st, a, h) := Rn_go c7_0 rfl
theorem c7_1 : mcode 7 1 = some (.iload_n 1, 1, 0, 0, 0) := rfl
theorem r7_1 : Rn 7 (1, [x0, some (.int i), x2], st, a, h) = Rn 7 (2, [x0, some (.int i), x2], .int i :: st, a, h) := Rn_go c7_1 rfl
theorem c7_2 : mcode 7 2 = some (.invokevirtual 26, 3, 5, 1, 0) := rfl
theorem r7_2 : Rn 7 (2, [x0, x1, x2], [v0, .ref q], a, h) = if mis h q 0 = true then Bk 7 5 [x0, x1, x2] [] (Ec 5 [.ref q, v0] a h) else none := Rn_call1 c7_2 rfl (Nat.le_of_ble_eq_true rfl) rfl rfl (Nat.le_of_ble_eq_true rfl)
theorem c7_5 : mcode 7 5 = some (.iconst (-1), 1, 0, 0, 0) := rfl
theorem r7_5 : Rn 7 (5, [x0, x1, x2], st, a, h) = Rn 7 (6, [x0, x1, x2], .int (-1 : Int32) :: st, a, h) := Rn_go c7_5 rfl
theorem c7_6 : mcode 7 6 = some (.if_icmp .eq 12, 3, 0, 0, 0) := rfl
theorem r7_6 : Rn 7 (6, [x0, x1, x2], .int j :: .int i :: st, a, h) = if i = j then Rn 7 (18, [x0, x1, x2], st, a, h) else Rn 7 (9, [x0, x1, x2], st, a, h) := Rn_icmp c7_6 mc_eq rfl rfl
theorem c7_9 : mcode 7 9 = some (.aload_n 0, 1, 0, 0, 0) := rfl
theorem r7_9 : Rn 7 (9, [some (.ref q), x1, x2], st, a, h) = Rn 7 (10, [some (.ref q), x1, x2], .ref q :: st, a, h) := Rn_go c7_9 rfl
theorem c7_10 : mcode 7 10 = some (.iload_n 1, 1, 0, 0, 0) := rfl
theorem r7_10 : Rn 7 (10, [x0, some (.int i), x2], st, a, h) = Rn 7 (11, [x0, some (.int i), x2], .int i :: st, a, h) := Rn_go c7_10 rfl
theorem c7_11 : mcode 7 11 = some (.invokevirtual 26, 3, 5, 1, 0) := rfl
theorem r7_11 : Rn 7 (11, [x0, x1, x2], [v0, .ref q], a, h) = if mis h q 0 = true then Bk 7 14 [x0, x1, x2] [] (Ec 5 [.ref q, v0] a h) else none := Rn_call1 c7_11 rfl (Nat.le_of_ble_eq_true rfl) rfl rfl (Nat.le_of_ble_eq_true rfl)
theorem c7_14 : mcode 7 14 = some (.iload_n 2, 1, 0, 0, 0) := rfl
theorem r7_14 : Rn 7 (14, [x0, x1, some (.int i)], st, a, h) = Rn 7 (15, [x0, x1, some (.int i)], .int i :: st, a, h) := Rn_go c7_14 rfl
theorem c7_15 : mcode 7 15 = some (.if_icmp .ne 7, 3, 0, 0, 0) := rfl
theorem r7_15 : Rn 7 (15, [x0, x1, x2], .int j :: .int i :: st, a, h) = if i = j then Rn 7 (18, [x0, x1, x2], st, a, h) else Rn 7 (22, [x0, x1, x2], st, a, h) := Rn_icmpn c7_15 mc_ne rfl rfl
theorem c7_18 : mcode 7 18 = some (.iconst 1, 1, 0, 0, 0) := rfl
theorem r7_18 : Rn 7 (18, [x0, x1, x2], st, a, h) = Rn 7 (19, [x0, x1, x2], .int (1 : Int32) :: st, a, h) := Rn_go c7_18 rfl
theorem c7_19 : mcode 7 19 = some (.goto 4, 3, 0, 0, 0) := rfl
theorem r7_19 : Rn 7 (19, [x0, x1, x2], st, a, h) = Rn 7 (23, [x0, x1, x2], st, a, h) := Rn_goto c7_19 rfl
theorem c7_22 : mcode 7 22 = some (.iconst 0, 1, 0, 0, 0) := rfl
theorem r7_22 : Rn 7 (22, [x0, x1, x2], st, a, h) = Rn 7 (23, [x0, x1, x2], .int (0 : Int32) :: st, a, h) := Rn_go c7_22 rfl
theorem c7_23 : mcode 7 23 = some (.ireturn, 1, 1, 0, 0) := rfl
theorem r7_23 : Rn 7 (23, [x0, x1, x2], [.int i], a, h) = if mrt 1 i = true then some (some (.int i), a, h) else none := Rn_iretz c7_23
theorem c8_0 : mcode 8 0 = some (.aload_n 0, 1, 0, 0, 0) := rfl
theorem r8_0 : Rn 8 (0, [some (.ref q)], st, a, h) = Rn 8 (1, [some (.ref q)], .ref q :: st, a, h) := Rn_go c8_0 rfl
theorem c8_1 : mcode 8 1 = some (.invokespecial 3, 3, 9999, 0, 0) := rfl
theorem r8_1 : Rn 8 (1, [x0], [.ref q], a, h) = Rn 8 (4, [x0], [], a, h) := Rn_go c8_1 rfl
theorem c8_4 : mcode 8 4 = some (.aload_n 0, 1, 0, 0, 0) := rfl
theorem r8_4 : Rn 8 (4, [some (.ref q)], st, a, h) = Rn 8 (5, [some (.ref q)], .ref q :: st, a, h) := Rn_go c8_4 rfl
theorem c8_5 : mcode 8 5 = some (.bipush 120, 2, 0, 0, 0) := rfl
theorem r8_5 : Rn 8 (5, [x0], st, a, h) = Rn 8 (7, [x0], .int (120 : Int32) :: st, a, h) := Rn_go c8_5 rfl
theorem c8_7 : mcode 8 7 = some (.newarray .int, 2, 0, 0, 0) := rfl
theorem r8_7 {b c d : Nat} (hi : ¬ i < 0) (hj : i.toNatClampNeg ≤ 65536) (hb : b < 999) : Rn 8 (7, [x0], .int i :: st, (b, c, d), h) = Rn 8 (9, [x0], .ref b :: st, (b + 1, c + 1, d + i.toNatClampNeg), mup h b (.inl (i.toNatClampNeg, fun _ => 0))) := Rn_newarray c8_7 rfl hi hj hb
theorem c8_9 : mcode 8 9 = some (.putfield 9, 3, 1, 0, 2) := rfl
theorem r8_9 : Rn 8 (9, [x0], .ref p :: .ref q :: st, a, h) = Kh 8 12 [x0] st a (mpf h q 1 0 (.ref p)) := Rn_putfr c8_9 rfl rfl
theorem c8_12 : mcode 8 12 = some (.aload_n 0, 1, 0, 0, 0) := rfl
theorem r8_12 : Rn 8 (12, [some (.ref q)], st, a, h) = Rn 8 (13, [some (.ref q)], .ref q :: st, a, h) := Rn_go c8_12 rfl
theorem c8_13 : mcode 8 13 = some (.iconst 0, 1, 0, 0, 0) := rfl
theorem r8_13 : Rn 8 (13, [x0], st, a, h) = Rn 8 (14, [x0], .int (0 : Int32) :: st, a, h) := Rn_go c8_13 rfl
theorem c8_14 : mcode 8 14 = some (.putfield 15, 3, 1, 1, 0) := rfl
theorem r8_14 : Rn 8 (14, [x0], .int i :: .ref q :: st, a, h) = Kh 8 17 [x0] st a (mpf h q 1 1 (.int i)) := Rn_putfi c8_14 rfl rfl
theorem c8_17 : mcode 8 17 = some (.return_, 1, 0, 0, 0) := rfl
theorem r8_17 : Rn 8 (17, [x0], [], a, h) = some (none, a, h) := Rn_act c8_17
theorem c9_0 : mcode 9 0 = some (.aload_n 0, 1, 0, 0, 0) := rfl
theorem r9_0 : Rn 9 (0, [some (.ref q), x1], st, a, h) = Rn 9 (1, [some (.ref q), x1], .ref q :: st, a, h) := Rn_go c9_0 rfl
theorem c9_1 : mcode 9 1 = some (.getfield 15, 3, 1, 1, 0) := rfl
theorem r9_1 : Rn 9 (1, [x0, x1], .ref q :: st, a, h) = Kv 9 4 [x0, x1] st a h (mgf h q 1 1) := Rn_getf c9_1 rfl
theorem c9_4 : mcode 9 4 = some (.ifCond .lt 35, 3, 0, 0, 0) := rfl
theorem r9_4 : Rn 9 (4, [x0, x1], .int i :: st, a, h) = if i < 0 then Rn 9 (39, [x0, x1], st, a, h) else Rn 9 (7, [x0, x1], st, a, h) := Rn_ifc c9_4 mc_lt rfl rfl
theorem c9_7 : mcode 9 7 = some (.aload_n 0, 1, 0, 0, 0) := rfl
theorem r9_7 : Rn 9 (7, [some (.ref q), x1], st, a, h) = Rn 9 (8, [some (.ref q), x1], .ref q :: st, a, h) := Rn_go c9_7 rfl
theorem c9_8 : mcode 9 8 = some (.getfield 15, 3, 1, 1, 0) := rfl
theorem r9_8 : Rn 9 (8, [x0, x1], .ref q :: st, a, h) = Kv 9 11 [x0, x1] st a h (mgf h q 1 1) := Rn_getf c9_8 rfl
theorem c9_11 : mcode 9 11 = some (.aload_n 0, 1, 0, 0, 0) := rfl
theorem r9_11 : Rn 9 (11, [some (.ref q), x1], st, a, h) = Rn 9 (12, [some (.ref q), x1], .ref q :: st, a, h) := Rn_go c9_11 rfl
theorem c9_12 : mcode 9 12 = some (.getfield 9, 3, 1, 0, 0) := rfl
theorem r9_12 : Rn 9 (12, [x0, x1], .ref q :: st, a, h) = Kv 9 15 [x0, x1] st a h (mgf h q 1 0) := Rn_getf c9_12 rfl
theorem c9_15 : mcode 9 15 = some (.arraylength, 1, 0, 0, 0) := rfl
theorem r9_15 : Rn 9 (15, [x0, x1], .ref q :: st, a, h) = Ki 9 16 [x0, x1] st a h (mlen h q) := Rn_alen c9_15 rfl
theorem c9_16 : mcode 9 16 = some (.if_icmp .ge 23, 3, 0, 0, 0) := rfl
theorem r9_16 : Rn 9 (16, [x0, x1], .int j :: .int i :: st, a, h) = if i < j then Rn 9 (19, [x0, x1], st, a, h) else Rn 9 (39, [x0, x1], st, a, h) := Rn_icmpn c9_16 mc_ge rfl rfl
theorem c9_19 : mcode 9 19 = some (.aload_n 0, 1, 0, 0, 0) := rfl
theorem r9_19 : Rn 9 (19, [some (.ref q), x1], st, a, h) = Rn 9 (20, [some (.ref q), x1], .ref q :: st, a, h) := Rn_go c9_19 rfl
theorem c9_20 : mcode 9 20 = some (.getfield 9, 3, 1, 0, 0) := rfl
theorem r9_20 : Rn 9 (20, [x0, x1], .ref q :: st, a, h) = Kv 9 23 [x0, x1] st a h (mgf h q 1 0) := Rn_getf c9_20 rfl
theorem c9_23 : mcode 9 23 = some (.aload_n 0, 1, 0, 0, 0) := rfl
theorem r9_23 : Rn 9 (23, [some (.ref q), x1], st, a, h) = Rn 9 (24, [some (.ref q), x1], .ref q :: st, a, h) := Rn_go c9_23 rfl
theorem c9_24 : mcode 9 24 = some (.getfield 15, 3, 1, 1, 0) := rfl
theorem r9_24 : Rn 9 (24, [x0, x1], .ref q :: st, a, h) = Kv 9 27 [x0, x1] st a h (mgf h q 1 1) := Rn_getf c9_24 rfl
theorem c9_27 : mcode 9 27 = some (.iload_n 1, 1, 0, 0, 0) := rfl
theorem r9_27 : Rn 9 (27, [x0, some (.int i)], st, a, h) = Rn 9 (28, [x0, some (.int i)], .int i :: st, a, h) := Rn_go c9_27 rfl
theorem c9_28 : mcode 9 28 = some (.iastore, 1, 0, 0, 0) := rfl
theorem r9_28 : Rn 9 (28, [x0, x1], .int j :: .int i :: .ref q :: st, a, h) = Kh 9 29 [x0, x1] st a (mias h q i j) := Rn_iast c9_28 rfl
theorem c9_29 : mcode 9 29 = some (.aload_n 0, 1, 0, 0, 0) := rfl
theorem r9_29 : Rn 9 (29, [some (.ref q), x1], st, a, h) = Rn 9 (30, [some (.ref q), x1], .ref q :: st, a, h) := Rn_go c9_29 rfl
theorem c9_30 : mcode 9 30 = some (.dup, 1, 0, 0, 0) := rfl
theorem r9_30 : Rn 9 (30, [x0, x1], .ref q :: st, a, h) = Rn 9 (31, [x0, x1], .ref q :: .ref q :: st, a, h) := Rn_go c9_30 rfl
theorem c9_31 : mcode 9 31 = some (.getfield 15, 3, 1, 1, 0) := rfl
theorem r9_31 : Rn 9 (31, [x0, x1], .ref q :: st, a, h) = Kv 9 34 [x0, x1] st a h (mgf h q 1 1) := Rn_getf c9_31 rfl
theorem c9_34 : mcode 9 34 = some (.iconst 1, 1, 0, 0, 0) := rfl
theorem r9_34 : Rn 9 (34, [x0, x1], st, a, h) = Rn 9 (35, [x0, x1], .int (1 : Int32) :: st, a, h) := Rn_go c9_34 rfl
theorem c9_35 : mcode 9 35 = some (.iadd, 1, 0, 0, 0) := rfl
theorem r9_35 : Rn 9 (35, [x0, x1], .int j :: .int i :: st, a, h) = Rn 9 (36, [x0, x1], .int (i + j) :: st, a, h) := Rn_go c9_35 rfl
theorem c9_36 : mcode 9 36 = some (.putfield 15, 3, 1, 1, 0) := rfl
theorem r9_36 : Rn 9 (36, [x0, x1], .int i :: .ref q :: st, a, h) = Kh 9 39 [x0, x1] st a (mpf h q 1 1 (.int i)) := Rn_putfi c9_36 rfl rfl
theorem c9_39 : mcode 9 39 = some (.return_, 1, 0, 0, 0) := rfl
theorem r9_39 : Rn 9 (39, [x0, x1], [], a, h) = some (none, a, h) := Rn_act c9_39
theorem c10_0 : mcode 10 0 = some (.iload_n 1, 1, 0, 0, 0) := rfl
theorem r10_0 : Rn 10 (0, [x0, some (.int i)], st, a, h) = Rn 10 (1, [x0, some (.int i)], .int i :: st, a, h) := Rn_go c10_0 rfl
theorem c10_1 : mcode 10 1 = some (.ifCond .lt 29, 3, 0, 0, 0) := rfl
theorem r10_1 : Rn 10 (1, [x0, x1], .int i :: st, a, h) = if i < 0 then Rn 10 (30, [x0, x1], st, a, h) else Rn 10 (4, [x0, x1], st, a, h) := Rn_ifc c10_1 mc_lt rfl rfl
theorem c10_4 : mcode 10 4 = some (.iload_n 1, 1, 0, 0, 0) := rfl
theorem r10_4 : Rn 10 (4, [x0, some (.int i)], st, a, h) = Rn 10 (5, [x0, some (.int i)], .int i :: st, a, h) := Rn_go c10_4 rfl
theorem c10_5 : mcode 10 5 = some (.aload_n 0, 1, 0, 0, 0) := rfl
theorem r10_5 : Rn 10 (5, [some (.ref q), x1], st, a, h) = Rn 10 (6, [some (.ref q), x1], .ref q :: st, a, h) := Rn_go c10_5 rfl
theorem c10_6 : mcode 10 6 = some (.getfield 15, 3, 1, 1, 0) := rfl
theorem r10_6 : Rn 10 (6, [x0, x1], .ref q :: st, a, h) = Kv 10 9 [x0, x1] st a h (mgf h q 1 1) := Rn_getf c10_6 rfl
theorem c10_9 : mcode 10 9 = some (.if_icmp .ge 21, 3, 0, 0, 0) := rfl
theorem r10_9 : Rn 10 (9, [x0, x1], .int j :: .int i :: st, a, h) = if i < j then Rn 10 (12, [x0, x1], st, a, h) else Rn 10 (30, [x0, x1], st, a, h) := Rn_icmpn c10_9 mc_ge rfl rfl
theorem c10_12 : mcode 10 12 = some (.iload_n 1, 1, 0, 0, 0) := rfl
theorem r10_12 : Rn 10 (12, [x0, some (.int i)], st, a, h) = Rn 10 (13, [x0, some (.int i)], .int i :: st, a, h) := Rn_go c10_12 rfl
theorem c10_13 : mcode 10 13 = some (.aload_n 0, 1, 0, 0, 0) := rfl
theorem r10_13 : Rn 10 (13, [some (.ref q), x1], st, a, h) = Rn 10 (14, [some (.ref q), x1], .ref q :: st, a, h) := Rn_go c10_13 rfl
theorem c10_14 : mcode 10 14 = some (.getfield 9, 3, 1, 0, 0) := rfl
theorem r10_14 : Rn 10 (14, [x0, x1], .ref q :: st, a, h) = Kv 10 17 [x0, x1] st a h (mgf h q 1 0) := Rn_getf c10_14 rfl
theorem c10_17 : mcode 10 17 = some (.arraylength, 1, 0, 0, 0) := rfl
theorem r10_17 : Rn 10 (17, [x0, x1], .ref q :: st, a, h) = Ki 10 18 [x0, x1] st a h (mlen h q) := Rn_alen c10_17 rfl
theorem c10_18 : mcode 10 18 = some (.if_icmp .ge 12, 3, 0, 0, 0) := rfl
theorem r10_18 : Rn 10 (18, [x0, x1], .int j :: .int i :: st, a, h) = if i < j then Rn 10 (21, [x0, x1], st, a, h) else Rn 10 (30, [x0, x1], st, a, h) := Rn_icmpn c10_18 mc_ge rfl rfl
theorem c10_21 : mcode 10 21 = some (.aload_n 0, 1, 0, 0, 0) := rfl
theorem r10_21 : Rn 10 (21, [some (.ref q), x1], st, a, h) = Rn 10 (22, [some (.ref q), x1], .ref q :: st, a, h) := Rn_go c10_21 rfl
theorem c10_22 : mcode 10 22 = some (.getfield 9, 3, 1, 0, 0) := rfl
theorem r10_22 : Rn 10 (22, [x0, x1], .ref q :: st, a, h) = Kv 10 25 [x0, x1] st a h (mgf h q 1 0) := Rn_getf c10_22 rfl
theorem c10_25 : mcode 10 25 = some (.iload_n 1, 1, 0, 0, 0) := rfl
theorem r10_25 : Rn 10 (25, [x0, some (.int i)], st, a, h) = Rn 10 (26, [x0, some (.int i)], .int i :: st, a, h) := Rn_go c10_25 rfl
theorem c10_26 : mcode 10 26 = some (.iaload, 1, 0, 0, 0) := rfl
theorem r10_26 : Rn 10 (26, [x0, x1], .int i :: .ref q :: st, a, h) = Ki 10 27 [x0, x1] st a h (mld h q i false) := Rn_iald c10_26 rfl
theorem c10_27 : mcode 10 27 = some (.goto 4, 3, 0, 0, 0) := rfl
theorem r10_27 : Rn 10 (27, [x0, x1], st, a, h) = Rn 10 (31, [x0, x1], st, a, h) := Rn_goto c10_27 rfl
theorem c10_30 : mcode 10 30 = some (.iconst (-1), 1, 0, 0, 0) := rfl
theorem r10_30 : Rn 10 (30, [x0, x1], st, a, h) = Rn 10 (31, [x0, x1], .int (-1 : Int32) :: st, a, h) := Rn_go c10_30 rfl
theorem c10_31 : mcode 10 31 = some (.ireturn, 1, 0, 0, 0) := rfl
theorem r10_31 : Rn 10 (31, [x0, x1], [.int i], a, h) = some (some (.int i), a, h) := Rn_ireti c10_31
theorem c11_0 : mcode 11 0 = some (.aload_n 0, 1, 0, 0, 0) := rfl
theorem r11_0 : Rn 11 (0, [some (.ref q)], st, a, h) = Rn 11 (1, [some (.ref q)], .ref q :: st, a, h) := Rn_go c11_0 rfl
theorem c11_1 : mcode 11 1 = some (.invokespecial 3, 3, 9999, 0, 0) := rfl
theorem r11_1 : Rn 11 (1, [x0], [.ref q], a, h) = Rn 11 (4, [x0], [], a, h) := Rn_go c11_1 rfl
theorem c11_4 : mcode 11 4 = some (.aload_n 0, 1, 0, 0, 0) := rfl
theorem r11_4 : Rn 11 (4, [some (.ref q)], st, a, h) = Rn 11 (5, [some (.ref q)], .ref q :: st, a, h) := Rn_go c11_4 rfl
theorem c11_5 : mcode 11 5 = some (.new 9, 3, 1, 0, 0) := rfl
theorem r11_5 {b c d : Nat} (hb : b < 999) : Rn 11 (5, [x0], st, (b, c, d), h) = Rn 11 (8, [x0], .ref b :: st, (b + 1, c + 1, d + 2), mup h b (.inr (.inr (1, mdf 1)))) := Rn_new c11_5 rfl hb
theorem c11_8 : mcode 11 8 = some (.dup, 1, 0, 0, 0) := rfl
theorem r11_8 : Rn 11 (8, [x0], .ref q :: st, a, h) = Rn 11 (9, [x0], .ref q :: .ref q :: st, a, h) := Rn_go c11_8 rfl
theorem c11_9 : mcode 11 9 = some (.invokespecial 11, 3, 8, 0, 0) := rfl
theorem r11_9 : Rn 11 (9, [x0], [.ref q, .ref q0, .ref q1], a, h) = Bk 11 12 [x0] [.ref q0, .ref q1] (Ec 8 [.ref q] a h) := Rn_call2 c11_9 (fun z => nomatch z) rfl (Nat.le_of_ble_eq_true rfl) rfl rfl (Nat.le_of_ble_eq_true rfl)
theorem c11_12 : mcode 11 12 = some (.putfield 12, 3, 2, 0, 2) := rfl
theorem r11_12 : Rn 11 (12, [x0], .ref p :: .ref q :: st, a, h) = Kh 11 15 [x0] st a (mpf h q 2 0 (.ref p)) := Rn_putfr c11_12 rfl rfl
theorem c11_15 : mcode 11 15 = some (.return_, 1, 0, 0, 0) := rfl
theorem r11_15 : Rn 11 (15, [x0], [], a, h) = some (none, a, h) := Rn_act c11_15
theorem c12_0 : mcode 12 0 = some (.aload_n 0, 1, 0, 0, 0) := rfl
theorem r12_0 : Rn 12 (0, [some (.ref q), x1, x2], st, a, h) = Rn 12 (1, [some (.ref q), x1, x2], .ref q :: st, a, h) := Rn_go c12_0 rfl
theorem c12_1 : mcode 12 1 = some (.iconst 0, 1, 0, 0, 0) := rfl
theorem r12_1 : Rn 12 (1, [x0, x1, x2], st, a, h) = Rn 12 (2, [x0, x1, x2], .int (0 : Int32) :: st, a, h) := Rn_go c12_1 rfl
theorem c12_2 : mcode 12 2 = some (.putfield 18, 3, 2, 3, 0) := rfl
theorem r12_2 : Rn 12 (2, [x0, x1, x2], .int i :: .ref q :: st, a, h) = Kh 12 5 [x0, x1, x2] st a (mpf h q 2 3 (.int i)) := Rn_putfi c12_2 rfl rfl
theorem c12_5 : mcode 12 5 = some (.aload_n 0, 1, 0, 0, 0) := rfl
theorem r12_5 : Rn 12 (5, [some (.ref q), x1, x2], st, a, h) = Rn 12 (6, [some (.ref q), x1, x2], .ref q :: st, a, h) := Rn_go c12_5 rfl
theorem c12_6 : mcode 12 6 = some (.invokevirtual 22, 3, 23, 0, 2) := rfl
theorem r12_6 : Rn 12 (6, [x0, x1, x2], [.ref q], a, h) = if mis h q 2 = true then Bk 12 9 [x0, x1, x2] [] (Ec 23 [.ref q] a h) else none := Rn_call1 c12_6 rfl (Nat.le_of_ble_eq_true rfl) rfl rfl (Nat.le_of_ble_eq_true rfl)
theorem c12_9 : mcode 12 9 = some (.iconst 1, 1, 0, 0, 0) := rfl
theorem r12_9 : Rn 12 (9, [x0, x1, x2], st, a, h) = Rn 12 (10, [x0, x1, x2], .int (1 : Int32) :: st, a, h) := Rn_go c12_9 rfl
theorem c12_10 : mcode 12 10 = some (.istore_n 2, 1, 0, 0, 0) := rfl
theorem r12_10 : Rn 12 (10, [x0, x1, x2], .int i :: st, a, h) = Nl x1 (Rn 12 (11, [x0, x1, some (.int i)], st, a, h)) := Rn_st1 (k := 2) (v := .int i) x1 c12_10 rfl rfl rfl rfl
theorem c12_11 : mcode 12 11 = some (.iload_n 2, 1, 0, 0, 0) := rfl
theorem r12_11 : Rn 12 (11, [x0, x1, some (.int i)], st, a, h) = Rn 12 (12, [x0, x1, some (.int i)], .int i :: st, a, h) := Rn_go c12_11 rfl
theorem c12_12 : mcode 12 12 = some (.bipush 120, 2, 0, 0, 0) := rfl
theorem r12_12 : Rn 12 (12, [x0, x1, x2], st, a, h) = Rn 12 (14, [x0, x1, x2], .int (120 : Int32) :: st, a, h) := Rn_go c12_12 rfl
theorem c12_14 : mcode 12 14 = some (.if_icmp .gt 45, 3, 0, 0, 0) := rfl
theorem r12_14 : Rn 12 (14, [x0, x1, x2], .int j :: .int i :: st, a, h) = if j < i then Rn 12 (59, [x0, x1, x2], st, a, h) else Rn 12 (17, [x0, x1, x2], st, a, h) := Rn_icmp c12_14 mc_gt rfl rfl
theorem c12_17 : mcode 12 17 = some (.aload_n 0, 1, 0, 0, 0) := rfl
theorem r12_17 : Rn 12 (17, [some (.ref q), x1, x2], st, a, h) = Rn 12 (18, [some (.ref q), x1, x2], .ref q :: st, a, h) := Rn_go c12_17 rfl
theorem c12_18 : mcode 12 18 = some (.aload_n 1, 1, 0, 0, 0) := rfl
theorem r12_18 : Rn 12 (18, [x0, some (.ref q), x2], st, a, h) = Rn 12 (19, [x0, some (.ref q), x2], .ref q :: st, a, h) := Rn_go c12_18 rfl
theorem c12_19 : mcode 12 19 = some (.invokevirtual 25, 3, 13, 1, 2) := rfl
theorem r12_19 : Rn 12 (19, [x0, x1, x2], [v0, .ref q], a, h) = if mis h q 2 = true then Bk 12 22 [x0, x1, x2] [] (Ec 13 [.ref q, v0] a h) else none := Rn_call1 c12_19 rfl (Nat.le_of_ble_eq_true rfl) rfl rfl (Nat.le_of_ble_eq_true rfl)
theorem c12_22 : mcode 12 22 = some (.ifCond .ne 6, 3, 0, 0, 0) := rfl
theorem r12_22 : Rn 12 (22, [x0, x1, x2], .int i :: st, a, h) = if i = 0 then Rn 12 (25, [x0, x1, x2], st, a, h) else Rn 12 (28, [x0, x1, x2], st, a, h) := Rn_ifcn c12_22 mc_ne rfl rfl
theorem c12_25 : mcode 12 25 = some (.goto 34, 3, 0, 0, 0) := rfl
theorem r12_25 : Rn 12 (25, [x0, x1, x2], st, a, h) = Rn 12 (59, [x0, x1, x2], st, a, h) := Rn_goto c12_25 rfl
theorem c12_28 : mcode 12 28 = some (.aload_n 0, 1, 0, 0, 0) := rfl
theorem r12_28 : Rn 12 (28, [some (.ref q), x1, x2], st, a, h) = Rn 12 (29, [some (.ref q), x1, x2], .ref q :: st, a, h) := Rn_go c12_28 rfl
theorem c12_29 : mcode 12 29 = some (.getfield 29, 3, 2, 1, 0) := rfl
theorem r12_29 : Rn 12 (29, [x0, x1, x2], .ref q :: st, a, h) = Kv 12 32 [x0, x1, x2] st a h (mgf h q 2 1) := Rn_getf c12_29 rfl
theorem c12_32 : mcode 12 32 = some (.iconst 3, 1, 0, 0, 0) := rfl
theorem r12_32 : Rn 12 (32, [x0, x1, x2], st, a, h) = Rn 12 (33, [x0, x1, x2], .int (3 : Int32) :: st, a, h) := Rn_go c12_32 rfl
theorem c12_33 : mcode 12 33 = some (.if_icmp .ne 5, 3, 0, 0, 0) := rfl
theorem r12_33 : Rn 12 (33, [x0, x1, x2], .int j :: .int i :: st, a, h) = if i = j then Rn 12 (36, [x0, x1, x2], st, a, h) else Rn 12 (38, [x0, x1, x2], st, a, h) := Rn_icmpn c12_33 mc_ne rfl rfl
theorem c12_36 : mcode 12 36 = some (.iload_n 2, 1, 0, 0, 0) := rfl
theorem r12_36 : Rn 12 (36, [x0, x1, some (.int i)], st, a, h) = Rn 12 (37, [x0, x1, some (.int i)], .int i :: st, a, h) := Rn_go c12_36 rfl
theorem c12_37 : mcode 12 37 = some (.ireturn, 1, 0, 0, 0) := rfl
theorem r12_37 : Rn 12 (37, [x0, x1, x2], [.int i], a, h) = some (some (.int i), a, h) := Rn_ireti c12_37
theorem c12_38 : mcode 12 38 = some (.aload_n 0, 1, 0, 0, 0) := rfl
theorem r12_38 : Rn 12 (38, [some (.ref q), x1, x2], st, a, h) = Rn 12 (39, [some (.ref q), x1, x2], .ref q :: st, a, h) := Rn_go c12_38 rfl
theorem c12_39 : mcode 12 39 = some (.getfield 29, 3, 2, 1, 0) := rfl
theorem r12_39 : Rn 12 (39, [x0, x1, x2], .ref q :: st, a, h) = Kv 12 42 [x0, x1, x2] st a h (mgf h q 2 1) := Rn_getf c12_39 rfl
theorem c12_42 : mcode 12 42 = some (.iconst 2, 1, 0, 0, 0) := rfl
theorem r12_42 : Rn 12 (42, [x0, x1, x2], st, a, h) = Rn 12 (43, [x0, x1, x2], .int (2 : Int32) :: st, a, h) := Rn_go c12_42 rfl
theorem c12_43 : mcode 12 43 = some (.if_icmp .eq 6, 3, 0, 0, 0) := rfl
theorem r12_43 : Rn 12 (43, [x0, x1, x2], .int j :: .int i :: st, a, h) = if i = j then Rn 12 (49, [x0, x1, x2], st, a, h) else Rn 12 (46, [x0, x1, x2], st, a, h) := Rn_icmp c12_43 mc_eq rfl rfl
theorem c12_46 : mcode 12 46 = some (.goto 13, 3, 0, 0, 0) := rfl
theorem r12_46 : Rn 12 (46, [x0, x1, x2], st, a, h) = Rn 12 (59, [x0, x1, x2], st, a, h) := Rn_goto c12_46 rfl
theorem c12_49 : mcode 12 49 = some (.aload_n 0, 1, 0, 0, 0) := rfl
theorem r12_49 : Rn 12 (49, [some (.ref q), x1, x2], st, a, h) = Rn 12 (50, [some (.ref q), x1, x2], .ref q :: st, a, h) := Rn_go c12_49 rfl
theorem c12_50 : mcode 12 50 = some (.invokevirtual 22, 3, 23, 0, 2) := rfl
theorem r12_50 : Rn 12 (50, [x0, x1, x2], [.ref q], a, h) = if mis h q 2 = true then Bk 12 53 [x0, x1, x2] [] (Ec 23 [.ref q] a h) else none := Rn_call1 c12_50 rfl (Nat.le_of_ble_eq_true rfl) rfl rfl (Nat.le_of_ble_eq_true rfl)
theorem c12_53 : mcode 12 53 = some (.iinc 2 1, 3, 0, 0, 0) := rfl
theorem r12_53 : Rn 12 (53, [x0, x1, some (.int i)], st, a, h) = Nl x1 (Rn 12 (56, [x0, x1, some (.int (i + (1 : Int32)))], st, a, h)) := Rn_st1 (k := 2) (v := .int (i + (1 : Int32))) x1 c12_53 rfl rfl rfl rfl
theorem c12_56 : mcode 12 56 = some (.goto (-45), 3, 0, 0, 0) := rfl
theorem r12_56 : Rn 12 (56, [x0, x1, x2], st, a, h) = Rn 12 (11, [x0, x1, x2], st, a, h) := Rn_goto c12_56 rfl
theorem c12_59 : mcode 12 59 = some (.iconst (-1), 1, 0, 0, 0) := rfl
theorem r12_59 : Rn 12 (59, [x0, x1, x2], st, a, h) = Rn 12 (60, [x0, x1, x2], .int (-1 : Int32) :: st, a, h) := Rn_go c12_59 rfl
theorem c12_60 : mcode 12 60 = some (.aload_n 0, 1, 0, 0, 0) := rfl
theorem r12_60 : Rn 12 (60, [some (.ref q), x1, x2], st, a, h) = Rn 12 (61, [some (.ref q), x1, x2], .ref q :: st, a, h) := Rn_go c12_60 rfl
theorem c12_61 : mcode 12 61 = some (.getfield 32, 3, 2, 2, 0) := rfl
theorem r12_61 : Rn 12 (61, [x0, x1, x2], .ref q :: st, a, h) = Kv 12 64 [x0, x1, x2] st a h (mgf h q 2 2) := Rn_getf c12_61 rfl
theorem c12_64 : mcode 12 64 = some (.isub, 1, 0, 0, 0) := rfl
theorem r12_64 : Rn 12 (64, [x0, x1, x2], .int j :: .int i :: st, a, h) = Rn 12 (65, [x0, x1, x2], .int (i - j) :: st, a, h) := Rn_go c12_64 rfl
theorem c12_65 : mcode 12 65 = some (.ireturn, 1, 0, 0, 0) := rfl
theorem r12_65 : Rn 12 (65, [x0, x1, x2], [.int i], a, h) = some (some (.int i), a, h) := Rn_ireti c12_65
theorem c13_0 : mcode 13 0 = some (.aload_n 0, 1, 0, 0, 0) := rfl
theorem r13_0 : Rn 13 (0, [some (.ref q), x1, x2], st, a, h) = Rn 13 (1, [some (.ref q), x1, x2], .ref q :: st, a, h) := Rn_go c13_0 rfl
theorem c13_1 : mcode 13 1 = some (.invokevirtual 35, 3, 21, 0, 2) := rfl
theorem r13_1 : Rn 13 (1, [x0, x1, x2], [.ref q], a, h) = if mis h q 2 = true then Bk 13 4 [x0, x1, x2] [] (Ec 21 [.ref q] a h) else none := Rn_call1 c13_1 rfl (Nat.le_of_ble_eq_true rfl) rfl rfl (Nat.le_of_ble_eq_true rfl)
theorem c13_4 : mcode 13 4 = some (.istore_n 2, 1, 0, 0, 0) := rfl
theorem r13_4 : Rn 13 (4, [x0, x1, x2], .int i :: st, a, h) = Nl x1 (Rn 13 (5, [x0, x1, some (.int i)], st, a, h)) := Rn_st1 (k := 2) (v := .int i) x1 c13_4 rfl rfl rfl rfl
theorem c13_5 : mcode 13 5 = some (.iload_n 2, 1, 0, 0, 0) := rfl
theorem r13_5 : Rn 13 (5, [x0, x1, some (.int i)], st, a, h) = Rn 13 (6, [x0, x1, some (.int i)], .int i :: st, a, h) := Rn_go c13_5 rfl
theorem c13_6 : mcode 13 6 = some (.iconst (-1), 1, 0, 0, 0) := rfl
theorem r13_6 : Rn 13 (6, [x0, x1, x2], st, a, h) = Rn 13 (7, [x0, x1, x2], .int (-1 : Int32) :: st, a, h) := Rn_go c13_6 rfl
theorem c13_7 : mcode 13 7 = some (.if_icmp .eq 10, 3, 0, 0, 0) := rfl
theorem r13_7 : Rn 13 (7, [x0, x1, x2], .int j :: .int i :: st, a, h) = if i = j then Rn 13 (17, [x0, x1, x2], st, a, h) else Rn 13 (10, [x0, x1, x2], st, a, h) := Rn_icmp c13_7 mc_eq rfl rfl
theorem c13_10 : mcode 13 10 = some (.aload_n 0, 1, 0, 0, 0) := rfl
theorem r13_10 : Rn 13 (10, [some (.ref q), x1, x2], st, a, h) = Rn 13 (11, [some (.ref q), x1, x2], .ref q :: st, a, h) := Rn_go c13_10 rfl
theorem c13_11 : mcode 13 11 = some (.aload_n 1, 1, 0, 0, 0) := rfl
theorem r13_11 : Rn 13 (11, [x0, some (.ref q), x2], st, a, h) = Rn 13 (12, [x0, some (.ref q), x2], .ref q :: st, a, h) := Rn_go c13_11 rfl
theorem c13_12 : mcode 13 12 = some (.iload_n 2, 1, 0, 0, 0) := rfl
theorem r13_12 : Rn 13 (12, [x0, x1, some (.int i)], st, a, h) = Rn 13 (13, [x0, x1, some (.int i)], .int i :: st, a, h) := Rn_go c13_12 rfl
theorem c13_13 : mcode 13 13 = some (.invokevirtual 39, 3, 14, 2, 2) := rfl
theorem r13_13 : Rn 13 (13, [x0, x1, x2], [v1, v0, .ref q], a, h) = if mis h q 2 = true then Bk 13 16 [x0, x1, x2] [] (Ec 14 [.ref q, v0, v1] a h) else none := Rn_call1 c13_13 rfl (Nat.le_of_ble_eq_true rfl) rfl rfl (Nat.le_of_ble_eq_true rfl)
theorem c13_16 : mcode 13 16 = some (.ireturn, 1, 1, 0, 0) := rfl
theorem r13_16 : Rn 13 (16, [x0, x1, x2], [.int i], a, h) = if mrt 1 i = true then some (some (.int i), a, h) else none := Rn_iretz c13_16
theorem c13_17 : mcode 13 17 = some (.aload_n 0, 1, 0, 0, 0) := rfl
theorem r13_17 : Rn 13 (17, [some (.ref q), x1, x2], st, a, h) = Rn 13 (18, [some (.ref q), x1, x2], .ref q :: st, a, h) := Rn_go c13_17 rfl
theorem c13_18 : mcode 13 18 = some (.ldc 43, 2, 1, 10, 0) := rfl
theorem r13_18 : Rn 13 (18, [x0, x1, x2], st, a, h) = Rn 13 (20, [x0, x1, x2], .ref 1010 :: st, a, h) := Rn_go c13_18 rfl
theorem c13_20 : mcode 13 20 = some (.invokevirtual 45, 3, 19, 1, 2) := rfl
theorem r13_20 : Rn 13 (20, [x0, x1, x2], [v0, .ref q], a, h) = if mis h q 2 = true then Bk 13 23 [x0, x1, x2] [] (Ec 19 [.ref q, v0] a h) else none := Rn_call1 c13_20 rfl (Nat.le_of_ble_eq_true rfl) rfl rfl (Nat.le_of_ble_eq_true rfl)
theorem c13_23 : mcode 13 23 = some (.ifCond .eq 9, 3, 0, 0, 0) := rfl
theorem r13_23 : Rn 13 (23, [x0, x1, x2], .int i :: st, a, h) = if i = 0 then Rn 13 (32, [x0, x1, x2], st, a, h) else Rn 13 (26, [x0, x1, x2], st, a, h) := Rn_ifc c13_23 mc_eq rfl rfl
theorem c13_26 : mcode 13 26 = some (.aload_n 0, 1, 0, 0, 0) := rfl
theorem r13_26 : Rn 13 (26, [some (.ref q), x1, x2], st, a, h) = Rn 13 (27, [some (.ref q), x1, x2], .ref q :: st, a, h) := Rn_go c13_26 rfl
theorem c13_27 : mcode 13 27 = some (.aload_n 1, 1, 0, 0, 0) := rfl
theorem r13_27 : Rn 13 (27, [x0, some (.ref q), x2], st, a, h) = Rn 13 (28, [x0, some (.ref q), x2], .ref q :: st, a, h) := Rn_go c13_27 rfl
theorem c13_28 : mcode 13 28 = some (.invokevirtual 49, 3, 16, 1, 2) := rfl
theorem r13_28 : Rn 13 (28, [x0, x1, x2], [v0, .ref q], a, h) = if mis h q 2 = true then Bk 13 31 [x0, x1, x2] [] (Ec 16 [.ref q, v0] a h) else none := Rn_call1 c13_28 rfl (Nat.le_of_ble_eq_true rfl) rfl rfl (Nat.le_of_ble_eq_true rfl)
theorem c13_31 : mcode 13 31 = some (.ireturn, 1, 1, 0, 0) := rfl
theorem r13_31 : Rn 13 (31, [x0, x1, x2], [.int i], a, h) = if mrt 1 i = true then some (some (.int i), a, h) else none := Rn_iretz c13_31
theorem c13_32 : mcode 13 32 = some (.aload_n 0, 1, 0, 0, 0) := rfl
theorem r13_32 : Rn 13 (32, [some (.ref q), x1, x2], st, a, h) = Rn 13 (33, [some (.ref q), x1, x2], .ref q :: st, a, h) := Rn_go c13_32 rfl
theorem c13_33 : mcode 13 33 = some (.ldc 52, 2, 1, 11, 0) := rfl
theorem r13_33 : Rn 13 (33, [x0, x1, x2], st, a, h) = Rn 13 (35, [x0, x1, x2], .ref 1011 :: st, a, h) := Rn_go c13_33 rfl
theorem c13_35 : mcode 13 35 = some (.invokevirtual 45, 3, 19, 1, 2) := rfl
theorem r13_35 : Rn 13 (35, [x0, x1, x2], [v0, .ref q], a, h) = if mis h q 2 = true then Bk 13 38 [x0, x1, x2] [] (Ec 19 [.ref q, v0] a h) else none := Rn_call1 c13_35 rfl (Nat.le_of_ble_eq_true rfl) rfl rfl (Nat.le_of_ble_eq_true rfl)
theorem c13_38 : mcode 13 38 = some (.ifCond .eq 9, 3, 0, 0, 0) := rfl
theorem r13_38 : Rn 13 (38, [x0, x1, x2], .int i :: st, a, h) = if i = 0 then Rn 13 (47, [x0, x1, x2], st, a, h) else Rn 13 (41, [x0, x1, x2], st, a, h) := Rn_ifc c13_38 mc_eq rfl rfl
theorem c13_41 : mcode 13 41 = some (.aload_n 0, 1, 0, 0, 0) := rfl
theorem r13_41 : Rn 13 (41, [some (.ref q), x1, x2], st, a, h) = Rn 13 (42, [some (.ref q), x1, x2], .ref q :: st, a, h) := Rn_go c13_41 rfl
theorem c13_42 : mcode 13 42 = some (.aload_n 1, 1, 0, 0, 0) := rfl
theorem r13_42 : Rn 13 (42, [x0, some (.ref q), x2], st, a, h) = Rn 13 (43, [x0, some (.ref q), x2], .ref q :: st, a, h) := Rn_go c13_42 rfl
theorem c13_43 : mcode 13 43 = some (.invokevirtual 54, 3, 17, 1, 2) := rfl
theorem r13_43 : Rn 13 (43, [x0, x1, x2], [v0, .ref q], a, h) = if mis h q 2 = true then Bk 13 46 [x0, x1, x2] [] (Ec 17 [.ref q, v0] a h) else none := Rn_call1 c13_43 rfl (Nat.le_of_ble_eq_true rfl) rfl rfl (Nat.le_of_ble_eq_true rfl)
theorem c13_46 : mcode 13 46 = some (.ireturn, 1, 1, 0, 0) := rfl
theorem r13_46 : Rn 13 (46, [x0, x1, x2], [.int i], a, h) = if mrt 1 i = true then some (some (.int i), a, h) else none := Rn_iretz c13_46
theorem c13_47 : mcode 13 47 = some (.aload_n 0, 1, 0, 0, 0) := rfl
theorem r13_47 : Rn 13 (47, [some (.ref q), x1, x2], st, a, h) = Rn 13 (48, [some (.ref q), x1, x2], .ref q :: st, a, h) := Rn_go c13_47 rfl
theorem c13_48 : mcode 13 48 = some (.ldc 57, 2, 1, 12, 0) := rfl
theorem r13_48 : Rn 13 (48, [x0, x1, x2], st, a, h) = Rn 13 (50, [x0, x1, x2], .ref 1012 :: st, a, h) := Rn_go c13_48 rfl
theorem c13_50 : mcode 13 50 = some (.invokevirtual 45, 3, 19, 1, 2) := rfl
theorem r13_50 : Rn 13 (50, [x0, x1, x2], [v0, .ref q], a, h) = if mis h q 2 = true then Bk 13 53 [x0, x1, x2] [] (Ec 19 [.ref q, v0] a h) else none := Rn_call1 c13_50 rfl (Nat.le_of_ble_eq_true rfl) rfl rfl (Nat.le_of_ble_eq_true rfl)
theorem c13_53 : mcode 13 53 = some (.ifCond .eq 15, 3, 0, 0, 0) := rfl
theorem r13_53 : Rn 13 (53, [x0, x1, x2], .int i :: st, a, h) = if i = 0 then Rn 13 (68, [x0, x1, x2], st, a, h) else Rn 13 (56, [x0, x1, x2], st, a, h) := Rn_ifc c13_53 mc_eq rfl rfl
theorem c13_56 : mcode 13 56 = some (.aload_n 0, 1, 0, 0, 0) := rfl
theorem r13_56 : Rn 13 (56, [some (.ref q), x1, x2], st, a, h) = Rn 13 (57, [some (.ref q), x1, x2], .ref q :: st, a, h) := Rn_go c13_56 rfl
theorem c13_57 : mcode 13 57 = some (.aload_n 1, 1, 0, 0, 0) := rfl
theorem r13_57 : Rn 13 (57, [x0, some (.ref q), x2], st, a, h) = Rn 13 (58, [x0, some (.ref q), x2], .ref q :: st, a, h) := Rn_go c13_57 rfl
theorem c13_58 : mcode 13 58 = some (.invokevirtual 59, 3, 18, 1, 2) := rfl
theorem r13_58 : Rn 13 (58, [x0, x1, x2], [v0, .ref q], a, h) = if mis h q 2 = true then Bk 13 61 [x0, x1, x2] [] (Ec 18 [.ref q, v0] a h) else none := Rn_call1 c13_58 rfl (Nat.le_of_ble_eq_true rfl) rfl rfl (Nat.le_of_ble_eq_true rfl)
theorem c13_61 : mcode 13 61 = some (.ifCond .eq 7, 3, 0, 0, 0) := rfl
theorem r13_61 : Rn 13 (61, [x0, x1, x2], .int i :: st, a, h) = if i = 0 then Rn 13 (68, [x0, x1, x2], st, a, h) else Rn 13 (64, [x0, x1, x2], st, a, h) := Rn_ifc c13_61 mc_eq rfl rfl
theorem c13_64 : mcode 13 64 = some (.iconst 1, 1, 0, 0, 0) := rfl
theorem r13_64 : Rn 13 (64, [x0, x1, x2], st, a, h) = Rn 13 (65, [x0, x1, x2], .int (1 : Int32) :: st, a, h) := Rn_go c13_64 rfl
theorem c13_65 : mcode 13 65 = some (.goto 4, 3, 0, 0, 0) := rfl
theorem r13_65 : Rn 13 (65, [x0, x1, x2], st, a, h) = Rn 13 (69, [x0, x1, x2], st, a, h) := Rn_goto c13_65 rfl
theorem c13_68 : mcode 13 68 = some (.iconst 0, 1, 0, 0, 0) := rfl
theorem r13_68 : Rn 13 (68, [x0, x1, x2], st, a, h) = Rn 13 (69, [x0, x1, x2], .int (0 : Int32) :: st, a, h) := Rn_go c13_68 rfl
theorem c13_69 : mcode 13 69 = some (.ireturn, 1, 1, 0, 0) := rfl
theorem r13_69 : Rn 13 (69, [x0, x1, x2], [.int i], a, h) = if mrt 1 i = true then some (some (.int i), a, h) else none := Rn_iretz c13_69
theorem c14_0 : mcode 14 0 = some (.aload_n 1, 1, 0, 0, 0) := rfl
theorem r14_0 : Rn 14 (0, [x0, some (.ref q), x2, x3], st, a, h) = Rn 14 (1, [x0, some (.ref q), x2, x3], .ref q :: st, a, h) := Rn_go c14_0 rfl
theorem c14_1 : mcode 14 1 = some (.invokevirtual 62, 3, 37, 0, 4) := rfl
theorem r14_1 : Rn 14 (1, [x0, x1, x2, x3], [.ref q], a, h) = if mis h q 4 = true then Bk 14 4 [x0, x1, x2, x3] [] (Ec 37 [.ref q] a h) else none := Rn_call1 c14_1 rfl (Nat.le_of_ble_eq_true rfl) rfl rfl (Nat.le_of_ble_eq_true rfl)
theorem c14_4 : mcode 14 4 = some (.ifCond .eq 5, 3, 0, 0, 0) := rfl
theorem r14_4 : Rn 14 (4, [x0, x1, x2, x3], .int i :: st, a, h) = if i = 0 then Rn 14 (9, [x0, x1, x2, x3], st, a, h) else Rn 14 (7, [x0, x1, x2, x3], st, a, h) := Rn_ifc c14_4 mc_eq rfl rfl
theorem c14_7 : mcode 14 7 = some (.iconst 0, 1, 0, 0, 0) := rfl
theorem r14_7 : Rn 14 (7, [x0, x1, x2, x3], st, a, h) = Rn 14 (8, [x0, x1, x2, x3], .int (0 : Int32) :: st, a, h) := Rn_go c14_7 rfl
theorem c14_8 : mcode 14 8 = some (.ireturn, 1, 1, 0, 0) := rfl
theorem r14_8 : Rn 14 (8, [x0, x1, x2, x3], [.int i], a, h) = if mrt 1 i = true then some (some (.int i), a, h) else none := Rn_iretz c14_8
theorem c14_9 : mcode 14 9 = some (.aload_n 0, 1, 0, 0, 0) := rfl
theorem r14_9 : Rn 14 (9, [some (.ref q), x1, x2, x3], st, a, h) = Rn 14 (10, [some (.ref q), x1, x2, x3], .ref q :: st, a, h) := Rn_go c14_9 rfl
theorem c14_10 : mcode 14 10 = some (.invokevirtual 22, 3, 23, 0, 2) := rfl
theorem r14_10 : Rn 14 (10, [x0, x1, x2, x3], [.ref q], a, h) = if mis h q 2 = true then Bk 14 13 [x0, x1, x2, x3] [] (Ec 23 [.ref q] a h) else none := Rn_call1 c14_10 rfl (Nat.le_of_ble_eq_true rfl) rfl rfl (Nat.le_of_ble_eq_true rfl)
theorem c14_13 : mcode 14 13 = some (.aload_n 1, 1, 0, 0, 0) := rfl
theorem r14_13 : Rn 14 (13, [x0, some (.ref q), x2, x3], st, a, h) = Rn 14 (14, [x0, some (.ref q), x2, x3], .ref q :: st, a, h) := Rn_go c14_13 rfl
theorem c14_14 : mcode 14 14 = some (.getfield 68, 3, 4, 3, 0) := rfl
theorem r14_14 : Rn 14 (14, [x0, x1, x2, x3], .ref q :: st, a, h) = Kv 14 17 [x0, x1, x2, x3] st a h (mgf h q 4 3) := Rn_getf c14_14 rfl
theorem c14_17 : mcode 14 17 = some (.istore_n 3, 1, 0, 0, 0) := rfl
theorem r14_17 : Rn 14 (17, [x0, x1, x2, x3], .int i :: st, a, h) = Nl x2 (Rn 14 (18, [x0, x1, x2, some (.int i)], st, a, h)) := Rn_st1 (k := 3) (v := .int i) x2 c14_17 rfl rfl rfl rfl
theorem c14_18 : mcode 14 18 = some (.aload_n 1, 1, 0, 0, 0) := rfl
theorem r14_18 : Rn 14 (18, [x0, some (.ref q), x2, x3], st, a, h) = Rn 14 (19, [x0, some (.ref q), x2, x3], .ref q :: st, a, h) := Rn_go c14_18 rfl
theorem c14_19 : mcode 14 19 = some (.iload_n 2, 1, 0, 0, 0) := rfl
theorem r14_19 : Rn 14 (19, [x0, x1, some (.int i), x3], st, a, h) = Rn 14 (20, [x0, x1, some (.int i), x3], .int i :: st, a, h) := Rn_go c14_19 rfl
theorem c14_20 : mcode 14 20 = some (.iconst 0, 1, 0, 0, 0) := rfl
theorem r14_20 : Rn 14 (20, [x0, x1, x2, x3], st, a, h) = Rn 14 (21, [x0, x1, x2, x3], .int (0 : Int32) :: st, a, h) := Rn_go c14_20 rfl
theorem c14_21 : mcode 14 21 = some (.invokevirtual 71, 3, 38, 2, 4) := rfl
theorem r14_21 : Rn 14 (21, [x0, x1, x2, x3], [v1, v0, .ref q], a, h) = if mis h q 4 = true then Bk 14 24 [x0, x1, x2, x3] [] (Ec 38 [.ref q, v0, v1] a h) else none := Rn_call1 c14_21 rfl (Nat.le_of_ble_eq_true rfl) rfl rfl (Nat.le_of_ble_eq_true rfl)
theorem c14_24 : mcode 14 24 = some (.aload_n 0, 1, 0, 0, 0) := rfl
theorem r14_24 : Rn 14 (24, [some (.ref q), x1, x2, x3], st, a, h) = Rn 14 (25, [some (.ref q), x1, x2, x3], .ref q :: st, a, h) := Rn_go c14_24 rfl
theorem c14_25 : mcode 14 25 = some (.aload_n 1, 1, 0, 0, 0) := rfl
theorem r14_25 : Rn 14 (25, [x0, some (.ref q), x2, x3], st, a, h) = Rn 14 (26, [x0, some (.ref q), x2, x3], .ref q :: st, a, h) := Rn_go c14_25 rfl
theorem c14_26 : mcode 14 26 = some (.iload_n 3, 1, 0, 0, 0) := rfl
theorem r14_26 : Rn 14 (26, [x0, x1, x2, some (.int i)], st, a, h) = Rn 14 (27, [x0, x1, x2, some (.int i)], .int i :: st, a, h) := Rn_go c14_26 rfl
theorem c14_27 : mcode 14 27 = some (.ldc 75, 2, 1, 7, 0) := rfl
theorem r14_27 : Rn 14 (27, [x0, x1, x2, x3], st, a, h) = Rn 14 (29, [x0, x1, x2, x3], .ref 1007 :: st, a, h) := Rn_go c14_27 rfl
theorem c14_29 : mcode 14 29 = some (.iconst 1, 1, 0, 0, 0) := rfl
theorem r14_29 : Rn 14 (29, [x0, x1, x2, x3], st, a, h) = Rn 14 (30, [x0, x1, x2, x3], .int (1 : Int32) :: st, a, h) := Rn_go c14_29 rfl
theorem c14_30 : mcode 14 30 = some (.invokevirtual 77, 3, 15, 4, 2) := rfl
theorem r14_30 : Rn 14 (30, [x0, x1, x2, x3], [v3, v2, v1, v0, .ref q], a, h) = if mis h q 2 = true then Bk 14 33 [x0, x1, x2, x3] [] (Ec 15 [.ref q, v0, v1, v2, v3] a h) else none := Rn_call1 c14_30 rfl (Nat.le_of_ble_eq_true rfl) rfl rfl (Nat.le_of_ble_eq_true rfl)
theorem c14_33 : mcode 14 33 = some (.ifCond .eq 31, 3, 0, 0, 0) := rfl
theorem r14_33 : Rn 14 (33, [x0, x1, x2, x3], .int i :: st, a, h) = if i = 0 then Rn 14 (64, [x0, x1, x2, x3], st, a, h) else Rn 14 (36, [x0, x1, x2, x3], st, a, h) := Rn_ifc c14_33 mc_eq rfl rfl
theorem c14_36 : mcode 14 36 = some (.aload_n 0, 1, 0, 0, 0) := rfl
theorem r14_36 : Rn 14 (36, [some (.ref q), x1, x2, x3], st, a, h) = Rn 14 (37, [some (.ref q), x1, x2, x3], .ref q :: st, a, h) := Rn_go c14_36 rfl
theorem c14_37 : mcode 14 37 = some (.aload_n 1, 1, 0, 0, 0) := rfl
theorem r14_37 : Rn 14 (37, [x0, some (.ref q), x2, x3], st, a, h) = Rn 14 (38, [x0, some (.ref q), x2, x3], .ref q :: st, a, h) := Rn_go c14_37 rfl
theorem c14_38 : mcode 14 38 = some (.iload_n 3, 1, 0, 0, 0) := rfl
theorem r14_38 : Rn 14 (38, [x0, x1, x2, some (.int i)], st, a, h) = Rn 14 (39, [x0, x1, x2, some (.int i)], .int i :: st, a, h) := Rn_go c14_38 rfl
theorem c14_39 : mcode 14 39 = some (.ldc 81, 2, 1, 8, 0) := rfl
theorem r14_39 : Rn 14 (39, [x0, x1, x2, x3], st, a, h) = Rn 14 (41, [x0, x1, x2, x3], .ref 1008 :: st, a, h) := Rn_go c14_39 rfl
theorem c14_41 : mcode 14 41 = some (.iconst 2, 1, 0, 0, 0) := rfl
theorem r14_41 : Rn 14 (41, [x0, x1, x2, x3], st, a, h) = Rn 14 (42, [x0, x1, x2, x3], .int (2 : Int32) :: st, a, h) := Rn_go c14_41 rfl
theorem c14_42 : mcode 14 42 = some (.invokevirtual 77, 3, 15, 4, 2) := rfl
theorem r14_42 : Rn 14 (42, [x0, x1, x2, x3], [v3, v2, v1, v0, .ref q], a, h) = if mis h q 2 = true then Bk 14 45 [x0, x1, x2, x3] [] (Ec 15 [.ref q, v0, v1, v2, v3] a h) else none := Rn_call1 c14_42 rfl (Nat.le_of_ble_eq_true rfl) rfl rfl (Nat.le_of_ble_eq_true rfl)
theorem c14_45 : mcode 14 45 = some (.ifCond .eq 19, 3, 0, 0, 0) := rfl
theorem r14_45 : Rn 14 (45, [x0, x1, x2, x3], .int i :: st, a, h) = if i = 0 then Rn 14 (64, [x0, x1, x2, x3], st, a, h) else Rn 14 (48, [x0, x1, x2, x3], st, a, h) := Rn_ifc c14_45 mc_eq rfl rfl
theorem c14_48 : mcode 14 48 = some (.aload_n 0, 1, 0, 0, 0) := rfl
theorem r14_48 : Rn 14 (48, [some (.ref q), x1, x2, x3], st, a, h) = Rn 14 (49, [some (.ref q), x1, x2, x3], .ref q :: st, a, h) := Rn_go c14_48 rfl
theorem c14_49 : mcode 14 49 = some (.aload_n 1, 1, 0, 0, 0) := rfl
theorem r14_49 : Rn 14 (49, [x0, some (.ref q), x2, x3], st, a, h) = Rn 14 (50, [x0, some (.ref q), x2, x3], .ref q :: st, a, h) := Rn_go c14_49 rfl
theorem c14_50 : mcode 14 50 = some (.iload_n 3, 1, 0, 0, 0) := rfl
theorem r14_50 : Rn 14 (50, [x0, x1, x2, some (.int i)], st, a, h) = Rn 14 (51, [x0, x1, x2, some (.int i)], .int i :: st, a, h) := Rn_go c14_50 rfl
theorem c14_51 : mcode 14 51 = some (.ldc 83, 2, 1, 9, 0) := rfl
theorem r14_51 : Rn 14 (51, [x0, x1, x2, x3], st, a, h) = Rn 14 (53, [x0, x1, x2, x3], .ref 1009 :: st, a, h) := Rn_go c14_51 rfl
theorem c14_53 : mcode 14 53 = some (.iconst 3, 1, 0, 0, 0) := rfl
theorem r14_53 : Rn 14 (53, [x0, x1, x2, x3], st, a, h) = Rn 14 (54, [x0, x1, x2, x3], .int (3 : Int32) :: st, a, h) := Rn_go c14_53 rfl
theorem c14_54 : mcode 14 54 = some (.invokevirtual 77, 3, 15, 4, 2) := rfl
theorem r14_54 : Rn 14 (54, [x0, x1, x2, x3], [v3, v2, v1, v0, .ref q], a, h) = if mis h q 2 = true then Bk 14 57 [x0, x1, x2, x3] [] (Ec 15 [.ref q, v0, v1, v2, v3] a h) else none := Rn_call1 c14_54 rfl (Nat.le_of_ble_eq_true rfl) rfl rfl (Nat.le_of_ble_eq_true rfl)
theorem c14_57 : mcode 14 57 = some (.ifCond .eq 7, 3, 0, 0, 0) := rfl
theorem r14_57 : Rn 14 (57, [x0, x1, x2, x3], .int i :: st, a, h) = if i = 0 then Rn 14 (64, [x0, x1, x2, x3], st, a, h) else Rn 14 (60, [x0, x1, x2, x3], st, a, h) := Rn_ifc c14_57 mc_eq rfl rfl
theorem c14_60 : mcode 14 60 = some (.iconst 1, 1, 0, 0, 0) := rfl
theorem r14_60 : Rn 14 (60, [x0, x1, x2, x3], st, a, h) = Rn 14 (61, [x0, x1, x2, x3], .int (1 : Int32) :: st, a, h) := Rn_go c14_60 rfl
theorem c14_61 : mcode 14 61 = some (.goto 4, 3, 0, 0, 0) := rfl
theorem r14_61 : Rn 14 (61, [x0, x1, x2, x3], st, a, h) = Rn 14 (65, [x0, x1, x2, x3], st, a, h) := Rn_goto c14_61 rfl
theorem c14_64 : mcode 14 64 = some (.iconst 0, 1, 0, 0, 0) := rfl
theorem r14_64 : Rn 14 (64, [x0, x1, x2, x3], st, a, h) = Rn 14 (65, [x0, x1, x2, x3], .int (0 : Int32) :: st, a, h) := Rn_go c14_64 rfl
theorem c14_65 : mcode 14 65 = some (.ireturn, 1, 1, 0, 0) := rfl
theorem r14_65 : Rn 14 (65, [x0, x1, x2, x3], [.int i], a, h) = if mrt 1 i = true then some (some (.int i), a, h) else none := Rn_iretz c14_65
theorem c15_0 : mcode 15 0 = some (.aload_n 0, 1, 0, 0, 0) := rfl
theorem r15_0 : Rn 15 (0, [some (.ref q), x1, x2, x3, x4, x5], st, a, h) = Rn 15 (1, [some (.ref q), x1, x2, x3, x4, x5], .ref q :: st, a, h) := Rn_go c15_0 rfl
theorem c15_1 : mcode 15 1 = some (.aload_n 3, 1, 0, 0, 0) := rfl
theorem r15_1 : Rn 15 (1, [x0, x1, x2, some (.ref q), x4, x5], st, a, h) = Rn 15 (2, [x0, x1, x2, some (.ref q), x4, x5], .ref q :: st, a, h) := Rn_go c15_1 rfl
theorem c15_2 : mcode 15 2 = some (.invokevirtual 45, 3, 19, 1, 2) := rfl
theorem r15_2 : Rn 15 (2, [x0, x1, x2, x3, x4, x5], [v0, .ref q], a, h) = if mis h q 2 = true then Bk 15 5 [x0, x1, x2, x3, x4, x5] [] (Ec 19 [.ref q, v0] a h) else none := Rn_call1 c15_2 rfl (Nat.le_of_ble_eq_true rfl) rfl rfl (Nat.le_of_ble_eq_true rfl)
theorem c15_5 : mcode 15 5 = some (.ifCond .ne 5, 3, 0, 0, 0) := rfl
theorem r15_5 : Rn 15 (5, [x0, x1, x2, x3, x4, x5], .int i :: st, a, h) = if i = 0 then Rn 15 (8, [x0, x1, x2, x3, x4, x5], st, a, h) else Rn 15 (10, [x0, x1, x2, x3, x4, x5], st, a, h) := Rn_ifcn c15_5 mc_ne rfl rfl
theorem c15_8 : mcode 15 8 = some (.iconst 1, 1, 0, 0, 0) := rfl
theorem r15_8 : Rn 15 (8, [x0, x1, x2, x3, x4, x5], st, a, h) = Rn 15 (9, [x0, x1, x2, x3, x4, x5], .int (1 : Int32) :: st, a, h) := Rn_go c15_8 rfl
theorem c15_9 : mcode 15 9 = some (.ireturn, 1, 1, 0, 0) := rfl
theorem r15_9 : Rn 15 (9, [x0, x1, x2, x3, x4, x5], [.int i], a, h) = if mrt 1 i = true then some (some (.int i), a, h) else none := Rn_iretz c15_9
theorem c15_10 : mcode 15 10 = some (.aload_n 0, 1, 0, 0, 0) := rfl
theorem r15_10 : Rn 15 (10, [some (.ref q), x1, x2, x3, x4, x5], st, a, h) = Rn 15 (11, [some (.ref q), x1, x2, x3, x4, x5], .ref q :: st, a, h) := Rn_go c15_10 rfl
theorem c15_11 : mcode 15 11 = some (.iload 4, 2, 0, 0, 0) := rfl
theorem r15_11 : Rn 15 (11, [x0, x1, x2, x3, some (.int i), x5], st, a, h) = Rn 15 (13, [x0, x1, x2, x3, some (.int i), x5], .int i :: st, a, h) := Rn_go c15_11 rfl
theorem c15_13 : mcode 15 13 = some (.invokestatic 85, 3, 111, 1, 0) := rfl
theorem r15_13 : Rn 15 (13, [x0, x1, x2, x3, x4, x5], [v0, .ref q0], a, h) = Bk 15 16 [x0, x1, x2, x3, x4, x5] [.ref q0] (Ec 111 [v0] a h) := Rn_call0 c15_13 (fun z => nomatch z) rfl (Nat.le_of_ble_eq_true rfl) rfl rfl (Nat.le_of_ble_eq_true rfl)
theorem c15_16 : mcode 15 16 = some (.invokevirtual 89, 3, 20, 1, 2) := rfl
theorem r15_16 : Rn 15 (16, [x0, x1, x2, x3, x4, x5], [v0, .ref q], a, h) = if mis h q 2 = true then Bk 15 19 [x0, x1, x2, x3, x4, x5] [] (Ec 20 [.ref q, v0] a h) else none := Rn_call1 c15_16 rfl (Nat.le_of_ble_eq_true rfl) rfl rfl (Nat.le_of_ble_eq_true rfl)
theorem c15_19 : mcode 15 19 = some (.istore 5, 2, 0, 0, 0) := rfl
theorem r15_19 : Rn 15 (19, [x0, x1, x2, x3, x4, x5], .int i :: st, a, h) = Nl x4 (Rn 15 (21, [x0, x1, x2, x3, x4, some (.int i)], st, a, h)) := Rn_st1 (k := 5) (v := .int i) x4 c15_19 rfl rfl rfl rfl
theorem c15_21 : mcode 15 21 = some (.aload_n 1, 1, 0, 0, 0) := rfl
theorem r15_21 : Rn 15 (21, [x0, some (.ref q), x2, x3, x4, x5], st, a, h) = Rn 15 (22, [x0, some (.ref q), x2, x3, x4, x5], .ref q :: st, a, h) := Rn_go c15_21 rfl
theorem c15_22 : mcode 15 22 = some (.iload_n 2, 1, 0, 0, 0) := rfl
theorem r15_22 : Rn 15 (22, [x0, x1, some (.int i), x3, x4, x5], st, a, h) = Rn 15 (23, [x0, x1, some (.int i), x3, x4, x5], .int i :: st, a, h) := Rn_go c15_22 rfl
theorem c15_23 : mcode 15 23 = some (.iload 4, 2, 0, 0, 0) := rfl
theorem r15_23 : Rn 15 (23, [x0, x1, x2, x3, some (.int i), x5], st, a, h) = Rn 15 (25, [x0, x1, x2, x3, some (.int i), x5], .int i :: st, a, h) := Rn_go c15_23 rfl
theorem c15_25 : mcode 15 25 = some (.iload 5, 2, 0, 0, 0) := rfl
theorem r15_25 : Rn 15 (25, [x0, x1, x2, x3, x4, some (.int i)], st, a, h) = Rn 15 (27, [x0, x1, x2, x3, x4, some (.int i)], .int i :: st, a, h) := Rn_go c15_25 rfl
theorem c15_27 : mcode 15 27 = some (.iconst 0, 1, 0, 0, 0) := rfl
theorem r15_27 : Rn 15 (27, [x0, x1, x2, x3, x4, x5], st, a, h) = Rn 15 (28, [x0, x1, x2, x3, x4, x5], .int (0 : Int32) :: st, a, h) := Rn_go c15_27 rfl
theorem c15_28 : mcode 15 28 = some (.invokestatic 92, 3, 227, 2, 0) := rfl
theorem r15_28 : Rn 15 (28, [x0, x1, x2, x3, x4, x5], [v1, v0, .int i0, .int i1, .ref q2], a, h) = Bk 15 31 [x0, x1, x2, x3, x4, x5] [.int i0, .int i1, .ref q2] (Ec 227 [v0, v1] a h) := Rn_call0 c15_28 (fun z => nomatch z) rfl (Nat.le_of_ble_eq_true rfl) rfl rfl (Nat.le_of_ble_eq_true rfl)
theorem c15_31 : mcode 15 31 = some (.invokevirtual 98, 3, 40, 3, 4) := rfl
theorem r15_31 : Rn 15 (31, [x0, x1, x2, x3, x4, x5], [v2, v1, v0, .ref q], a, h) = if mis h q 4 = true then Bk 15 34 [x0, x1, x2, x3, x4, x5] [] (Ec 40 [.ref q, v0, v1, v2] a h) else none := Rn_call1 c15_31 rfl (Nat.le_of_ble_eq_true rfl) rfl rfl (Nat.le_of_ble_eq_true rfl)
theorem c15_34 : mcode 15 34 = some (.iload 5, 2, 0, 0, 0) := rfl
theorem r15_34 : Rn 15 (34, [x0, x1, x2, x3, x4, some (.int i)], st, a, h) = Rn 15 (36, [x0, x1, x2, x3, x4, some (.int i)], .int i :: st, a, h) := Rn_go c15_34 rfl
theorem c15_36 : mcode 15 36 = some (.ifCond .lt 7, 3, 0, 0, 0) := rfl
theorem r15_36 : Rn 15 (36, [x0, x1, x2, x3, x4, x5], .int i :: st, a, h) = if i < 0 then Rn 15 (43, [x0, x1, x2, x3, x4, x5], st, a, h) else Rn 15 (39, [x0, x1, x2, x3, x4, x5], st, a, h) := Rn_ifc c15_36 mc_lt rfl rfl
theorem c15_39 : mcode 15 39 = some (.iconst 1, 1, 0, 0, 0) := rfl
theorem r15_39 : Rn 15 (39, [x0, x1, x2, x3, x4, x5], st, a, h) = Rn 15 (40, [x0, x1, x2, x3, x4, x5], .int (1 : Int32) :: st, a, h) := Rn_go c15_39 rfl
theorem c15_40 : mcode 15 40 = some (.goto 4, 3, 0, 0, 0) := rfl
theorem r15_40 : Rn 15 (40, [x0, x1, x2, x3, x4, x5], st, a, h) = Rn 15 (44, [x0, x1, x2, x3, x4, x5], st, a, h) := Rn_goto c15_40 rfl
theorem c15_43 : mcode 15 43 = some (.iconst 0, 1, 0, 0, 0) := rfl
theorem r15_43 : Rn 15 (43, [x0, x1, x2, x3, x4, x5], st, a, h) = Rn 15 (44, [x0, x1, x2, x3, x4, x5], .int (0 : Int32) :: st, a, h) := Rn_go c15_43 rfl
theorem c15_44 : mcode 15 44 = some (.ireturn, 1, 1, 0, 0) := rfl
theorem r15_44 : Rn 15 (44, [x0, x1, x2, x3, x4, x5], [.int i], a, h) = if mrt 1 i = true then some (some (.int i), a, h) else none := Rn_iretz c15_44
theorem c16_0 : mcode 16 0 = some (.aload_n 0, 1, 0, 0, 0) := rfl
theorem r16_0 : Rn 16 (0, [some (.ref q), x1, x2, x3, x4], st, a, h) = Rn 16 (1, [some (.ref q), x1, x2, x3, x4], .ref q :: st, a, h) := Rn_go c16_0 rfl
theorem c16_1 : mcode 16 1 = some (.bipush 7, 2, 0, 0, 0) := rfl
theorem r16_1 : Rn 16 (1, [x0, x1, x2, x3, x4], st, a, h) = Rn 16 (3, [x0, x1, x2, x3, x4], .int (7 : Int32) :: st, a, h) := Rn_go c16_1 rfl
theorem c16_3 : mcode 16 3 = some (.invokevirtual 89, 3, 20, 1, 2) := rfl
theorem r16_3 : Rn 16 (3, [x0, x1, x2, x3, x4], [v0, .ref q], a, h) = if mis h q 2 = true then Bk 16 6 [x0, x1, x2, x3, x4] [] (Ec 20 [.ref q, v0] a h) else none := Rn_call1 c16_3 rfl (Nat.le_of_ble_eq_true rfl) rfl rfl (Nat.le_of_ble_eq_true rfl)
theorem c16_6 : mcode 16 6 = some (.istore_n 2, 1, 0, 0, 0) := rfl
theorem r16_6 : Rn 16 (6, [x0, x1, x2, x3, x4], .int i :: st, a, h) = Nl x1 (Rn 16 (7, [x0, x1, some (.int i), x3, x4], st, a, h)) := Rn_st1 (k := 2) (v := .int i) x1 c16_6 rfl rfl rfl rfl
theorem c16_7 : mcode 16 7 = some (.iload_n 2, 1, 0, 0, 0) := rfl
theorem r16_7 : Rn 16 (7, [x0, x1, some (.int i), x3, x4], st, a, h) = Rn 16 (8, [x0, x1, some (.int i), x3, x4], .int i :: st, a, h) := Rn_go c16_7 rfl
theorem c16_8 : mcode 16 8 = some (.ifCond .ge 7, 3, 0, 0, 0) := rfl
theorem r16_8 : Rn 16 (8, [x0, x1, x2, x3, x4], .int i :: st, a, h) = if i < 0 then Rn 16 (11, [x0, x1, x2, x3, x4], st, a, h) else Rn 16 (15, [x0, x1, x2, x3, x4], st, a, h) := Rn_ifcn c16_8 mc_ge rfl rfl
theorem c16_11 : mcode 16 11 = some (.iconst (-1), 1, 0, 0, 0) := rfl
theorem r16_11 : Rn 16 (11, [x0, x1, x2, x3, x4], st, a, h) = Rn 16 (12, [x0, x1, x2, x3, x4], .int (-1 : Int32) :: st, a, h) := Rn_go c16_11 rfl
theorem c16_12 : mcode 16 12 = some (.goto 8, 3, 0, 0, 0) := rfl
theorem r16_12 : Rn 16 (12, [x0, x1, x2, x3, x4], st, a, h) = Rn 16 (20, [x0, x1, x2, x3, x4], st, a, h) := Rn_goto c16_12 rfl
theorem c16_15 : mcode 16 15 = some (.aload_n 0, 1, 0, 0, 0) := rfl
theorem r16_15 : Rn 16 (15, [some (.ref q), x1, x2, x3, x4], st, a, h) = Rn 16 (16, [some (.ref q), x1, x2, x3, x4], .ref q :: st, a, h) := Rn_go c16_15 rfl
theorem c16_16 : mcode 16 16 = some (.iconst 2, 1, 0, 0, 0) := rfl
theorem r16_16 : Rn 16 (16, [x0, x1, x2, x3, x4], st, a, h) = Rn 16 (17, [x0, x1, x2, x3, x4], .int (2 : Int32) :: st, a, h) := Rn_go c16_16 rfl
theorem c16_17 : mcode 16 17 = some (.invokevirtual 89, 3, 20, 1, 2) := rfl
theorem r16_17 : Rn 16 (17, [x0, x1, x2, x3, x4], [v0, .ref q], a, h) = if mis h q 2 = true then Bk 16 20 [x0, x1, x2, x3, x4] [] (Ec 20 [.ref q, v0] a h) else none := Rn_call1 c16_17 rfl (Nat.le_of_ble_eq_true rfl) rfl rfl (Nat.le_of_ble_eq_true rfl)
theorem c16_20 : mcode 16 20 = some (.istore_n 3, 1, 0, 0, 0) := rfl
theorem r16_20 : Rn 16 (20, [x0, x1, x2, x3, x4], .int i :: st, a, h) = Nl x2 (Rn 16 (21, [x0, x1, x2, some (.int i), x4], st, a, h)) := Rn_st1 (k := 3) (v := .int i) x2 c16_20 rfl rfl rfl rfl
theorem c16_21 : mcode 16 21 = some (.iload_n 3, 1, 0, 0, 0) := rfl
theorem r16_21 : Rn 16 (21, [x0, x1, x2, some (.int i), x4], st, a, h) = Rn 16 (22, [x0, x1, x2, some (.int i), x4], .int i :: st, a, h) := Rn_go c16_21 rfl
theorem c16_22 : mcode 16 22 = some (.ifCond .ge 7, 3, 0, 0, 0) := rfl
theorem r16_22 : Rn 16 (22, [x0, x1, x2, x3, x4], .int i :: st, a, h) = if i < 0 then Rn 16 (25, [x0, x1, x2, x3, x4], st, a, h) else Rn 16 (29, [x0, x1, x2, x3, x4], st, a, h) := Rn_ifcn c16_22 mc_ge rfl rfl
theorem c16_25 : mcode 16 25 = some (.iconst (-1), 1, 0, 0, 0) := rfl
theorem r16_25 : Rn 16 (25, [x0, x1, x2, x3, x4], st, a, h) = Rn 16 (26, [x0, x1, x2, x3, x4], .int (-1 : Int32) :: st, a, h) := Rn_go c16_25 rfl
theorem c16_26 : mcode 16 26 = some (.goto 10, 3, 0, 0, 0) := rfl
theorem r16_26 : Rn 16 (26, [x0, x1, x2, x3, x4], st, a, h) = Rn 16 (36, [x0, x1, x2, x3, x4], st, a, h) := Rn_goto c16_26 rfl
theorem c16_29 : mcode 16 29 = some (.aload_n 0, 1, 0, 0, 0) := rfl
theorem r16_29 : Rn 16 (29, [some (.ref q), x1, x2, x3, x4], st, a, h) = Rn 16 (30, [some (.ref q), x1, x2, x3, x4], .ref q :: st, a, h) := Rn_go c16_29 rfl
theorem c16_30 : mcode 16 30 = some (.sipush 999, 3, 0, 0, 0) := rfl
theorem r16_30 : Rn 16 (30, [x0, x1, x2, x3, x4], st, a, h) = Rn 16 (33, [x0, x1, x2, x3, x4], .int (999 : Int32) :: st, a, h) := Rn_go c16_30 rfl
theorem c16_33 : mcode 16 33 = some (.invokevirtual 89, 3, 20, 1, 2) := rfl
theorem r16_33 : Rn 16 (33, [x0, x1, x2, x3, x4], [v0, .ref q], a, h) = if mis h q 2 = true then Bk 16 36 [x0, x1, x2, x3, x4] [] (Ec 20 [.ref q, v0] a h) else none := Rn_call1 c16_33 rfl (Nat.le_of_ble_eq_true rfl) rfl rfl (Nat.le_of_ble_eq_true rfl)
theorem c16_36 : mcode 16 36 = some (.istore 4, 2, 0, 0, 0) := rfl
theorem r16_36 : Rn 16 (36, [x0, x1, x2, x3, x4], .int i :: st, a, h) = Nl x3 (Rn 16 (38, [x0, x1, x2, x3, some (.int i)], st, a, h)) := Rn_st1 (k := 4) (v := .int i) x3 c16_36 rfl rfl rfl rfl
theorem c16_38 : mcode 16 38 = some (.iload 4, 2, 0, 0, 0) := rfl
theorem r16_38 : Rn 16 (38, [x0, x1, x2, x3, some (.int i)], st, a, h) = Rn 16 (40, [x0, x1, x2, x3, some (.int i)], .int i :: st, a, h) := Rn_go c16_38 rfl
theorem c16_40 : mcode 16 40 = some (.ifCond .ge 5, 3, 0, 0, 0) := rfl
theorem r16_40 : Rn 16 (40, [x0, x1, x2, x3, x4], .int i :: st, a, h) = if i < 0 then Rn 16 (43, [x0, x1, x2, x3, x4], st, a, h) else Rn 16 (45, [x0, x1, x2, x3, x4], st, a, h) := Rn_ifcn c16_40 mc_ge rfl rfl
theorem c16_43 : mcode 16 43 = some (.iconst 0, 1, 0, 0, 0) := rfl
theorem r16_43 : Rn 16 (43, [x0, x1, x2, x3, x4], st, a, h) = Rn 16 (44, [x0, x1, x2, x3, x4], .int (0 : Int32) :: st, a, h) := Rn_go c16_43 rfl
theorem c16_44 : mcode 16 44 = some (.ireturn, 1, 1, 0, 0) := rfl
theorem r16_44 : Rn 16 (44, [x0, x1, x2, x3, x4], [.int i], a, h) = if mrt 1 i = true then some (some (.int i), a, h) else none := Rn_iretz c16_44
theorem c16_45 : mcode 16 45 = some (.aload_n 1, 1, 0, 0, 0) := rfl
theorem r16_45 : Rn 16 (45, [x0, some (.ref q), x2, x3, x4], st, a, h) = Rn 16 (46, [x0, some (.ref q), x2, x3, x4], .ref q :: st, a, h) := Rn_go c16_45 rfl
theorem c16_46 : mcode 16 46 = some (.iload_n 2, 1, 0, 0, 0) := rfl
theorem r16_46 : Rn 16 (46, [x0, x1, some (.int i), x3, x4], st, a, h) = Rn 16 (47, [x0, x1, some (.int i), x3, x4], .int i :: st, a, h) := Rn_go c16_46 rfl
theorem c16_47 : mcode 16 47 = some (.iload_n 3, 1, 0, 0, 0) := rfl
theorem r16_47 : Rn 16 (47, [x0, x1, x2, some (.int i), x4], st, a, h) = Rn 16 (48, [x0, x1, x2, some (.int i), x4], .int i :: st, a, h) := Rn_go c16_47 rfl
theorem c16_48 : mcode 16 48 = some (.iload 4, 2, 0, 0, 0) := rfl
theorem r16_48 : Rn 16 (48, [x0, x1, x2, x3, some (.int i)], st, a, h) = Rn 16 (50, [x0, x1, x2, x3, some (.int i)], .int i :: st, a, h) := Rn_go c16_48 rfl
theorem c16_50 : mcode 16 50 = some (.invokevirtual 102, 3, 42, 3, 4) := rfl
theorem r16_50 : Rn 16 (50, [x0, x1, x2, x3, x4], [v2, v1, v0, .ref q], a, h) = if mis h q 4 = true then Bk 16 53 [x0, x1, x2, x3, x4] [] (Ec 42 [.ref q, v0, v1, v2] a h) else none := Rn_call1 c16_50 rfl (Nat.le_of_ble_eq_true rfl) rfl rfl (Nat.le_of_ble_eq_true rfl)
theorem c16_53 : mcode 16 53 = some (.iconst 1, 1, 0, 0, 0) := rfl
theorem r16_53 : Rn 16 (53, [x0, x1, x2, x3, x4], st, a, h) = Rn 16 (54, [x0, x1, x2, x3, x4], .int (1 : Int32) :: st, a, h) := Rn_go c16_53 rfl
theorem c16_54 : mcode 16 54 = some (.ireturn, 1, 1, 0, 0) := rfl
theorem r16_54 : Rn 16 (54, [x0, x1, x2, x3, x4], [.int i], a, h) = if mrt 1 i = true then some (some (.int i), a, h) else none := Rn_iretz c16_54
theorem c17_0 : mcode 17 0 = some (.aload_n 0, 1, 0, 0, 0) := rfl
theorem r17_0 : Rn 17 (0, [some (.ref q), x1, x2], st, a, h) = Rn 17 (1, [some (.ref q), x1, x2], .ref q :: st, a, h) := Rn_go c17_0 rfl
theorem c17_1 : mcode 17 1 = some (.bipush 9, 2, 0, 0, 0) := rfl
theorem r17_1 : Rn 17 (1, [x0, x1, x2], st, a, h) = Rn 17 (3, [x0, x1, x2], .int (9 : Int32) :: st, a, h) := Rn_go c17_1 rfl
theorem c17_3 : mcode 17 3 = some (.invokevirtual 89, 3, 20, 1, 2) := rfl
theorem r17_3 : Rn 17 (3, [x0, x1, x2], [v0, .ref q], a, h) = if mis h q 2 = true then Bk 17 6 [x0, x1, x2] [] (Ec 20 [.ref q, v0] a h) else none := Rn_call1 c17_3 rfl (Nat.le_of_ble_eq_true rfl) rfl rfl (Nat.le_of_ble_eq_true rfl)
theorem c17_6 : mcode 17 6 = some (.istore_n 2, 1, 0, 0, 0) := rfl
theorem r17_6 : Rn 17 (6, [x0, x1, x2], .int i :: st, a, h) = Nl x1 (Rn 17 (7, [x0, x1, some (.int i)], st, a, h)) := Rn_st1 (k := 2) (v := .int i) x1 c17_6 rfl rfl rfl rfl
theorem c17_7 : mcode 17 7 = some (.iload_n 2, 1, 0, 0, 0) := rfl
theorem r17_7 : Rn 17 (7, [x0, x1, some (.int i)], st, a, h) = Rn 17 (8, [x0, x1, some (.int i)], .int i :: st, a, h) := Rn_go c17_7 rfl
theorem c17_8 : mcode 17 8 = some (.ifCond .ge 5, 3, 0, 0, 0) := rfl
theorem r17_8 : Rn 17 (8, [x0, x1, x2], .int i :: st, a, h) = if i < 0 then Rn 17 (11, [x0, x1, x2], st, a, h) else Rn 17 (13, [x0, x1, x2], st, a, h) := Rn_ifcn c17_8 mc_ge rfl rfl
theorem c17_11 : mcode 17 11 = some (.iconst 0, 1, 0, 0, 0) := rfl
theorem r17_11 : Rn 17 (11, [x0, x1, x2], st, a, h) = Rn 17 (12, [x0, x1, x2], .int (0 : Int32) :: st, a, h) := Rn_go c17_11 rfl
theorem c17_12 : mcode 17 12 = some (.ireturn, 1, 1, 0, 0) := rfl
theorem r17_12 : Rn 17 (12, [x0, x1, x2], [.int i], a, h) = if mrt 1 i = true then some (some (.int i), a, h) else none := Rn_iretz c17_12
theorem c17_13 : mcode 17 13 = some (.aload_n 1, 1, 0, 0, 0) := rfl
theorem r17_13 : Rn 17 (13, [x0, some (.ref q), x2], st, a, h) = Rn 17 (14, [x0, some (.ref q), x2], .ref q :: st, a, h) := Rn_go c17_13 rfl
theorem c17_14 : mcode 17 14 = some (.iload_n 2, 1, 0, 0, 0) := rfl
theorem r17_14 : Rn 17 (14, [x0, x1, some (.int i)], st, a, h) = Rn 17 (15, [x0, x1, some (.int i)], .int i :: st, a, h) := Rn_go c17_14 rfl
theorem c17_15 : mcode 17 15 = some (.putfield 105, 3, 4, 4, 0) := rfl
theorem r17_15 : Rn 17 (15, [x0, x1, x2], .int i :: .ref q :: st, a, h) = Kh 17 18 [x0, x1, x2] st a (mpf h q 4 4 (.int i)) := Rn_putfi c17_15 rfl rfl
theorem c17_18 : mcode 17 18 = some (.iconst 1, 1, 0, 0, 0) := rfl
theorem r17_18 : Rn 17 (18, [x0, x1, x2], st, a, h) = Rn 17 (19, [x0, x1, x2], .int (1 : Int32) :: st, a, h) := Rn_go c17_18 rfl
theorem c17_19 : mcode 17 19 = some (.ireturn, 1, 1, 0, 0) := rfl
theorem r17_19 : Rn 17 (19, [x0, x1, x2], [.int i], a, h) = if mrt 1 i = true then some (some (.int i), a, h) else none := Rn_iretz c17_19
theorem c18_0 : mcode 18 0 = some (.aload_n 0, 1, 0, 0, 0) := rfl
theorem r18_0 : Rn 18 (0, [some (.ref q), x1, x2, x3], st, a, h) = Rn 18 (1, [some (.ref q), x1, x2, x3], .ref q :: st, a, h) := Rn_go c18_0 rfl
theorem c18_1 : mcode 18 1 = some (.bipush 7, 2, 0, 0, 0) := rfl
theorem r18_1 : Rn 18 (1, [x0, x1, x2, x3], st, a, h) = Rn 18 (3, [x0, x1, x2, x3], .int (7 : Int32) :: st, a, h) := Rn_go c18_1 rfl
theorem c18_3 : mcode 18 3 = some (.invokevirtual 89, 3, 20, 1, 2) := rfl
theorem r18_3 : Rn 18 (3, [x0, x1, x2, x3], [v0, .ref q], a, h) = if mis h q 2 = true then Bk 18 6 [x0, x1, x2, x3] [] (Ec 20 [.ref q, v0] a h) else none := Rn_call1 c18_3 rfl (Nat.le_of_ble_eq_true rfl) rfl rfl (Nat.le_of_ble_eq_true rfl)
theorem c18_6 : mcode 18 6 = some (.istore_n 2, 1, 0, 0, 0) := rfl
theorem r18_6 : Rn 18 (6, [x0, x1, x2, x3], .int i :: st, a, h) = Nl x1 (Rn 18 (7, [x0, x1, some (.int i), x3], st, a, h)) := Rn_st1 (k := 2) (v := .int i) x1 c18_6 rfl rfl rfl rfl
theorem c18_7 : mcode 18 7 = some (.iload_n 2, 1, 0, 0, 0) := rfl
theorem r18_7 : Rn 18 (7, [x0, x1, some (.int i), x3], st, a, h) = Rn 18 (8, [x0, x1, some (.int i), x3], .int i :: st, a, h) := Rn_go c18_7 rfl
theorem c18_8 : mcode 18 8 = some (.ifCond .ge 7, 3, 0, 0, 0) := rfl
theorem r18_8 : Rn 18 (8, [x0, x1, x2, x3], .int i :: st, a, h) = if i < 0 then Rn 18 (11, [x0, x1, x2, x3], st, a, h) else Rn 18 (15, [x0, x1, x2, x3], st, a, h) := Rn_ifcn c18_8 mc_ge rfl rfl
theorem c18_11 : mcode 18 11 = some (.iconst (-1), 1, 0, 0, 0) := rfl
theorem r18_11 : Rn 18 (11, [x0, x1, x2, x3], st, a, h) = Rn 18 (12, [x0, x1, x2, x3], .int (-1 : Int32) :: st, a, h) := Rn_go c18_11 rfl
theorem c18_12 : mcode 18 12 = some (.goto 9, 3, 0, 0, 0) := rfl
theorem r18_12 : Rn 18 (12, [x0, x1, x2, x3], st, a, h) = Rn 18 (21, [x0, x1, x2, x3], st, a, h) := Rn_goto c18_12 rfl
theorem c18_15 : mcode 18 15 = some (.aload_n 0, 1, 0, 0, 0) := rfl
theorem r18_15 : Rn 18 (15, [some (.ref q), x1, x2, x3], st, a, h) = Rn 18 (16, [some (.ref q), x1, x2, x3], .ref q :: st, a, h) := Rn_go c18_15 rfl
theorem c18_16 : mcode 18 16 = some (.bipush 7, 2, 0, 0, 0) := rfl
theorem r18_16 : Rn 18 (16, [x0, x1, x2, x3], st, a, h) = Rn 18 (18, [x0, x1, x2, x3], .int (7 : Int32) :: st, a, h) := Rn_go c18_16 rfl
theorem c18_18 : mcode 18 18 = some (.invokevirtual 89, 3, 20, 1, 2) := rfl
theorem r18_18 : Rn 18 (18, [x0, x1, x2, x3], [v0, .ref q], a, h) = if mis h q 2 = true then Bk 18 21 [x0, x1, x2, x3] [] (Ec 20 [.ref q, v0] a h) else none := Rn_call1 c18_18 rfl (Nat.le_of_ble_eq_true rfl) rfl rfl (Nat.le_of_ble_eq_true rfl)
theorem c18_21 : mcode 18 21 = some (.istore_n 3, 1, 0, 0, 0) := rfl
theorem r18_21 : Rn 18 (21, [x0, x1, x2, x3], .int i :: st, a, h) = Nl x2 (Rn 18 (22, [x0, x1, x2, some (.int i)], st, a, h)) := Rn_st1 (k := 3) (v := .int i) x2 c18_21 rfl rfl rfl rfl
theorem c18_22 : mcode 18 22 = some (.iload_n 3, 1, 0, 0, 0) := rfl
theorem r18_22 : Rn 18 (22, [x0, x1, x2, some (.int i)], st, a, h) = Rn 18 (23, [x0, x1, x2, some (.int i)], .int i :: st, a, h) := Rn_go c18_22 rfl
theorem c18_23 : mcode 18 23 = some (.ifCond .ge 5, 3, 0, 0, 0) := rfl
theorem r18_23 : Rn 18 (23, [x0, x1, x2, x3], .int i :: st, a, h) = if i < 0 then Rn 18 (26, [x0, x1, x2, x3], st, a, h) else Rn 18 (28, [x0, x1, x2, x3], st, a, h) := Rn_ifcn c18_23 mc_ge rfl rfl
theorem c18_26 : mcode 18 26 = some (.iconst 0, 1, 0, 0, 0) := rfl
theorem r18_26 : Rn 18 (26, [x0, x1, x2, x3], st, a, h) = Rn 18 (27, [x0, x1, x2, x3], .int (0 : Int32) :: st, a, h) := Rn_go c18_26 rfl
theorem c18_27 : mcode 18 27 = some (.ireturn, 1, 1, 0, 0) := rfl
theorem r18_27 : Rn 18 (27, [x0, x1, x2, x3], [.int i], a, h) = if mrt 1 i = true then some (some (.int i), a, h) else none := Rn_iretz c18_27
theorem c18_28 : mcode 18 28 = some (.aload_n 1, 1, 0, 0, 0) := rfl
theorem r18_28 : Rn 18 (28, [x0, some (.ref q), x2, x3], st, a, h) = Rn 18 (29, [x0, some (.ref q), x2, x3], .ref q :: st, a, h) := Rn_go c18_28 rfl
theorem c18_29 : mcode 18 29 = some (.iload_n 2, 1, 0, 0, 0) := rfl
theorem r18_29 : Rn 18 (29, [x0, x1, some (.int i), x3], st, a, h) = Rn 18 (30, [x0, x1, some (.int i), x3], .int i :: st, a, h) := Rn_go c18_29 rfl
theorem c18_30 : mcode 18 30 = some (.iload_n 3, 1, 0, 0, 0) := rfl
theorem r18_30 : Rn 18 (30, [x0, x1, x2, some (.int i)], st, a, h) = Rn 18 (31, [x0, x1, x2, some (.int i)], .int i :: st, a, h) := Rn_go c18_30 rfl
theorem c18_31 : mcode 18 31 = some (.invokevirtual 107, 3, 52, 2, 4) := rfl
theorem r18_31 : Rn 18 (31, [x0, x1, x2, x3], [v1, v0, .ref q], a, h) = if mis h q 4 = true then Bk 18 34 [x0, x1, x2, x3] [] (Ec 52 [.ref q, v0, v1] a h) else none := Rn_call1 c18_31 rfl (Nat.le_of_ble_eq_true rfl) rfl rfl (Nat.le_of_ble_eq_true rfl)
theorem c18_34 : mcode 18 34 = some (.iconst 1, 1, 0, 0, 0) := rfl
theorem r18_34 : Rn 18 (34, [x0, x1, x2, x3], st, a, h) = Rn 18 (35, [x0, x1, x2, x3], .int (1 : Int32) :: st, a, h) := Rn_go c18_34 rfl
theorem c18_35 : mcode 18 35 = some (.ireturn, 1, 1, 0, 0) := rfl
theorem r18_35 : Rn 18 (35, [x0, x1, x2, x3], [.int i], a, h) = if mrt 1 i = true then some (some (.int i), a, h) else none := Rn_iretz c18_35
theorem c19_0 : mcode 19 0 = some (.aload_n 0, 1, 0, 0, 0) := rfl
theorem r19_0 : Rn 19 (0, [some (.ref q), x1], st, a, h) = Rn 19 (1, [some (.ref q), x1], .ref q :: st, a, h) := Rn_go c19_0 rfl
theorem c19_1 : mcode 19 1 = some (.aload_n 1, 1, 0, 0, 0) := rfl
theorem r19_1 : Rn 19 (1, [x0, some (.ref q)], st, a, h) = Rn 19 (2, [x0, some (.ref q)], .ref q :: st, a, h) := Rn_go c19_1 rfl
theorem c19_2 : mcode 19 2 = some (.invokevirtual 110, 3, 22, 1, 2) := rfl
theorem r19_2 : Rn 19 (2, [x0, x1], [v0, .ref q], a, h) = if mis h q 2 = true then Bk 19 5 [x0, x1] [] (Ec 22 [.ref q, v0] a h) else none := Rn_call1 c19_2 rfl (Nat.le_of_ble_eq_true rfl) rfl rfl (Nat.le_of_ble_eq_true rfl)
theorem c19_5 : mcode 19 5 = some (.ifCond .ne 5, 3, 0, 0, 0) := rfl
theorem r19_5 : Rn 19 (5, [x0, x1], .int i :: st, a, h) = if i = 0 then Rn 19 (8, [x0, x1], st, a, h) else Rn 19 (10, [x0, x1], st, a, h) := Rn_ifcn c19_5 mc_ne rfl rfl
theorem c19_8 : mcode 19 8 = some (.iconst 0, 1, 0, 0, 0) := rfl
theorem r19_8 : Rn 19 (8, [x0, x1], st, a, h) = Rn 19 (9, [x0, x1], .int (0 : Int32) :: st, a, h) := Rn_go c19_8 rfl
theorem c19_9 : mcode 19 9 = some (.ireturn, 1, 1, 0, 0) := rfl
theorem r19_9 : Rn 19 (9, [x0, x1], [.int i], a, h) = if mrt 1 i = true then some (some (.int i), a, h) else none := Rn_iretz c19_9
theorem c19_10 : mcode 19 10 = some (.aload_n 0, 1, 0, 0, 0) := rfl
theorem r19_10 : Rn 19 (10, [some (.ref q), x1], st, a, h) = Rn 19 (11, [some (.ref q), x1], .ref q :: st, a, h) := Rn_go c19_10 rfl
theorem c19_11 : mcode 19 11 = some (.invokevirtual 22, 3, 23, 0, 2) := rfl
theorem r19_11 : Rn 19 (11, [x0, x1], [.ref q], a, h) = if mis h q 2 = true then Bk 19 14 [x0, x1] [] (Ec 23 [.ref q] a h) else none := Rn_call1 c19_11 rfl (Nat.le_of_ble_eq_true rfl) rfl rfl (Nat.le_of_ble_eq_true rfl)
theorem c19_14 : mcode 19 14 = some (.iconst 1, 1, 0, 0, 0) := rfl
theorem r19_14 : Rn 19 (14, [x0, x1], st, a, h) = Rn 19 (15, [x0, x1], .int (1 : Int32) :: st, a, h) := Rn_go c19_14 rfl
theorem c19_15 : mcode 19 15 = some (.ireturn, 1, 1, 0, 0) := rfl
theorem r19_15 : Rn 19 (15, [x0, x1], [.int i], a, h) = if mrt 1 i = true then some (some (.int i), a, h) else none := Rn_iretz c19_15
theorem c20_0 : mcode 20 0 = some (.aload_n 0, 1, 0, 0, 0) := rfl
theorem r20_0 : Rn 20 (0, [some (.ref q), x1, x2], st, a, h) = Rn 20 (1, [some (.ref q), x1, x2], .ref q :: st, a, h) := Rn_go c20_0 rfl
theorem c20_1 : mcode 20 1 = some (.getfield 29, 3, 2, 1, 0) := rfl
theorem r20_1 : Rn 20 (1, [x0, x1, x2], .ref q :: st, a, h) = Kv 20 4 [x0, x1, x2] st a h (mgf h q 2 1) := Rn_getf c20_1 rfl
theorem c20_4 : mcode 20 4 = some (.iconst 1, 1, 0, 0, 0) := rfl
theorem r20_4 : Rn 20 (4, [x0, x1, x2], st, a, h) = Rn 20 (5, [x0, x1, x2], .int (1 : Int32) :: st, a, h) := Rn_go c20_4 rfl
theorem c20_5 : mcode 20 5 = some (.if_icmp .ne 11, 3, 0, 0, 0) := rfl
theorem r20_5 : Rn 20 (5, [x0, x1, x2], .int j :: .int i :: st, a, h) = if i = j then Rn 20 (8, [x0, x1, x2], st, a, h) else Rn 20 (16, [x0, x1, x2], st, a, h) := Rn_icmpn c20_5 mc_ne rfl rfl
theorem c20_8 : mcode 20 8 = some (.aload_n 0, 1, 0, 0, 0) := rfl
theorem r20_8 : Rn 20 (8, [some (.ref q), x1, x2], st, a, h) = Rn 20 (9, [some (.ref q), x1, x2], .ref q :: st, a, h) := Rn_go c20_8 rfl
theorem c20_9 : mcode 20 9 = some (.getfield 113, 3, 2, 4, 0) := rfl
theorem r20_9 : Rn 20 (9, [x0, x1, x2], .ref q :: st, a, h) = Kv 20 12 [x0, x1, x2] st a h (mgf h q 2 4) := Rn_getf c20_9 rfl
theorem c20_12 : mcode 20 12 = some (.iload_n 1, 1, 0, 0, 0) := rfl
theorem r20_12 : Rn 20 (12, [x0, some (.int i), x2], st, a, h) = Rn 20 (13, [x0, some (.int i), x2], .int i :: st, a, h) := Rn_go c20_12 rfl
theorem c20_13 : mcode 20 13 = some (.if_icmp .le 5, 3, 0, 0, 0) := rfl
theorem r20_13 : Rn 20 (13, [x0, x1, x2], .int j :: .int i :: st, a, h) = if j < i then Rn 20 (16, [x0, x1, x2], st, a, h) else Rn 20 (18, [x0, x1, x2], st, a, h) := Rn_icmpn c20_13 mc_le rfl rfl
theorem c20_16 : mcode 20 16 = some (.iconst (-1), 1, 0, 0, 0) := rfl
theorem r20_16 : Rn 20 (16, [x0, x1, x2], st, a, h) = Rn 20 (17, [x0, x1, x2], .int (-1 : Int32) :: st, a, h) := Rn_go c20_16 rfl
theorem c20_17 : mcode 20 17 = some (.ireturn, 1, 0, 0, 0) := rfl
theorem r20_17 : Rn 20 (17, [x0, x1, x2], [.int i], a, h) = some (some (.int i), a, h) := Rn_ireti c20_17
theorem c20_18 : mcode 20 18 = some (.aload_n 0, 1, 0, 0, 0) := rfl
theorem r20_18 : Rn 20 (18, [some (.ref q), x1, x2], st, a, h) = Rn 20 (19, [some (.ref q), x1, x2], .ref q :: st, a, h) := Rn_go c20_18 rfl
theorem c20_19 : mcode 20 19 = some (.getfield 113, 3, 2, 4, 0) := rfl
theorem r20_19 : Rn 20 (19, [x0, x1, x2], .ref q :: st, a, h) = Kv 20 22 [x0, x1, x2] st a h (mgf h q 2 4) := Rn_getf c20_19 rfl
theorem c20_22 : mcode 20 22 = some (.istore_n 2, 1, 0, 0, 0) := rfl
theorem r20_22 : Rn 20 (22, [x0, x1, x2], .int i :: st, a, h) = Nl x1 (Rn 20 (23, [x0, x1, some (.int i)], st, a, h)) := Rn_st1 (k := 2) (v := .int i) x1 c20_22 rfl rfl rfl rfl
theorem c20_23 : mcode 20 23 = some (.aload_n 0, 1, 0, 0, 0) := rfl
theorem r20_23 : Rn 20 (23, [some (.ref q), x1, x2], st, a, h) = Rn 20 (24, [some (.ref q), x1, x2], .ref q :: st, a, h) := Rn_go c20_23 rfl
theorem c20_24 : mcode 20 24 = some (.invokevirtual 22, 3, 23, 0, 2) := rfl
theorem r20_24 : Rn 20 (24, [x0, x1, x2], [.ref q], a, h) = if mis h q 2 = true then Bk 20 27 [x0, x1, x2] [] (Ec 23 [.ref q] a h) else none := Rn_call1 c20_24 rfl (Nat.le_of_ble_eq_true rfl) rfl rfl (Nat.le_of_ble_eq_true rfl)
theorem c20_27 : mcode 20 27 = some (.iload_n 2, 1, 0, 0, 0) := rfl
theorem r20_27 : Rn 20 (27, [x0, x1, some (.int i)], st, a, h) = Rn 20 (28, [x0, x1, some (.int i)], .int i :: st, a, h) := Rn_go c20_27 rfl
theorem c20_28 : mcode 20 28 = some (.ireturn, 1, 0, 0, 0) := rfl
theorem r20_28 : Rn 20 (28, [x0, x1, x2], [.int i], a, h) = some (some (.int i), a, h) := Rn_ireti c20_28
theorem c21_0 : mcode 21 0 = some (.aload_n 0, 1, 0, 0, 0) := rfl
theorem r21_0 : Rn 21 (0, [some (.ref q)], st, a, h) = Rn 21 (1, [some (.ref q)], .ref q :: st, a, h) := Rn_go c21_0 rfl
theorem c21_1 : mcode 21 1 = some (.ldc 116, 2, 1, 0, 0) := rfl
theorem r21_1 : Rn 21 (1, [x0], st, a, h) = Rn 21 (3, [x0], .ref 1000 :: st, a, h) := Rn_go c21_1 rfl
theorem c21_3 : mcode 21 3 = some (.invokevirtual 110, 3, 22, 1, 2) := rfl
theorem r21_3 : Rn 21 (3, [x0], [v0, .ref q], a, h) = if mis h q 2 = true then Bk 21 6 [x0] [] (Ec 22 [.ref q, v0] a h) else none := Rn_call1 c21_3 rfl (Nat.le_of_ble_eq_true rfl) rfl rfl (Nat.le_of_ble_eq_true rfl)
theorem c21_6 : mcode 21 6 = some (.ifCond .eq 5, 3, 0, 0, 0) := rfl
theorem r21_6 : Rn 21 (6, [x0], .int i :: st, a, h) = if i = 0 then Rn 21 (11, [x0], st, a, h) else Rn 21 (9, [x0], st, a, h) := Rn_ifc c21_6 mc_eq rfl rfl
theorem c21_9 : mcode 21 9 = some (.iconst 0, 1, 0, 0, 0) := rfl
theorem r21_9 : Rn 21 (9, [x0], st, a, h) = Rn 21 (10, [x0], .int (0 : Int32) :: st, a, h) := Rn_go c21_9 rfl
theorem c21_10 : mcode 21 10 = some (.ireturn, 1, 0, 0, 0) := rfl
theorem r21_10 : Rn 21 (10, [x0], [.int i], a, h) = some (some (.int i), a, h) := Rn_ireti c21_10
theorem c21_11 : mcode 21 11 = some (.aload_n 0, 1, 0, 0, 0) := rfl
theorem r21_11 : Rn 21 (11, [some (.ref q)], st, a, h) = Rn 21 (12, [some (.ref q)], .ref q :: st, a, h) := Rn_go c21_11 rfl
theorem c21_12 : mcode 21 12 = some (.ldc 118, 2, 1, 1, 0) := rfl
theorem r21_12 : Rn 21 (12, [x0], st, a, h) = Rn 21 (14, [x0], .ref 1001 :: st, a, h) := Rn_go c21_12 rfl
theorem c21_14 : mcode 21 14 = some (.invokevirtual 110, 3, 22, 1, 2) := rfl
theorem r21_14 : Rn 21 (14, [x0], [v0, .ref q], a, h) = if mis h q 2 = true then Bk 21 17 [x0] [] (Ec 22 [.ref q, v0] a h) else none := Rn_call1 c21_14 rfl (Nat.le_of_ble_eq_true rfl) rfl rfl (Nat.le_of_ble_eq_true rfl)
theorem c21_17 : mcode 21 17 = some (.ifCond .eq 5, 3, 0, 0, 0) := rfl
theorem r21_17 : Rn 21 (17, [x0], .int i :: st, a, h) = if i = 0 then Rn 21 (22, [x0], st, a, h) else Rn 21 (20, [x0], st, a, h) := Rn_ifc c21_17 mc_eq rfl rfl
theorem c21_20 : mcode 21 20 = some (.iconst 1, 1, 0, 0, 0) := rfl
theorem r21_20 : Rn 21 (20, [x0], st, a, h) = Rn 21 (21, [x0], .int (1 : Int32) :: st, a, h) := Rn_go c21_20 rfl
theorem c21_21 : mcode 21 21 = some (.ireturn, 1, 0, 0, 0) := rfl
theorem r21_21 : Rn 21 (21, [x0], [.int i], a, h) = some (some (.int i), a, h) := Rn_ireti c21_21
theorem c21_22 : mcode 21 22 = some (.aload_n 0, 1, 0, 0, 0) := rfl
theorem r21_22 : Rn 21 (22, [some (.ref q)], st, a, h) = Rn 21 (23, [some (.ref q)], .ref q :: st, a, h) := Rn_go c21_22 rfl
theorem c21_23 : mcode 21 23 = some (.ldc 120, 2, 1, 2, 0) := rfl
theorem r21_23 : Rn 21 (23, [x0], st, a, h) = Rn 21 (25, [x0], .ref 1002 :: st, a, h) := Rn_go c21_23 rfl
theorem c21_25 : mcode 21 25 = some (.invokevirtual 110, 3, 22, 1, 2) := rfl
theorem r21_25 : Rn 21 (25, [x0], [v0, .ref q], a, h) = if mis h q 2 = true then Bk 21 28 [x0] [] (Ec 22 [.ref q, v0] a h) else none := Rn_call1 c21_25 rfl (Nat.le_of_ble_eq_true rfl) rfl rfl (Nat.le_of_ble_eq_true rfl)
theorem c21_28 : mcode 21 28 = some (.ifCond .eq 5, 3, 0, 0, 0) := rfl
theorem r21_28 : Rn 21 (28, [x0], .int i :: st, a, h) = if i = 0 then Rn 21 (33, [x0], st, a, h) else Rn 21 (31, [x0], st, a, h) := Rn_ifc c21_28 mc_eq rfl rfl
theorem c21_31 : mcode 21 31 = some (.iconst 2, 1, 0, 0, 0) := rfl
theorem r21_31 : Rn 21 (31, [x0], st, a, h) = Rn 21 (32, [x0], .int (2 : Int32) :: st, a, h) := Rn_go c21_31 rfl
theorem c21_32 : mcode 21 32 = some (.ireturn, 1, 0, 0, 0) := rfl
theorem r21_32 : Rn 21 (32, [x0], [.int i], a, h) = some (some (.int i), a, h) := Rn_ireti c21_32
theorem c21_33 : mcode 21 33 = some (.aload_n 0, 1, 0, 0, 0) := rfl
theorem r21_33 : Rn 21 (33, [some (.ref q)], st, a, h) = Rn 21 (34, [some (.ref q)], .ref q :: st, a, h) := Rn_go c21_33 rfl
theorem c21_34 : mcode 21 34 = some (.ldc 122, 2, 1, 3, 0) := rfl
theorem r21_34 : Rn 21 (34, [x0], st, a, h) = Rn 21 (36, [x0], .ref 1003 :: st, a, h) := Rn_go c21_34 rfl
theorem c21_36 : mcode 21 36 = some (.invokevirtual 110, 3, 22, 1, 2) := rfl
theorem r21_36 : Rn 21 (36, [x0], [v0, .ref q], a, h) = if mis h q 2 = true then Bk 21 39 [x0] [] (Ec 22 [.ref q, v0] a h) else none := Rn_call1 c21_36 rfl (Nat.le_of_ble_eq_true rfl) rfl rfl (Nat.le_of_ble_eq_true rfl)
theorem c21_39 : mcode 21 39 = some (.ifCond .eq 5, 3, 0, 0, 0) := rfl
theorem r21_39 : Rn 21 (39, [x0], .int i :: st, a, h) = if i = 0 then Rn 21 (44, [x0], st, a, h) else Rn 21 (42, [x0], st, a, h) := Rn_ifc c21_39 mc_eq rfl rfl
theorem c21_42 : mcode 21 42 = some (.iconst 3, 1, 0, 0, 0) := rfl
theorem r21_42 : Rn 21 (42, [x0], st, a, h) = Rn 21 (43, [x0], .int (3 : Int32) :: st, a, h) := Rn_go c21_42 rfl
theorem c21_43 : mcode 21 43 = some (.ireturn, 1, 0, 0, 0) := rfl
theorem r21_43 : Rn 21 (43, [x0], [.int i], a, h) = some (some (.int i), a, h) := Rn_ireti c21_43
theorem c21_44 : mcode 21 44 = some (.aload_n 0, 1, 0, 0, 0) := rfl
theorem r21_44 : Rn 21 (44, [some (.ref q)], st, a, h) = Rn 21 (45, [some (.ref q)], .ref q :: st, a, h) := Rn_go c21_44 rfl
theorem c21_45 : mcode 21 45 = some (.ldc 124, 2, 1, 4, 0) := rfl
theorem r21_45 : Rn 21 (45, [x0], st, a, h) = Rn 21 (47, [x0], .ref 1004 :: st, a, h) := Rn_go c21_45 rfl
theorem c21_47 : mcode 21 47 = some (.invokevirtual 110, 3, 22, 1, 2) := rfl
theorem r21_47 : Rn 21 (47, [x0], [v0, .ref q], a, h) = if mis h q 2 = true then Bk 21 50 [x0] [] (Ec 22 [.ref q, v0] a h) else none := Rn_call1 c21_47 rfl (Nat.le_of_ble_eq_true rfl) rfl rfl (Nat.le_of_ble_eq_true rfl)
theorem c21_50 : mcode 21 50 = some (.ifCond .eq 5, 3, 0, 0, 0) := rfl
theorem r21_50 : Rn 21 (50, [x0], .int i :: st, a, h) = if i = 0 then Rn 21 (55, [x0], st, a, h) else Rn 21 (53, [x0], st, a, h) := Rn_ifc c21_50 mc_eq rfl rfl
theorem c21_53 : mcode 21 53 = some (.iconst 4, 1, 0, 0, 0) := rfl
theorem r21_53 : Rn 21 (53, [x0], st, a, h) = Rn 21 (54, [x0], .int (4 : Int32) :: st, a, h) := Rn_go c21_53 rfl
theorem c21_54 : mcode 21 54 = some (.ireturn, 1, 0, 0, 0) := rfl
theorem r21_54 : Rn 21 (54, [x0], [.int i], a, h) = some (some (.int i), a, h) := Rn_ireti c21_54
theorem c21_55 : mcode 21 55 = some (.aload_n 0, 1, 0, 0, 0) := rfl
theorem r21_55 : Rn 21 (55, [some (.ref q)], st, a, h) = Rn 21 (56, [some (.ref q)], .ref q :: st, a, h) := Rn_go c21_55 rfl
theorem c21_56 : mcode 21 56 = some (.ldc 126, 2, 1, 5, 0) := rfl
theorem r21_56 : Rn 21 (56, [x0], st, a, h) = Rn 21 (58, [x0], .ref 1005 :: st, a, h) := Rn_go c21_56 rfl
theorem c21_58 : mcode 21 58 = some (.invokevirtual 110, 3, 22, 1, 2) := rfl
theorem r21_58 : Rn 21 (58, [x0], [v0, .ref q], a, h) = if mis h q 2 = true then Bk 21 61 [x0] [] (Ec 22 [.ref q, v0] a h) else none := Rn_call1 c21_58 rfl (Nat.le_of_ble_eq_true rfl) rfl rfl (Nat.le_of_ble_eq_true rfl)
theorem c21_61 : mcode 21 61 = some (.ifCond .eq 5, 3, 0, 0, 0) := rfl
theorem r21_61 : Rn 21 (61, [x0], .int i :: st, a, h) = if i = 0 then Rn 21 (66, [x0], st, a, h) else Rn 21 (64, [x0], st, a, h) := Rn_ifc c21_61 mc_eq rfl rfl
theorem c21_64 : mcode 21 64 = some (.iconst 5, 1, 0, 0, 0) := rfl
theorem r21_64 : Rn 21 (64, [x0], st, a, h) = Rn 21 (65, [x0], .int (5 : Int32) :: st, a, h) := Rn_go c21_64 rfl
theorem c21_65 : mcode 21 65 = some (.ireturn, 1, 0, 0, 0) := rfl
theorem r21_65 : Rn 21 (65, [x0], [.int i], a, h) = some (some (.int i), a, h) := Rn_ireti c21_65
theorem c21_66 : mcode 21 66 = some (.aload_n 0, 1, 0, 0, 0) := rfl
theorem r21_66 : Rn 21 (66, [some (.ref q)], st, a, h) = Rn 21 (67, [some (.ref q)], .ref q :: st, a, h) := Rn_go c21_66 rfl
theorem c21_67 : mcode 21 67 = some (.ldc 128, 2, 1, 6, 0) := rfl
theorem r21_67 : Rn 21 (67, [x0], st, a, h) = Rn 21 (69, [x0], .ref 1006 :: st, a, h) := Rn_go c21_67 rfl
theorem c21_69 : mcode 21 69 = some (.invokevirtual 110, 3, 22, 1, 2) := rfl
theorem r21_69 : Rn 21 (69, [x0], [v0, .ref q], a, h) = if mis h q 2 = true then Bk 21 72 [x0] [] (Ec 22 [.ref q, v0] a h) else none := Rn_call1 c21_69 rfl (Nat.le_of_ble_eq_true rfl) rfl rfl (Nat.le_of_ble_eq_true rfl)
theorem c21_72 : mcode 21 72 = some (.ifCond .eq 8, 3, 0, 0, 0) := rfl
theorem r21_72 : Rn 21 (72, [x0], .int i :: st, a, h) = if i = 0 then Rn 21 (80, [x0], st, a, h) else Rn 21 (75, [x0], st, a, h) := Rn_ifc c21_72 mc_eq rfl rfl
theorem c21_75 : mcode 21 75 = some (.bipush 6, 2, 0, 0, 0) := rfl
theorem r21_75 : Rn 21 (75, [x0], st, a, h) = Rn 21 (77, [x0], .int (6 : Int32) :: st, a, h) := Rn_go c21_75 rfl
theorem c21_77 : mcode 21 77 = some (.goto 4, 3, 0, 0, 0) := rfl
theorem r21_77 : Rn 21 (77, [x0], st, a, h) = Rn 21 (81, [x0], st, a, h) := Rn_goto c21_77 rfl
theorem c21_80 : mcode 21 80 = some (.iconst (-1), 1, 0, 0, 0) := rfl
theorem r21_80 : Rn 21 (80, [x0], st, a, h) = Rn 21 (81, [x0], .int (-1 : Int32) :: st, a, h) := Rn_go c21_80 rfl
theorem c21_81 : mcode 21 81 = some (.ireturn, 1, 0, 0, 0) := rfl
theorem r21_81 : Rn 21 (81, [x0], [.int i], a, h) = some (some (.int i), a, h) := Rn_ireti c21_81
theorem c22_0 : mcode 22 0 = some (.aload_n 0, 1, 0, 0, 0) := rfl
theorem r22_0 : Rn 22 (0, [some (.ref q), x1, x2], st, a, h) = Rn 22 (1, [some (.ref q), x1, x2], .ref q :: st, a, h) := Rn_go c22_0 rfl
theorem c22_1 : mcode 22 1 = some (.getfield 29, 3, 2, 1, 0) := rfl
theorem r22_1 : Rn 22 (1, [x0, x1, x2], .ref q :: st, a, h) = Kv 22 4 [x0, x1, x2] st a h (mgf h q 2 1) := Rn_getf c22_1 rfl
theorem c22_4 : mcode 22 4 = some (.ifCond .ne 19, 3, 0, 0, 0) := rfl
theorem r22_4 : Rn 22 (4, [x0, x1, x2], .int i :: st, a, h) = if i = 0 then Rn 22 (7, [x0, x1, x2], st, a, h) else Rn 22 (23, [x0, x1, x2], st, a, h) := Rn_ifcn c22_4 mc_ne rfl rfl
theorem c22_7 : mcode 22 7 = some (.aload_n 0, 1, 0, 0, 0) := rfl
theorem r22_7 : Rn 22 (7, [some (.ref q), x1, x2], st, a, h) = Rn 22 (8, [some (.ref q), x1, x2], .ref q :: st, a, h) := Rn_go c22_7 rfl
theorem c22_8 : mcode 22 8 = some (.getfield 18, 3, 2, 3, 0) := rfl
theorem r22_8 : Rn 22 (8, [x0, x1, x2], .ref q :: st, a, h) = Kv 22 11 [x0, x1, x2] st a h (mgf h q 2 3) := Rn_getf c22_8 rfl
theorem c22_11 : mcode 22 11 = some (.aload_n 0, 1, 0, 0, 0) := rfl
theorem r22_11 : Rn 22 (11, [some (.ref q), x1, x2], st, a, h) = Rn 22 (12, [some (.ref q), x1, x2], .ref q :: st, a, h) := Rn_go c22_11 rfl
theorem c22_12 : mcode 22 12 = some (.getfield 32, 3, 2, 2, 0) := rfl
theorem r22_12 : Rn 22 (12, [x0, x1, x2], .ref q :: st, a, h) = Kv 22 15 [x0, x1, x2] st a h (mgf h q 2 2) := Rn_getf c22_12 rfl
theorem c22_15 : mcode 22 15 = some (.isub, 1, 0, 0, 0) := rfl
theorem r22_15 : Rn 22 (15, [x0, x1, x2], .int j :: .int i :: st, a, h) = Rn 22 (16, [x0, x1, x2], .int (i - j) :: st, a, h) := Rn_go c22_15 rfl
theorem c22_16 : mcode 22 16 = some (.aload_n 1, 1, 0, 0, 0) := rfl
theorem r22_16 : Rn 22 (16, [x0, some (.ref q), x2], st, a, h) = Rn 22 (17, [x0, some (.ref q), x2], .ref q :: st, a, h) := Rn_go c22_16 rfl
theorem c22_17 : mcode 22 17 = some (.invokevirtual 130, 3, 229, 0, 7) := rfl
theorem r22_17 : Rn 22 (17, [x0, x1, x2], [.ref q, .int i0], a, h) = if mis h q 7 = true then Bk 22 20 [x0, x1, x2] [.int i0] (Ec 229 [.ref q] a h) else none := Rn_call1 c22_17 rfl (Nat.le_of_ble_eq_true rfl) rfl rfl (Nat.le_of_ble_eq_true rfl)
theorem c22_20 : mcode 22 20 = some (.if_icmp .eq 5, 3, 0, 0, 0) := rfl
theorem r22_20 : Rn 22 (20, [x0, x1, x2], .int j :: .int i :: st, a, h) = if i = j then Rn 22 (25, [x0, x1, x2], st, a, h) else Rn 22 (23, [x0, x1, x2], st, a, h) := Rn_icmp c22_20 mc_eq rfl rfl
theorem c22_23 : mcode 22 23 = some (.iconst 0, 1, 0, 0, 0) := rfl
theorem r22_23 : Rn 22 (23, [x0, x1, x2], st, a, h) = Rn 22 (24, [x0, x1, x2], .int (0 : Int32) :: st, a, h) := Rn_go c22_23 rfl
theorem c22_24 : mcode 22 24 = some (.ireturn, 1, 1, 0, 0) := rfl
theorem r22_24 : Rn 22 (24, [x0, x1, x2], [.int i], a, h) = if mrt 1 i = true then some (some (.int i), a, h) else none := Rn_iretz c22_24
theorem c22_25 : mcode 22 25 = some (.iconst 0, 1, 0, 0, 0) := rfl
theorem r22_25 : Rn 22 (25, [x0, x1, x2], st, a, h) = Rn 22 (26, [x0, x1, x2], .int (0 : Int32) :: st, a, h) := Rn_go c22_25 rfl
theorem c22_26 : mcode 22 26 = some (.istore_n 2, 1, 0, 0, 0) := rfl
theorem r22_26 : Rn 22 (26, [x0, x1, x2], .int i :: st, a, h) = Nl x1 (Rn 22 (27, [x0, x1, some (.int i)], st, a, h)) := Rn_st1 (k := 2) (v := .int i) x1 c22_26 rfl rfl rfl rfl
theorem c22_27 : mcode 22 27 = some (.iload_n 2, 1, 0, 0, 0) := rfl
theorem r22_27 : Rn 22 (27, [x0, x1, some (.int i)], st, a, h) = Rn 22 (28, [x0, x1, some (.int i)], .int i :: st, a, h) := Rn_go c22_27 rfl
theorem c22_28 : mcode 22 28 = some (.aload_n 1, 1, 0, 0, 0) := rfl
theorem r22_28 : Rn 22 (28, [x0, some (.ref q), x2], st, a, h) = Rn 22 (29, [x0, some (.ref q), x2], .ref q :: st, a, h) := Rn_go c22_28 rfl
theorem c22_29 : mcode 22 29 = some (.invokevirtual 130, 3, 229, 0, 7) := rfl
theorem r22_29 : Rn 22 (29, [x0, x1, x2], [.ref q, .int i0], a, h) = if mis h q 7 = true then Bk 22 32 [x0, x1, x2] [.int i0] (Ec 229 [.ref q] a h) else none := Rn_call1 c22_29 rfl (Nat.le_of_ble_eq_true rfl) rfl rfl (Nat.le_of_ble_eq_true rfl)
theorem c22_32 : mcode 22 32 = some (.if_icmp .ge 32, 3, 0, 0, 0) := rfl
theorem r22_32 : Rn 22 (32, [x0, x1, x2], .int j :: .int i :: st, a, h) = if i < j then Rn 22 (35, [x0, x1, x2], st, a, h) else Rn 22 (64, [x0, x1, x2], st, a, h) := Rn_icmpn c22_32 mc_ge rfl rfl
theorem c22_35 : mcode 22 35 = some (.aload_n 0, 1, 0, 0, 0) := rfl
theorem r22_35 : Rn 22 (35, [some (.ref q), x1, x2], st, a, h) = Rn 22 (36, [some (.ref q), x1, x2], .ref q :: st, a, h) := Rn_go c22_35 rfl
theorem c22_36 : mcode 22 36 = some (.getfield 12, 3, 2, 0, 0) := rfl
theorem r22_36 : Rn 22 (36, [x0, x1, x2], .ref q :: st, a, h) = Kv 22 39 [x0, x1, x2] st a h (mgf h q 2 0) := Rn_getf c22_36 rfl
theorem c22_39 : mcode 22 39 = some (.aload_n 0, 1, 0, 0, 0) := rfl
theorem r22_39 : Rn 22 (39, [some (.ref q), x1, x2], st, a, h) = Rn 22 (40, [some (.ref q), x1, x2], .ref q :: st, a, h) := Rn_go c22_39 rfl
theorem c22_40 : mcode 22 40 = some (.getfield 32, 3, 2, 2, 0) := rfl
theorem r22_40 : Rn 22 (40, [x0, x1, x2], .ref q :: st, a, h) = Kv 22 43 [x0, x1, x2] st a h (mgf h q 2 2) := Rn_getf c22_40 rfl
theorem c22_43 : mcode 22 43 = some (.iload_n 2, 1, 0, 0, 0) := rfl
theorem r22_43 : Rn 22 (43, [x0, x1, some (.int i)], st, a, h) = Rn 22 (44, [x0, x1, some (.int i)], .int i :: st, a, h) := Rn_go c22_43 rfl
theorem c22_44 : mcode 22 44 = some (.iadd, 1, 0, 0, 0) := rfl
theorem r22_44 : Rn 22 (44, [x0, x1, x2], .int j :: .int i :: st, a, h) = Rn 22 (45, [x0, x1, x2], .int (i + j) :: st, a, h) := Rn_go c22_44 rfl
theorem c22_45 : mcode 22 45 = some (.invokevirtual 135, 3, 10, 1, 1) := rfl
theorem r22_45 : Rn 22 (45, [x0, x1, x2], [v0, .ref q], a, h) = if mis h q 1 = true then Bk 22 48 [x0, x1, x2] [] (Ec 10 [.ref q, v0] a h) else none := Rn_call1 c22_45 rfl (Nat.le_of_ble_eq_true rfl) rfl rfl (Nat.le_of_ble_eq_true rfl)
theorem c22_48 : mcode 22 48 = some (.aload_n 1, 1, 0, 0, 0) := rfl
theorem r22_48 : Rn 22 (48, [x0, some (.ref q), x2], st, a, h) = Rn 22 (49, [x0, some (.ref q), x2], .ref q :: st, a, h) := Rn_go c22_48 rfl
theorem c22_49 : mcode 22 49 = some (.iload_n 2, 1, 0, 0, 0) := rfl
theorem r22_49 : Rn 22 (49, [x0, x1, some (.int i)], st, a, h) = Rn 22 (50, [x0, x1, some (.int i)], .int i :: st, a, h) := Rn_go c22_49 rfl
theorem c22_50 : mcode 22 50 = some (.invokevirtual 138, 3, 230, 1, 7) := rfl
theorem r22_50 : Rn 22 (50, [x0, x1, x2], [v0, .ref q, .int i0], a, h) = if mis h q 7 = true then Bk 22 53 [x0, x1, x2] [.int i0] (Ec 230 [.ref q, v0] a h) else none := Rn_call1 c22_50 rfl (Nat.le_of_ble_eq_true rfl) rfl rfl (Nat.le_of_ble_eq_true rfl)
theorem c22_53 : mcode 22 53 = some (.if_icmp .eq 5, 3, 0, 0, 0) := rfl
theorem r22_53 : Rn 22 (53, [x0, x1, x2], .int j :: .int i :: st, a, h) = if i = j then Rn 22 (58, [x0, x1, x2], st, a, h) else Rn 22 (56, [x0, x1, x2], st, a, h) := Rn_icmp c22_53 mc_eq rfl rfl
theorem c22_56 : mcode 22 56 = some (.iconst 0, 1, 0, 0, 0) := rfl
theorem r22_56 : Rn 22 (56, [x0, x1, x2], st, a, h) = Rn 22 (57, [x0, x1, x2], .int (0 : Int32) :: st, a, h) := Rn_go c22_56 rfl
theorem c22_57 : mcode 22 57 = some (.ireturn, 1, 1, 0, 0) := rfl
theorem r22_57 : Rn 22 (57, [x0, x1, x2], [.int i], a, h) = if mrt 1 i = true then some (some (.int i), a, h) else none := Rn_iretz c22_57
theorem c22_58 : mcode 22 58 = some (.iinc 2 1, 3, 0, 0, 0) := rfl
theorem r22_58 : Rn 22 (58, [x0, x1, some (.int i)], st, a, h) = Nl x1 (Rn 22 (61, [x0, x1, some (.int (i + (1 : Int32)))], st, a, h)) := Rn_st1 (k := 2) (v := .int (i + (1 : Int32))) x1 c22_58 rfl rfl rfl rfl
theorem c22_61 : mcode 22 61 = some (.goto (-34), 3, 0, 0, 0) := rfl
theorem r22_61 : Rn 22 (61, [x0, x1, x2], st, a, h) = Rn 22 (27, [x0, x1, x2], st, a, h) := Rn_goto c22_61 rfl
theorem c22_64 : mcode 22 64 = some (.iconst 1, 1, 0, 0, 0) := rfl
theorem r22_64 : Rn 22 (64, [x0, x1, x2], st, a, h) = Rn 22 (65, [x0, x1, x2], .int (1 : Int32) :: st, a, h) := Rn_go c22_64 rfl
theorem c22_65 : mcode 22 65 = some (.ireturn, 1, 1, 0, 0) := rfl
theorem r22_65 : Rn 22 (65, [x0, x1, x2], [.int i], a, h) = if mrt 1 i = true then some (some (.int i), a, h) else none := Rn_iretz c22_65
theorem c23_0 : mcode 23 0 = some (.aload_n 0, 1, 0, 0, 0) := rfl
theorem r23_0 : Rn 23 (0, [some (.ref q)], st, a, h) = Rn 23 (1, [some (.ref q)], .ref q :: st, a, h) := Rn_go c23_0 rfl
theorem c23_1 : mcode 23 1 = some (.aload_n 0, 1, 0, 0, 0) := rfl
theorem r23_1 : Rn 23 (1, [some (.ref q)], st, a, h) = Rn 23 (2, [some (.ref q)], .ref q :: st, a, h) := Rn_go c23_1 rfl
theorem c23_2 : mcode 23 2 = some (.getfield 18, 3, 2, 3, 0) := rfl
theorem r23_2 : Rn 23 (2, [x0], .ref q :: st, a, h) = Kv 23 5 [x0] st a h (mgf h q 2 3) := Rn_getf c23_2 rfl
theorem c23_5 : mcode 23 5 = some (.putfield 32, 3, 2, 2, 0) := rfl
theorem r23_5 : Rn 23 (5, [x0], .int i :: .ref q :: st, a, h) = Kh 23 8 [x0] st a (mpf h q 2 2 (.int i)) := Rn_putfi c23_5 rfl rfl
theorem c23_8 : mcode 23 8 = some (.aload_n 0, 1, 0, 0, 0) := rfl
theorem r23_8 : Rn 23 (8, [some (.ref q)], st, a, h) = Rn 23 (9, [some (.ref q)], .ref q :: st, a, h) := Rn_go c23_8 rfl
theorem c23_9 : mcode 23 9 = some (.getfield 32, 3, 2, 2, 0) := rfl
theorem r23_9 : Rn 23 (9, [x0], .ref q :: st, a, h) = Kv 23 12 [x0] st a h (mgf h q 2 2) := Rn_getf c23_9 rfl
theorem c23_12 : mcode 23 12 = some (.aload_n 0, 1, 0, 0, 0) := rfl
theorem r23_12 : Rn 23 (12, [some (.ref q)], st, a, h) = Rn 23 (13, [some (.ref q)], .ref q :: st, a, h) := Rn_go c23_12 rfl
theorem c23_13 : mcode 23 13 = some (.getfield 12, 3, 2, 0, 0) := rfl
theorem r23_13 : Rn 23 (13, [x0], .ref q :: st, a, h) = Kv 23 16 [x0] st a h (mgf h q 2 0) := Rn_getf c23_13 rfl
theorem c23_16 : mcode 23 16 = some (.getfield 142, 3, 1, 1, 0) := rfl
theorem r23_16 : Rn 23 (16, [x0], .ref q :: st, a, h) = Kv 23 19 [x0] st a h (mgf h q 1 1) := Rn_getf c23_16 rfl
theorem c23_19 : mcode 23 19 = some (.if_icmp .ge 32, 3, 0, 0, 0) := rfl
theorem r23_19 : Rn 23 (19, [x0], .int j :: .int i :: st, a, h) = if i < j then Rn 23 (22, [x0], st, a, h) else Rn 23 (51, [x0], st, a, h) := Rn_icmpn c23_19 mc_ge rfl rfl
theorem c23_22 : mcode 23 22 = some (.aload_n 0, 1, 0, 0, 0) := rfl
theorem r23_22 : Rn 23 (22, [some (.ref q)], st, a, h) = Rn 23 (23, [some (.ref q)], .ref q :: st, a, h) := Rn_go c23_22 rfl
theorem c23_23 : mcode 23 23 = some (.getfield 12, 3, 2, 0, 0) := rfl
theorem r23_23 : Rn 23 (23, [x0], .ref q :: st, a, h) = Kv 23 26 [x0] st a h (mgf h q 2 0) := Rn_getf c23_23 rfl
theorem c23_26 : mcode 23 26 = some (.aload_n 0, 1, 0, 0, 0) := rfl
theorem r23_26 : Rn 23 (26, [some (.ref q)], st, a, h) = Rn 23 (27, [some (.ref q)], .ref q :: st, a, h) := Rn_go c23_26 rfl
theorem c23_27 : mcode 23 27 = some (.getfield 32, 3, 2, 2, 0) := rfl
theorem r23_27 : Rn 23 (27, [x0], .ref q :: st, a, h) = Kv 23 30 [x0] st a h (mgf h q 2 2) := Rn_getf c23_27 rfl
theorem c23_30 : mcode 23 30 = some (.invokevirtual 135, 3, 10, 1, 1) := rfl
theorem r23_30 : Rn 23 (30, [x0], [v0, .ref q], a, h) = if mis h q 1 = true then Bk 23 33 [x0] [] (Ec 10 [.ref q, v0] a h) else none := Rn_call1 c23_30 rfl (Nat.le_of_ble_eq_true rfl) rfl rfl (Nat.le_of_ble_eq_true rfl)
theorem c23_33 : mcode 23 33 = some (.bipush 32, 2, 0, 0, 0) := rfl
theorem r23_33 : Rn 23 (33, [x0], st, a, h) = Rn 23 (35, [x0], .int (32 : Int32) :: st, a, h) := Rn_go c23_33 rfl
theorem c23_35 : mcode 23 35 = some (.if_icmp .ne 16, 3, 0, 0, 0) := rfl
theorem r23_35 : Rn 23 (35, [x0], .int j :: .int i :: st, a, h) = if i = j then Rn 23 (38, [x0], st, a, h) else Rn 23 (51, [x0], st, a, h) := Rn_icmpn c23_35 mc_ne rfl rfl
theorem c23_38 : mcode 23 38 = some (.aload_n 0, 1, 0, 0, 0) := rfl
theorem r23_38 : Rn 23 (38, [some (.ref q)], st, a, h) = Rn 23 (39, [some (.ref q)], .ref q :: st, a, h) := Rn_go c23_38 rfl
theorem c23_39 : mcode 23 39 = some (.dup, 1, 0, 0, 0) := rfl
theorem r23_39 : Rn 23 (39, [x0], .ref q :: st, a, h) = Rn 23 (40, [x0], .ref q :: .ref q :: st, a, h) := Rn_go c23_39 rfl
theorem c23_40 : mcode 23 40 = some (.getfield 32, 3, 2, 2, 0) := rfl
theorem r23_40 : Rn 23 (40, [x0], .ref q :: st, a, h) = Kv 23 43 [x0] st a h (mgf h q 2 2) := Rn_getf c23_40 rfl
theorem c23_43 : mcode 23 43 = some (.iconst 1, 1, 0, 0, 0) := rfl
theorem r23_43 : Rn 23 (43, [x0], st, a, h) = Rn 23 (44, [x0], .int (1 : Int32) :: st, a, h) := Rn_go c23_43 rfl
theorem c23_44 : mcode 23 44 = some (.iadd, 1, 0, 0, 0) := rfl
theorem r23_44 : Rn 23 (44, [x0], .int j :: .int i :: st, a, h) = Rn 23 (45, [x0], .int (i + j) :: st, a, h) := Rn_go c23_44 rfl
theorem c23_45 : mcode 23 45 = some (.putfield 32, 3, 2, 2, 0) := rfl
theorem r23_45 : Rn 23 (45, [x0], .int i :: .ref q :: st, a, h) = Kh 23 48 [x0] st a (mpf h q 2 2 (.int i)) := Rn_putfi c23_45 rfl rfl
theorem c23_48 : mcode 23 48 = some (.goto (-40), 3, 0, 0, 0) := rfl
theorem r23_48 : Rn 23 (48, [x0], st, a, h) = Rn 23 (8, [x0], st, a, h) := Rn_goto c23_48 rfl
theorem c23_51 : mcode 23 51 = some (.aload_n 0, 1, 0, 0, 0) := rfl
theorem r23_51 : Rn 23 (51, [some (.ref q)], st, a, h) = Rn 23 (52, [some (.ref q)], .ref q :: st, a, h) := Rn_go c23_51 rfl
theorem c23_52 : mcode 23 52 = some (.aload_n 0, 1, 0, 0, 0) := rfl
theorem r23_52 : Rn 23 (52, [some (.ref q)], st, a, h) = Rn 23 (53, [some (.ref q)], .ref q :: st, a, h) := Rn_go c23_52 rfl
theorem c23_53 : mcode 23 53 = some (.getfield 32, 3, 2, 2, 0) := rfl
theorem r23_53 : Rn 23 (53, [x0], .ref q :: st, a, h) = Kv 23 56 [x0] st a h (mgf h q 2 2) := Rn_getf c23_53 rfl
theorem c23_56 : mcode 23 56 = some (.putfield 18, 3, 2, 3, 0) := rfl
theorem r23_56 : Rn 23 (56, [x0], .int i :: .ref q :: st, a, h) = Kh 23 59 [x0] st a (mpf h q 2 3 (.int i)) := Rn_putfi c23_56 rfl rfl
theorem c23_59 : mcode 23 59 = some (.aload_n 0, 1, 0, 0, 0) := rfl
theorem r23_59 : Rn 23 (59, [some (.ref q)], st, a, h) = Rn 23 (60, [some (.ref q)], .ref q :: st, a, h) := Rn_go c23_59 rfl
theorem c23_60 : mcode 23 60 = some (.getfield 32, 3, 2, 2, 0) := rfl
theorem r23_60 : Rn 23 (60, [x0], .ref q :: st, a, h) = Kv 23 63 [x0] st a h (mgf h q 2 2) := Rn_getf c23_60 rfl
theorem c23_63 : mcode 23 63 = some (.aload_n 0, 1, 0, 0, 0) := rfl
theorem r23_63 : Rn 23 (63, [some (.ref q)], st, a, h) = Rn 23 (64, [some (.ref q)], .ref q :: st, a, h) := Rn_go c23_63 rfl
theorem c23_64 : mcode 23 64 = some (.getfield 12, 3, 2, 0, 0) := rfl
theorem r23_64 : Rn 23 (64, [x0], .ref q :: st, a, h) = Kv 23 67 [x0] st a h (mgf h q 2 0) := Rn_getf c23_64 rfl
theorem c23_67 : mcode 23 67 = some (.getfield 142, 3, 1, 1, 0) := rfl
theorem r23_67 : Rn 23 (67, [x0], .ref q :: st, a, h) = Kv 23 70 [x0] st a h (mgf h q 1 1) := Rn_getf c23_67 rfl
theorem c23_70 : mcode 23 70 = some (.if_icmp .lt 11, 3, 0, 0, 0) := rfl
theorem r23_70 : Rn 23 (70, [x0], .int j :: .int i :: st, a, h) = if i < j then Rn 23 (81, [x0], st, a, h) else Rn 23 (73, [x0], st, a, h) := Rn_icmp c23_70 mc_lt rfl rfl
theorem c23_73 : mcode 23 73 = some (.aload_n 0, 1, 0, 0, 0) := rfl
theorem r23_73 : Rn 23 (73, [some (.ref q)], st, a, h) = Rn 23 (74, [some (.ref q)], .ref q :: st, a, h) := Rn_go c23_73 rfl
theorem c23_74 : mcode 23 74 = some (.iconst 3, 1, 0, 0, 0) := rfl
theorem r23_74 : Rn 23 (74, [x0], st, a, h) = Rn 23 (75, [x0], .int (3 : Int32) :: st, a, h) := Rn_go c23_74 rfl
theorem c23_75 : mcode 23 75 = some (.putfield 29, 3, 2, 1, 0) := rfl
theorem r23_75 : Rn 23 (75, [x0], .int i :: .ref q :: st, a, h) = Kh 23 78 [x0] st a (mpf h q 2 1 (.int i)) := Rn_putfi c23_75 rfl rfl
theorem c23_78 : mcode 23 78 = some (.goto 207, 3, 0, 0, 0) := rfl
theorem r23_78 : Rn 23 (78, [x0], st, a, h) = Rn 23 (285, [x0], st, a, h) := Rn_goto c23_78 rfl
theorem c23_81 : mcode 23 81 = some (.aload_n 0, 1, 0, 0, 0) := rfl
theorem r23_81 : Rn 23 (81, [some (.ref q)], st, a, h) = Rn 23 (82, [some (.ref q)], .ref q :: st, a, h) := Rn_go c23_81 rfl
theorem c23_82 : mcode 23 82 = some (.getfield 12, 3, 2, 0, 0) := rfl
theorem r23_82 : Rn 23 (82, [x0], .ref q :: st, a, h) = Kv 23 85 [x0] st a h (mgf h q 2 0) := Rn_getf c23_82 rfl
theorem c23_85 : mcode 23 85 = some (.aload_n 0, 1, 0, 0, 0) := rfl
theorem r23_85 : Rn 23 (85, [some (.ref q)], st, a, h) = Rn 23 (86, [some (.ref q)], .ref q :: st, a, h) := Rn_go c23_85 rfl
theorem c23_86 : mcode 23 86 = some (.getfield 32, 3, 2, 2, 0) := rfl
theorem r23_86 : Rn 23 (86, [x0], .ref q :: st, a, h) = Kv 23 89 [x0] st a h (mgf h q 2 2) := Rn_getf c23_86 rfl
theorem c23_89 : mcode 23 89 = some (.invokevirtual 135, 3, 10, 1, 1) := rfl
theorem r23_89 : Rn 23 (89, [x0], [v0, .ref q], a, h) = if mis h q 1 = true then Bk 23 92 [x0] [] (Ec 10 [.ref q, v0] a h) else none := Rn_call1 c23_89 rfl (Nat.le_of_ble_eq_true rfl) rfl rfl (Nat.le_of_ble_eq_true rfl)
theorem c23_92 : mcode 23 92 = some (.invokestatic 144, 3, 24, 1, 0) := rfl
theorem r23_92 : Rn 23 (92, [x0], [v0], a, h) = Bk 23 95 [x0] [] (Ec 24 [v0] a h) := Rn_call0 c23_92 (fun z => nomatch z) rfl (Nat.le_of_ble_eq_true rfl) rfl rfl (Nat.le_of_ble_eq_true rfl)
theorem c23_95 : mcode 23 95 = some (.ifCond .eq 52, 3, 0, 0, 0) := rfl
theorem r23_95 : Rn 23 (95, [x0], .int i :: st, a, h) = if i = 0 then Rn 23 (147, [x0], st, a, h) else Rn 23 (98, [x0], st, a, h) := Rn_ifc c23_95 mc_eq rfl rfl
theorem c23_98 : mcode 23 98 = some (.aload_n 0, 1, 0, 0, 0) := rfl
theorem r23_98 : Rn 23 (98, [some (.ref q)], st, a, h) = Rn 23 (99, [some (.ref q)], .ref q :: st, a, h) := Rn_go c23_98 rfl
theorem c23_99 : mcode 23 99 = some (.iconst 0, 1, 0, 0, 0) := rfl
theorem r23_99 : Rn 23 (99, [x0], st, a, h) = Rn 23 (100, [x0], .int (0 : Int32) :: st, a, h) := Rn_go c23_99 rfl
theorem c23_100 : mcode 23 100 = some (.putfield 29, 3, 2, 1, 0) := rfl
theorem r23_100 : Rn 23 (100, [x0], .int i :: .ref q :: st, a, h) = Kh 23 103 [x0] st a (mpf h q 2 1 (.int i)) := Rn_putfi c23_100 rfl rfl
theorem c23_103 : mcode 23 103 = some (.aload_n 0, 1, 0, 0, 0) := rfl
theorem r23_103 : Rn 23 (103, [some (.ref q)], st, a, h) = Rn 23 (104, [some (.ref q)], .ref q :: st, a, h) := Rn_go c23_103 rfl
theorem c23_104 : mcode 23 104 = some (.getfield 18, 3, 2, 3, 0) := rfl
theorem r23_104 : Rn 23 (104, [x0], .ref q :: st, a, h) = Kv 23 107 [x0] st a h (mgf h q 2 3) := Rn_getf c23_104 rfl
theorem c23_107 : mcode 23 107 = some (.aload_n 0, 1, 0, 0, 0) := rfl
theorem r23_107 : Rn 23 (107, [some (.ref q)], st, a, h) = Rn 23 (108, [some (.ref q)], .ref q :: st, a, h) := Rn_go c23_107 rfl
theorem c23_108 : mcode 23 108 = some (.getfield 12, 3, 2, 0, 0) := rfl
theorem r23_108 : Rn 23 (108, [x0], .ref q :: st, a, h) = Kv 23 111 [x0] st a h (mgf h q 2 0) := Rn_getf c23_108 rfl
theorem c23_111 : mcode 23 111 = some (.getfield 142, 3, 1, 1, 0) := rfl
theorem r23_111 : Rn 23 (111, [x0], .ref q :: st, a, h) = Kv 23 114 [x0] st a h (mgf h q 1 1) := Rn_getf c23_111 rfl
theorem c23_114 : mcode 23 114 = some (.if_icmp .ge 171, 3, 0, 0, 0) := rfl
theorem r23_114 : Rn 23 (114, [x0], .int j :: .int i :: st, a, h) = if i < j then Rn 23 (117, [x0], st, a, h) else Rn 23 (285, [x0], st, a, h) := Rn_icmpn c23_114 mc_ge rfl rfl
theorem c23_117 : mcode 23 117 = some (.aload_n 0, 1, 0, 0, 0) := rfl
theorem r23_117 : Rn 23 (117, [some (.ref q)], st, a, h) = Rn 23 (118, [some (.ref q)], .ref q :: st, a, h) := Rn_go c23_117 rfl
theorem c23_118 : mcode 23 118 = some (.getfield 12, 3, 2, 0, 0) := rfl
theorem r23_118 : Rn 23 (118, [x0], .ref q :: st, a, h) = Kv 23 121 [x0] st a h (mgf h q 2 0) := Rn_getf c23_118 rfl
theorem c23_121 : mcode 23 121 = some (.aload_n 0, 1, 0, 0, 0) := rfl
theorem r23_121 : Rn 23 (121, [some (.ref q)], st, a, h) = Rn 23 (122, [some (.ref q)], .ref q :: st, a, h) := Rn_go c23_121 rfl
theorem c23_122 : mcode 23 122 = some (.getfield 18, 3, 2, 3, 0) := rfl
theorem r23_122 : Rn 23 (122, [x0], .ref q :: st, a, h) = Kv 23 125 [x0] st a h (mgf h q 2 3) := Rn_getf c23_122 rfl
theorem c23_125 : mcode 23 125 = some (.invokevirtual 135, 3, 10, 1, 1) := rfl
theorem r23_125 : Rn 23 (125, [x0], [v0, .ref q], a, h) = if mis h q 1 = true then Bk 23 128 [x0] [] (Ec 10 [.ref q, v0] a h) else none := Rn_call1 c23_125 rfl (Nat.le_of_ble_eq_true rfl) rfl rfl (Nat.le_of_ble_eq_true rfl)
theorem c23_128 : mcode 23 128 = some (.invokestatic 144, 3, 24, 1, 0) := rfl
theorem r23_128 : Rn 23 (128, [x0], [v0], a, h) = Bk 23 131 [x0] [] (Ec 24 [v0] a h) := Rn_call0 c23_128 (fun z => nomatch z) rfl (Nat.le_of_ble_eq_true rfl) rfl rfl (Nat.le_of_ble_eq_true rfl)
theorem c23_131 : mcode 23 131 = some (.ifCond .eq 154, 3, 0, 0, 0) := rfl
theorem r23_131 : Rn 23 (131, [x0], .int i :: st, a, h) = if i = 0 then Rn 23 (285, [x0], st, a, h) else Rn 23 (134, [x0], st, a, h) := Rn_ifc c23_131 mc_eq rfl rfl
theorem c23_134 : mcode 23 134 = some (.aload_n 0, 1, 0, 0, 0) := rfl
theorem r23_134 : Rn 23 (134, [some (.ref q)], st, a, h) = Rn 23 (135, [some (.ref q)], .ref q :: st, a, h) := Rn_go c23_134 rfl
theorem c23_135 : mcode 23 135 = some (.dup, 1, 0, 0, 0) := rfl
theorem r23_135 : Rn 23 (135, [x0], .ref q :: st, a, h) = Rn 23 (136, [x0], .ref q :: .ref q :: st, a, h) := Rn_go c23_135 rfl
theorem c23_136 : mcode 23 136 = some (.getfield 18, 3, 2, 3, 0) := rfl
theorem r23_136 : Rn 23 (136, [x0], .ref q :: st, a, h) = Kv 23 139 [x0] st a h (mgf h q 2 3) := Rn_getf c23_136 rfl
theorem c23_139 : mcode 23 139 = some (.iconst 1, 1, 0, 0, 0) := rfl
theorem r23_139 : Rn 23 (139, [x0], st, a, h) = Rn 23 (140, [x0], .int (1 : Int32) :: st, a, h) := Rn_go c23_139 rfl
theorem c23_140 : mcode 23 140 = some (.iadd, 1, 0, 0, 0) := rfl
theorem r23_140 : Rn 23 (140, [x0], .int j :: .int i :: st, a, h) = Rn 23 (141, [x0], .int (i + j) :: st, a, h) := Rn_go c23_140 rfl
theorem c23_141 : mcode 23 141 = some (.putfield 18, 3, 2, 3, 0) := rfl
theorem r23_141 : Rn 23 (141, [x0], .int i :: .ref q :: st, a, h) = Kh 23 144 [x0] st a (mpf h q 2 3 (.int i)) := Rn_putfi c23_141 rfl rfl
theorem c23_144 : mcode 23 144 = some (.goto (-41), 3, 0, 0, 0) := rfl
theorem r23_144 : Rn 23 (144, [x0], st, a, h) = Rn 23 (103, [x0], st, a, h) := Rn_goto c23_144 rfl
theorem c23_147 : mcode 23 147 = some (.aload_n 0, 1, 0, 0, 0) := rfl
theorem r23_147 : Rn 23 (147, [some (.ref q)], st, a, h) = Rn 23 (148, [some (.ref q)], .ref q :: st, a, h) := Rn_go c23_147 rfl
theorem c23_148 : mcode 23 148 = some (.getfield 12, 3, 2, 0, 0) := rfl
theorem r23_148 : Rn 23 (148, [x0], .ref q :: st, a, h) = Kv 23 151 [x0] st a h (mgf h q 2 0) := Rn_getf c23_148 rfl
theorem c23_151 : mcode 23 151 = some (.aload_n 0, 1, 0, 0, 0) := rfl
theorem r23_151 : Rn 23 (151, [some (.ref q)], st, a, h) = Rn 23 (152, [some (.ref q)], .ref q :: st, a, h) := Rn_go c23_151 rfl
theorem c23_152 : mcode 23 152 = some (.getfield 32, 3, 2, 2, 0) := rfl
theorem r23_152 : Rn 23 (152, [x0], .ref q :: st, a, h) = Kv 23 155 [x0] st a h (mgf h q 2 2) := Rn_getf c23_152 rfl
theorem c23_155 : mcode 23 155 = some (.invokevirtual 135, 3, 10, 1, 1) := rfl
theorem r23_155 : Rn 23 (155, [x0], [v0, .ref q], a, h) = if mis h q 1 = true then Bk 23 158 [x0] [] (Ec 10 [.ref q, v0] a h) else none := Rn_call1 c23_155 rfl (Nat.le_of_ble_eq_true rfl) rfl rfl (Nat.le_of_ble_eq_true rfl)
theorem c23_158 : mcode 23 158 = some (.invokestatic 148, 3, 25, 1, 0) := rfl
theorem r23_158 : Rn 23 (158, [x0], [v0], a, h) = Bk 23 161 [x0] [] (Ec 25 [v0] a h) := Rn_call0 c23_158 (fun z => nomatch z) rfl (Nat.le_of_ble_eq_true rfl) rfl rfl (Nat.le_of_ble_eq_true rfl)
theorem c23_161 : mcode 23 161 = some (.ifCond .eq 89, 3, 0, 0, 0) := rfl
theorem r23_161 : Rn 23 (161, [x0], .int i :: st, a, h) = if i = 0 then Rn 23 (250, [x0], st, a, h) else Rn 23 (164, [x0], st, a, h) := Rn_ifc c23_161 mc_eq rfl rfl
theorem c23_164 : mcode 23 164 = some (.aload_n 0, 1, 0, 0, 0) := rfl
theorem r23_164 : Rn 23 (164, [some (.ref q)], st, a, h) = Rn 23 (165, [some (.ref q)], .ref q :: st, a, h) := Rn_go c23_164 rfl
theorem c23_165 : mcode 23 165 = some (.iconst 1, 1, 0, 0, 0) := rfl
theorem r23_165 : Rn 23 (165, [x0], st, a, h) = Rn 23 (166, [x0], .int (1 : Int32) :: st, a, h) := Rn_go c23_165 rfl
theorem c23_166 : mcode 23 166 = some (.putfield 29, 3, 2, 1, 0) := rfl
theorem r23_166 : Rn 23 (166, [x0], .int i :: .ref q :: st, a, h) = Kh 23 169 [x0] st a (mpf h q 2 1 (.int i)) := Rn_putfi c23_166 rfl rfl
theorem c23_169 : mcode 23 169 = some (.aload_n 0, 1, 0, 0, 0) := rfl
theorem r23_169 : Rn 23 (169, [some (.ref q)], st, a, h) = Rn 23 (170, [some (.ref q)], .ref q :: st, a, h) := Rn_go c23_169 rfl
theorem c23_170 : mcode 23 170 = some (.iconst 0, 1, 0, 0, 0) := rfl
theorem r23_170 : Rn 23 (170, [x0], st, a, h) = Rn 23 (171, [x0], .int (0 : Int32) :: st, a, h) := Rn_go c23_170 rfl
theorem c23_171 : mcode 23 171 = some (.putfield 113, 3, 2, 4, 0) := rfl
theorem r23_171 : Rn 23 (171, [x0], .int i :: .ref q :: st, a, h) = Kh 23 174 [x0] st a (mpf h q 2 4 (.int i)) := Rn_putfi c23_171 rfl rfl
theorem c23_174 : mcode 23 174 = some (.aload_n 0, 1, 0, 0, 0) := rfl
theorem r23_174 : Rn 23 (174, [some (.ref q)], st, a, h) = Rn 23 (175, [some (.ref q)], .ref q :: st, a, h) := Rn_go c23_174 rfl
theorem c23_175 : mcode 23 175 = some (.getfield 18, 3, 2, 3, 0) := rfl
theorem r23_175 : Rn 23 (175, [x0], .ref q :: st, a, h) = Kv 23 178 [x0] st a h (mgf h q 2 3) := Rn_getf c23_175 rfl
theorem c23_178 : mcode 23 178 = some (.aload_n 0, 1, 0, 0, 0) := rfl
theorem r23_178 : Rn 23 (178, [some (.ref q)], st, a, h) = Rn 23 (179, [some (.ref q)], .ref q :: st, a, h) := Rn_go c23_178 rfl
theorem c23_179 : mcode 23 179 = some (.getfield 12, 3, 2, 0, 0) := rfl
theorem r23_179 : Rn 23 (179, [x0], .ref q :: st, a, h) = Kv 23 182 [x0] st a h (mgf h q 2 0) := Rn_getf c23_179 rfl
theorem c23_182 : mcode 23 182 = some (.getfield 142, 3, 1, 1, 0) := rfl
theorem r23_182 : Rn 23 (182, [x0], .ref q :: st, a, h) = Kv 23 185 [x0] st a h (mgf h q 1 1) := Rn_getf c23_182 rfl
theorem c23_185 : mcode 23 185 = some (.if_icmp .ge 100, 3, 0, 0, 0) := rfl
theorem r23_185 : Rn 23 (185, [x0], .int j :: .int i :: st, a, h) = if i < j then Rn 23 (188, [x0], st, a, h) else Rn 23 (285, [x0], st, a, h) := Rn_icmpn c23_185 mc_ge rfl rfl
theorem c23_188 : mcode 23 188 = some (.aload_n 0, 1, 0, 0, 0) := rfl
theorem r23_188 : Rn 23 (188, [some (.ref q)], st, a, h) = Rn 23 (189, [some (.ref q)], .ref q :: st, a, h) := Rn_go c23_188 rfl
theorem c23_189 : mcode 23 189 = some (.getfield 12, 3, 2, 0, 0) := rfl
theorem r23_189 : Rn 23 (189, [x0], .ref q :: st, a, h) = Kv 23 192 [x0] st a h (mgf h q 2 0) := Rn_getf c23_189 rfl
theorem c23_192 : mcode 23 192 = some (.aload_n 0, 1, 0, 0, 0) := rfl
theorem r23_192 : Rn 23 (192, [some (.ref q)], st, a, h) = Rn 23 (193, [some (.ref q)], .ref q :: st, a, h) := Rn_go c23_192 rfl
theorem c23_193 : mcode 23 193 = some (.getfield 18, 3, 2, 3, 0) := rfl
theorem r23_193 : Rn 23 (193, [x0], .ref q :: st, a, h) = Kv 23 196 [x0] st a h (mgf h q 2 3) := Rn_getf c23_193 rfl
theorem c23_196 : mcode 23 196 = some (.invokevirtual 135, 3, 10, 1, 1) := rfl
theorem r23_196 : Rn 23 (196, [x0], [v0, .ref q], a, h) = if mis h q 1 = true then Bk 23 199 [x0] [] (Ec 10 [.ref q, v0] a h) else none := Rn_call1 c23_196 rfl (Nat.le_of_ble_eq_true rfl) rfl rfl (Nat.le_of_ble_eq_true rfl)
theorem c23_199 : mcode 23 199 = some (.invokestatic 148, 3, 25, 1, 0) := rfl
theorem r23_199 : Rn 23 (199, [x0], [v0], a, h) = Bk 23 202 [x0] [] (Ec 25 [v0] a h) := Rn_call0 c23_199 (fun z => nomatch z) rfl (Nat.le_of_ble_eq_true rfl) rfl rfl (Nat.le_of_ble_eq_true rfl)
theorem c23_202 : mcode 23 202 = some (.ifCond .eq 83, 3, 0, 0, 0) := rfl
theorem r23_202 : Rn 23 (202, [x0], .int i :: st, a, h) = if i = 0 then Rn 23 (285, [x0], st, a, h) else Rn 23 (205, [x0], st, a, h) := Rn_ifc c23_202 mc_eq rfl rfl
theorem c23_205 : mcode 23 205 = some (.aload_n 0, 1, 0, 0, 0) := rfl
theorem r23_205 : Rn 23 (205, [some (.ref q)], st, a, h) = Rn 23 (206, [some (.ref q)], .ref q :: st, a, h) := Rn_go c23_205 rfl
theorem c23_206 : mcode 23 206 = some (.aload_n 0, 1, 0, 0, 0) := rfl
theorem r23_206 : Rn 23 (206, [some (.ref q)], st, a, h) = Rn 23 (207, [some (.ref q)], .ref q :: st, a, h) := Rn_go c23_206 rfl
theorem c23_207 : mcode 23 207 = some (.getfield 113, 3, 2, 4, 0) := rfl
theorem r23_207 : Rn 23 (207, [x0], .ref q :: st, a, h) = Kv 23 210 [x0] st a h (mgf h q 2 4) := Rn_getf c23_207 rfl
theorem c23_210 : mcode 23 210 = some (.bipush 10, 2, 0, 0, 0) := rfl
theorem r23_210 : Rn 23 (210, [x0], st, a, h) = Rn 23 (212, [x0], .int (10 : Int32) :: st, a, h) := Rn_go c23_210 rfl
theorem c23_212 : mcode 23 212 = some (.imul, 1, 0, 0, 0) := rfl
theorem r23_212 : Rn 23 (212, [x0], .int j :: .int i :: st, a, h) = Rn 23 (213, [x0], .int (i * j) :: st, a, h) := Rn_go c23_212 rfl
theorem c23_213 : mcode 23 213 = some (.aload_n 0, 1, 0, 0, 0) := rfl
theorem r23_213 : Rn 23 (213, [some (.ref q)], st, a, h) = Rn 23 (214, [some (.ref q)], .ref q :: st, a, h) := Rn_go c23_213 rfl
theorem c23_214 : mcode 23 214 = some (.getfield 12, 3, 2, 0, 0) := rfl
theorem r23_214 : Rn 23 (214, [x0], .ref q :: st, a, h) = Kv 23 217 [x0] st a h (mgf h q 2 0) := Rn_getf c23_214 rfl
theorem c23_217 : mcode 23 217 = some (.aload_n 0, 1, 0, 0, 0) := rfl
theorem r23_217 : Rn 23 (217, [some (.ref q)], st, a, h) = Rn 23 (218, [some (.ref q)], .ref q :: st, a, h) := Rn_go c23_217 rfl
theorem c23_218 : mcode 23 218 = some (.getfield 18, 3, 2, 3, 0) := rfl
theorem r23_218 : Rn 23 (218, [x0], .ref q :: st, a, h) = Kv 23 221 [x0] st a h (mgf h q 2 3) := Rn_getf c23_218 rfl
theorem c23_221 : mcode 23 221 = some (.invokevirtual 135, 3, 10, 1, 1) := rfl
theorem r23_221 : Rn 23 (221, [x0], [v0, .ref q, .int i0, .ref q1], a, h) = if mis h q 1 = true then Bk 23 224 [x0] [.int i0, .ref q1] (Ec 10 [.ref q, v0] a h) else none := Rn_call1 c23_221 rfl (Nat.le_of_ble_eq_true rfl) rfl rfl (Nat.le_of_ble_eq_true rfl)
theorem c23_224 : mcode 23 224 = some (.iadd, 1, 0, 0, 0) := rfl
theorem r23_224 : Rn 23 (224, [x0], .int j :: .int i :: st, a, h) = Rn 23 (225, [x0], .int (i + j) :: st, a, h) := Rn_go c23_224 rfl
theorem c23_225 : mcode 23 225 = some (.bipush 48, 2, 0, 0, 0) := rfl
theorem r23_225 : Rn 23 (225, [x0], st, a, h) = Rn 23 (227, [x0], .int (48 : Int32) :: st, a, h) := Rn_go c23_225 rfl
theorem c23_227 : mcode 23 227 = some (.isub, 1, 0, 0, 0) := rfl
theorem r23_227 : Rn 23 (227, [x0], .int j :: .int i :: st, a, h) = Rn 23 (228, [x0], .int (i - j) :: st, a, h) := Rn_go c23_227 rfl
theorem c23_228 : mcode 23 228 = some (.sipush 1000, 3, 0, 0, 0) := rfl
theorem r23_228 : Rn 23 (228, [x0], st, a, h) = Rn 23 (231, [x0], .int (1000 : Int32) :: st, a, h) := Rn_go c23_228 rfl
theorem c23_231 : mcode 23 231 = some (.invokestatic 151, 3, 228, 2, 0) := rfl
theorem r23_231 : Rn 23 (231, [x0], [v1, v0, .ref q0], a, h) = Bk 23 234 [x0] [.ref q0] (Ec 228 [v0, v1] a h) := Rn_call0 c23_231 (fun z => nomatch z) rfl (Nat.le_of_ble_eq_true rfl) rfl rfl (Nat.le_of_ble_eq_true rfl)
theorem c23_234 : mcode 23 234 = some (.putfield 113, 3, 2, 4, 0) := rfl
theorem r23_234 : Rn 23 (234, [x0], .int i :: .ref q :: st, a, h) = Kh 23 237 [x0] st a (mpf h q 2 4 (.int i)) := Rn_putfi c23_234 rfl rfl
theorem c23_237 : mcode 23 237 = some (.aload_n 0, 1, 0, 0, 0) := rfl
theorem r23_237 : Rn 23 (237, [some (.ref q)], st, a, h) = Rn 23 (238, [some (.ref q)], .ref q :: st, a, h) := Rn_go c23_237 rfl
theorem c23_238 : mcode 23 238 = some (.dup, 1, 0, 0, 0) := rfl
theorem r23_238 : Rn 23 (238, [x0], .ref q :: st, a, h) = Rn 23 (239, [x0], .ref q :: .ref q :: st, a, h) := Rn_go c23_238 rfl
theorem c23_239 : mcode 23 239 = some (.getfield 18, 3, 2, 3, 0) := rfl
theorem r23_239 : Rn 23 (239, [x0], .ref q :: st, a, h) = Kv 23 242 [x0] st a h (mgf h q 2 3) := Rn_getf c23_239 rfl
theorem c23_242 : mcode 23 242 = some (.iconst 1, 1, 0, 0, 0) := rfl
theorem r23_242 : Rn 23 (242, [x0], st, a, h) = Rn 23 (243, [x0], .int (1 : Int32) :: st, a, h) := Rn_go c23_242 rfl
theorem c23_243 : mcode 23 243 = some (.iadd, 1, 0, 0, 0) := rfl
theorem r23_243 : Rn 23 (243, [x0], .int j :: .int i :: st, a, h) = Rn 23 (244, [x0], .int (i + j) :: st, a, h) := Rn_go c23_243 rfl
theorem c23_244 : mcode 23 244 = some (.putfield 18, 3, 2, 3, 0) := rfl
theorem r23_244 : Rn 23 (244, [x0], .int i :: .ref q :: st, a, h) = Kh 23 247 [x0] st a (mpf h q 2 3 (.int i)) := Rn_putfi c23_244 rfl rfl
theorem c23_247 : mcode 23 247 = some (.goto (-73), 3, 0, 0, 0) := rfl
theorem r23_247 : Rn 23 (247, [x0], st, a, h) = Rn 23 (174, [x0], st, a, h) := Rn_goto c23_247 rfl
theorem c23_250 : mcode 23 250 = some (.aload_n 0, 1, 0, 0, 0) := rfl
theorem r23_250 : Rn 23 (250, [some (.ref q)], st, a, h) = Rn 23 (251, [some (.ref q)], .ref q :: st, a, h) := Rn_go c23_250 rfl
theorem c23_251 : mcode 23 251 = some (.aload_n 0, 1, 0, 0, 0) := rfl
theorem r23_251 : Rn 23 (251, [some (.ref q)], st, a, h) = Rn 23 (252, [some (.ref q)], .ref q :: st, a, h) := Rn_go c23_251 rfl
theorem c23_252 : mcode 23 252 = some (.getfield 12, 3, 2, 0, 0) := rfl
theorem r23_252 : Rn 23 (252, [x0], .ref q :: st, a, h) = Kv 23 255 [x0] st a h (mgf h q 2 0) := Rn_getf c23_252 rfl
theorem c23_255 : mcode 23 255 = some (.aload_n 0, 1, 0, 0, 0) := rfl
theorem r23_255 : Rn 23 (255, [some (.ref q)], st, a, h) = Rn 23 (256, [some (.ref q)], .ref q :: st, a, h) := Rn_go c23_255 rfl
theorem c23_256 : mcode 23 256 = some (.getfield 32, 3, 2, 2, 0) := rfl
theorem r23_256 : Rn 23 (256, [x0], .ref q :: st, a, h) = Kv 23 259 [x0] st a h (mgf h q 2 2) := Rn_getf c23_256 rfl
theorem c23_259 : mcode 23 259 = some (.invokevirtual 135, 3, 10, 1, 1) := rfl
theorem r23_259 : Rn 23 (259, [x0], [v0, .ref q, .ref q0], a, h) = if mis h q 1 = true then Bk 23 262 [x0] [.ref q0] (Ec 10 [.ref q, v0] a h) else none := Rn_call1 c23_259 rfl (Nat.le_of_ble_eq_true rfl) rfl rfl (Nat.le_of_ble_eq_true rfl)
theorem c23_262 : mcode 23 262 = some (.bipush 59, 2, 0, 0, 0) := rfl
theorem r23_262 : Rn 23 (262, [x0], st, a, h) = Rn 23 (264, [x0], .int (59 : Int32) :: st, a, h) := Rn_go c23_262 rfl
theorem c23_264 : mcode 23 264 = some (.if_icmp .ne 7, 3, 0, 0, 0) := rfl
theorem r23_264 : Rn 23 (264, [x0], .int j :: .int i :: st, a, h) = if i = j then Rn 23 (267, [x0], st, a, h) else Rn 23 (271, [x0], st, a, h) := Rn_icmpn c23_264 mc_ne rfl rfl
theorem c23_267 : mcode 23 267 = some (.iconst 2, 1, 0, 0, 0) := rfl
theorem r23_267 : Rn 23 (267, [x0], st, a, h) = Rn 23 (268, [x0], .int (2 : Int32) :: st, a, h) := Rn_go c23_267 rfl
theorem c23_268 : mcode 23 268 = some (.goto 4, 3, 0, 0, 0) := rfl
theorem r23_268 : Rn 23 (268, [x0], st, a, h) = Rn 23 (272, [x0], st, a, h) := Rn_goto c23_268 rfl
theorem c23_271 : mcode 23 271 = some (.iconst 4, 1, 0, 0, 0) := rfl
theorem r23_271 : Rn 23 (271, [x0], st, a, h) = Rn 23 (272, [x0], .int (4 : Int32) :: st, a, h) := Rn_go c23_271 rfl
theorem c23_272 : mcode 23 272 = some (.putfield 29, 3, 2, 1, 0) := rfl
theorem r23_272 : Rn 23 (272, [x0], .int i :: .ref q :: st, a, h) = Kh 23 275 [x0] st a (mpf h q 2 1 (.int i)) := Rn_putfi c23_272 rfl rfl
theorem c23_275 : mcode 23 275 = some (.aload_n 0, 1, 0, 0, 0) := rfl
theorem r23_275 : Rn 23 (275, [some (.ref q)], st, a, h) = Rn 23 (276, [some (.ref q)], .ref q :: st, a, h) := Rn_go c23_275 rfl
theorem c23_276 : mcode 23 276 = some (.dup, 1, 0, 0, 0) := rfl
theorem r23_276 : Rn 23 (276, [x0], .ref q :: st, a, h) = Rn 23 (277, [x0], .ref q :: .ref q :: st, a, h) := Rn_go c23_276 rfl
theorem c23_277 : mcode 23 277 = some (.getfield 18, 3, 2, 3, 0) := rfl
theorem r23_277 : Rn 23 (277, [x0], .ref q :: st, a, h) = Kv 23 280 [x0] st a h (mgf h q 2 3) := Rn_getf c23_277 rfl
theorem c23_280 : mcode 23 280 = some (.iconst 1, 1, 0, 0, 0) := rfl
theorem r23_280 : Rn 23 (280, [x0], st, a, h) = Rn 23 (281, [x0], .int (1 : Int32) :: st, a, h) := Rn_go c23_280 rfl
theorem c23_281 : mcode 23 281 = some (.iadd, 1, 0, 0, 0) := rfl
theorem r23_281 : Rn 23 (281, [x0], .int j :: .int i :: st, a, h) = Rn 23 (282, [x0], .int (i + j) :: st, a, h) := Rn_go c23_281 rfl
theorem c23_282 : mcode 23 282 = some (.putfield 18, 3, 2, 3, 0) := rfl
theorem r23_282 : Rn 23 (282, [x0], .int i :: .ref q :: st, a, h) = Kh 23 285 [x0] st a (mpf h q 2 3 (.int i)) := Rn_putfi c23_282 rfl rfl
theorem c23_285 : mcode 23 285 = some (.return_, 1, 0, 0, 0) := rfl
theorem r23_285 : Rn 23 (285, [x0], [], a, h) = some (none, a, h) := Rn_act c23_285
theorem c24_0 : mcode 24 0 = some (.bipush 97, 2, 0, 0, 0) := rfl
theorem r24_0 : Rn 24 (0, [x0], st, a, h) = Rn 24 (2, [x0], .int (97 : Int32) :: st, a, h) := Rn_go c24_0 rfl
theorem c24_2 : mcode 24 2 = some (.iload_n 0, 1, 0, 0, 0) := rfl
theorem r24_2 : Rn 24 (2, [some (.int i)], st, a, h) = Rn 24 (3, [some (.int i)], .int i :: st, a, h) := Rn_go c24_2 rfl
theorem c24_3 : mcode 24 3 = some (.if_icmp .gt 13, 3, 0, 0, 0) := rfl
theorem r24_3 : Rn 24 (3, [x0], .int j :: .int i :: st, a, h) = if j < i then Rn 24 (16, [x0], st, a, h) else Rn 24 (6, [x0], st, a, h) := Rn_icmp c24_3 mc_gt rfl rfl
theorem c24_6 : mcode 24 6 = some (.iload_n 0, 1, 0, 0, 0) := rfl
theorem r24_6 : Rn 24 (6, [some (.int i)], st, a, h) = Rn 24 (7, [some (.int i)], .int i :: st, a, h) := Rn_go c24_6 rfl
theorem c24_7 : mcode 24 7 = some (.bipush 122, 2, 0, 0, 0) := rfl
theorem r24_7 : Rn 24 (7, [x0], st, a, h) = Rn 24 (9, [x0], .int (122 : Int32) :: st, a, h) := Rn_go c24_7 rfl
theorem c24_9 : mcode 24 9 = some (.if_icmp .gt 7, 3, 0, 0, 0) := rfl
theorem r24_9 : Rn 24 (9, [x0], .int j :: .int i :: st, a, h) = if j < i then Rn 24 (16, [x0], st, a, h) else Rn 24 (12, [x0], st, a, h) := Rn_icmp c24_9 mc_gt rfl rfl
theorem c24_12 : mcode 24 12 = some (.iconst 1, 1, 0, 0, 0) := rfl
theorem r24_12 : Rn 24 (12, [x0], st, a, h) = Rn 24 (13, [x0], .int (1 : Int32) :: st, a, h) := Rn_go c24_12 rfl
theorem c24_13 : mcode 24 13 = some (.goto 4, 3, 0, 0, 0) := rfl
theorem r24_13 : Rn 24 (13, [x0], st, a, h) = Rn 24 (17, [x0], st, a, h) := Rn_goto c24_13 rfl
theorem c24_16 : mcode 24 16 = some (.iconst 0, 1, 0, 0, 0) := rfl
theorem r24_16 : Rn 24 (16, [x0], st, a, h) = Rn 24 (17, [x0], .int (0 : Int32) :: st, a, h) := Rn_go c24_16 rfl
theorem c24_17 : mcode 24 17 = some (.ireturn, 1, 1, 0, 0) := rfl
theorem r24_17 : Rn 24 (17, [x0], [.int i], a, h) = if mrt 1 i = true then some (some (.int i), a, h) else none := Rn_iretz c24_17
theorem c25_0 : mcode 25 0 = some (.bipush 48, 2, 0, 0, 0) := rfl
theorem r25_0 : Rn 25 (0, [x0], st, a, h) = Rn 25 (2, [x0], .int (48 : Int32) :: st, a, h) := Rn_go c25_0 rfl
theorem c25_2 : mcode 25 2 = some (.iload_n 0, 1, 0, 0, 0) := rfl
theorem r25_2 : Rn 25 (2, [some (.int i)], st, a, h) = Rn 25 (3, [some (.int i)], .int i :: st, a, h) := Rn_go c25_2 rfl
theorem c25_3 : mcode 25 3 = some (.if_icmp .gt 13, 3, 0, 0, 0) := rfl
theorem r25_3 : Rn 25 (3, [x0], .int j :: .int i :: st, a, h) = if j < i then Rn 25 (16, [x0], st, a, h) else Rn 25 (6, [x0], st, a, h) := Rn_icmp c25_3 mc_gt rfl rfl
theorem c25_6 : mcode 25 6 = some (.iload_n 0, 1, 0, 0, 0) := rfl
theorem r25_6 : Rn 25 (6, [some (.int i)], st, a, h) = Rn 25 (7, [some (.int i)], .int i :: st, a, h) := Rn_go c25_6 rfl
theorem c25_7 : mcode 25 7 = some (.bipush 57, 2, 0, 0, 0) := rfl
theorem r25_7 : Rn 25 (7, [x0], st, a, h) = Rn 25 (9, [x0], .int (57 : Int32) :: st, a, h) := Rn_go c25_7 rfl
theorem c25_9 : mcode 25 9 = some (.if_icmp .gt 7, 3, 0, 0, 0) := rfl
theorem r25_9 : Rn 25 (9, [x0], .int j :: .int i :: st, a, h) = if j < i then Rn 25 (16, [x0], st, a, h) else Rn 25 (12, [x0], st, a, h) := Rn_icmp c25_9 mc_gt rfl rfl
theorem c25_12 : mcode 25 12 = some (.iconst 1, 1, 0, 0, 0) := rfl
theorem r25_12 : Rn 25 (12, [x0], st, a, h) = Rn 25 (13, [x0], .int (1 : Int32) :: st, a, h) := Rn_go c25_12 rfl
theorem c25_13 : mcode 25 13 = some (.goto 4, 3, 0, 0, 0) := rfl
theorem r25_13 : Rn 25 (13, [x0], st, a, h) = Rn 25 (17, [x0], st, a, h) := Rn_goto c25_13 rfl
theorem c25_16 : mcode 25 16 = some (.iconst 0, 1, 0, 0, 0) := rfl
theorem r25_16 : Rn 25 (16, [x0], st, a, h) = Rn 25 (17, [x0], .int (0 : Int32) :: st, a, h) := Rn_go c25_16 rfl
theorem c25_17 : mcode 25 17 = some (.ireturn, 1, 1, 0, 0) := rfl
theorem r25_17 : Rn 25 (17, [x0], [.int i], a, h) = if mrt 1 i = true then some (some (.int i), a, h) else none := Rn_iretz c25_17
theorem c26_0 : mcode 26 0 = some (.aload_n 0, 1, 0, 0, 0) := rfl
theorem r26_0 : Rn 26 (0, [some (.ref q)], st, a, h) = Rn 26 (1, [some (.ref q)], .ref q :: st, a, h) := Rn_go c26_0 rfl
theorem c26_1 : mcode 26 1 = some (.invokespecial 3, 3, 9999, 0, 0) := rfl
theorem r26_1 : Rn 26 (1, [x0], [.ref q], a, h) = Rn 26 (4, [x0], [], a, h) := Rn_go c26_1 rfl
theorem c26_4 : mcode 26 4 = some (.return_, 1, 0, 0, 0) := rfl
theorem r26_4 : Rn 26 (4, [x0], [], a, h) = some (none, a, h) := Rn_act c26_4
theorem c27_0 : mcode 27 0 = some (.aload_n 0, 1, 0, 0, 0) := rfl
theorem r27_0 : Rn 27 (0, [some (.ref q), x1, x2], st, a, h) = Rn 27 (1, [some (.ref q), x1, x2], .ref q :: st, a, h) := Rn_go c27_0 rfl
theorem c27_1 : mcode 27 1 = some (.iload_n 1, 1, 0, 0, 0) := rfl
theorem r27_1 : Rn 27 (1, [x0, some (.int i), x2], st, a, h) = Rn 27 (2, [x0, some (.int i), x2], .int i :: st, a, h) := Rn_go c27_1 rfl
theorem c27_2 : mcode 27 2 = some (.putfield 9, 3, 3, 0, 0) := rfl
theorem r27_2 : Rn 27 (2, [x0, x1, x2], .int i :: .ref q :: st, a, h) = Kh 27 5 [x0, x1, x2] st a (mpf h q 3 0 (.int i)) := Rn_putfi c27_2 rfl rfl
theorem c27_5 : mcode 27 5 = some (.aload_n 0, 1, 0, 0, 0) := rfl
theorem r27_5 : Rn 27 (5, [some (.ref q), x1, x2], st, a, h) = Rn 27 (6, [some (.ref q), x1, x2], .ref q :: st, a, h) := Rn_go c27_5 rfl
theorem c27_6 : mcode 27 6 = some (.iload_n 2, 1, 0, 0, 0) := rfl
theorem r27_6 : Rn 27 (6, [x0, x1, some (.int i)], st, a, h) = Rn 27 (7, [x0, x1, some (.int i)], .int i :: st, a, h) := Rn_go c27_6 rfl
theorem c27_7 : mcode 27 7 = some (.putfield 15, 3, 3, 1, 0) := rfl
theorem r27_7 : Rn 27 (7, [x0, x1, x2], .int i :: .ref q :: st, a, h) = Kh 27 10 [x0, x1, x2] st a (mpf h q 3 1 (.int i)) := Rn_putfi c27_7 rfl rfl
theorem c27_10 : mcode 27 10 = some (.aload_n 0, 1, 0, 0, 0) := rfl
theorem r27_10 : Rn 27 (10, [some (.ref q), x1, x2], st, a, h) = Rn 27 (11, [some (.ref q), x1, x2], .ref q :: st, a, h) := Rn_go c27_10 rfl
theorem c27_11 : mcode 27 11 = some (.iconst 0, 1, 0, 0, 0) := rfl
theorem r27_11 : Rn 27 (11, [x0, x1, x2], st, a, h) = Rn 27 (12, [x0, x1, x2], .int (0 : Int32) :: st, a, h) := Rn_go c27_11 rfl
theorem c27_12 : mcode 27 12 = some (.putfield 18, 3, 3, 2, 0) := rfl
theorem r27_12 : Rn 27 (12, [x0, x1, x2], .int i :: .ref q :: st, a, h) = Kh 27 15 [x0, x1, x2] st a (mpf h q 3 2 (.int i)) := Rn_putfi c27_12 rfl rfl
theorem c27_15 : mcode 27 15 = some (.aload_n 0, 1, 0, 0, 0) := rfl
theorem r27_15 : Rn 27 (15, [some (.ref q), x1, x2], st, a, h) = Rn 27 (16, [some (.ref q), x1, x2], .ref q :: st, a, h) := Rn_go c27_15 rfl
theorem c27_16 : mcode 27 16 = some (.bipush 60, 2, 0, 0, 0) := rfl
theorem r27_16 : Rn 27 (16, [x0, x1, x2], st, a, h) = Rn 27 (18, [x0, x1, x2], .int (60 : Int32) :: st, a, h) := Rn_go c27_16 rfl
theorem c27_18 : mcode 27 18 = some (.putfield 21, 3, 3, 3, 0) := rfl
theorem r27_18 : Rn 27 (18, [x0, x1, x2], .int i :: .ref q :: st, a, h) = Kh 27 21 [x0, x1, x2] st a (mpf h q 3 3 (.int i)) := Rn_putfi c27_18 rfl rfl
theorem c27_21 : mcode 27 21 = some (.aload_n 0, 1, 0, 0, 0) := rfl
theorem r27_21 : Rn 27 (21, [some (.ref q), x1, x2], st, a, h) = Rn 27 (22, [some (.ref q), x1, x2], .ref q :: st, a, h) := Rn_go c27_21 rfl
theorem c27_22 : mcode 27 22 = some (.iconst 0, 1, 0, 0, 0) := rfl
theorem r27_22 : Rn 27 (22, [x0, x1, x2], st, a, h) = Rn 27 (23, [x0, x1, x2], .int (0 : Int32) :: st, a, h) := Rn_go c27_22 rfl
theorem c27_23 : mcode 27 23 = some (.putfield 24, 3, 3, 4, 0) := rfl
theorem r27_23 : Rn 27 (23, [x0, x1, x2], .int i :: .ref q :: st, a, h) = Kh 27 26 [x0, x1, x2] st a (mpf h q 3 4 (.int i)) := Rn_putfi c27_23 rfl rfl
theorem c27_26 : mcode 27 26 = some (.aload_n 0, 1, 0, 0, 0) := rfl
theorem r27_26 : Rn 27 (26, [some (.ref q), x1, x2], st, a, h) = Rn 27 (27, [some (.ref q), x1, x2], .ref q :: st, a, h) := Rn_go c27_26 rfl
theorem c27_27 : mcode 27 27 = some (.iconst 0, 1, 0, 0, 0) := rfl
theorem r27_27 : Rn 27 (27, [x0, x1, x2], st, a, h) = Rn 27 (28, [x0, x1, x2], .int (0 : Int32) :: st, a, h) := Rn_go c27_27 rfl
theorem c27_28 : mcode 27 28 = some (.putfield 27, 3, 3, 5, 0) := rfl
theorem r27_28 : Rn 27 (28, [x0, x1, x2], .int i :: .ref q :: st, a, h) = Kh 27 31 [x0, x1, x2] st a (mpf h q 3 5 (.int i)) := Rn_putfi c27_28 rfl rfl
theorem c27_31 : mcode 27 31 = some (.return_, 1, 0, 0, 0) := rfl
theorem r27_31 : Rn 27 (31, [x0, x1, x2], [], a, h) = some (none, a, h) := Rn_act c27_31
theorem c28_0 : mcode 28 0 = some (.aload_n 0, 1, 0, 0, 0) := rfl
theorem r28_0 : Rn 28 (0, [some (.ref q), x1], st, a, h) = Rn 28 (1, [some (.ref q), x1], .ref q :: st, a, h) := Rn_go c28_0 rfl
theorem c28_1 : mcode 28 1 = some (.aload_n 1, 1, 0, 0, 0) := rfl
theorem r28_1 : Rn 28 (1, [x0, some (.ref q)], st, a, h) = Rn 28 (2, [x0, some (.ref q)], .ref q :: st, a, h) := Rn_go c28_1 rfl
theorem c28_2 : mcode 28 2 = some (.getfield 9, 3, 3, 0, 0) := rfl
theorem r28_2 : Rn 28 (2, [x0, x1], .ref q :: st, a, h) = Kv 28 5 [x0, x1] st a h (mgf h q 3 0) := Rn_getf c28_2 rfl
theorem c28_5 : mcode 28 5 = some (.putfield 9, 3, 3, 0, 0) := rfl
theorem r28_5 : Rn 28 (5, [x0, x1], .int i :: .ref q :: st, a, h) = Kh 28 8 [x0, x1] st a (mpf h q 3 0 (.int i)) := Rn_putfi c28_5 rfl rfl
theorem c28_8 : mcode 28 8 = some (.aload_n 0, 1, 0, 0, 0) := rfl
theorem r28_8 : Rn 28 (8, [some (.ref q), x1], st, a, h) = Rn 28 (9, [some (.ref q), x1], .ref q :: st, a, h) := Rn_go c28_8 rfl
theorem c28_9 : mcode 28 9 = some (.aload_n 1, 1, 0, 0, 0) := rfl
theorem r28_9 : Rn 28 (9, [x0, some (.ref q)], st, a, h) = Rn 28 (10, [x0, some (.ref q)], .ref q :: st, a, h) := Rn_go c28_9 rfl
theorem c28_10 : mcode 28 10 = some (.getfield 15, 3, 3, 1, 0) := rfl
theorem r28_10 : Rn 28 (10, [x0, x1], .ref q :: st, a, h) = Kv 28 13 [x0, x1] st a h (mgf h q 3 1) := Rn_getf c28_10 rfl
theorem c28_13 : mcode 28 13 = some (.putfield 15, 3, 3, 1, 0) := rfl
theorem r28_13 : Rn 28 (13, [x0, x1], .int i :: .ref q :: st, a, h) = Kh 28 16 [x0, x1] st a (mpf h q 3 1 (.int i)) := Rn_putfi c28_13 rfl rfl
theorem c28_16 : mcode 28 16 = some (.aload_n 0, 1, 0, 0, 0) := rfl
theorem r28_16 : Rn 28 (16, [some (.ref q), x1], st, a, h) = Rn 28 (17, [some (.ref q), x1], .ref q :: st, a, h) := Rn_go c28_16 rfl
theorem c28_17 : mcode 28 17 = some (.aload_n 1, 1, 0, 0, 0) := rfl
theorem r28_17 : Rn 28 (17, [x0, some (.ref q)], st, a, h) = Rn 28 (18, [x0, some (.ref q)], .ref q :: st, a, h) := Rn_go c28_17 rfl
theorem c28_18 : mcode 28 18 = some (.getfield 18, 3, 3, 2, 0) := rfl
theorem r28_18 : Rn 28 (18, [x0, x1], .ref q :: st, a, h) = Kv 28 21 [x0, x1] st a h (mgf h q 3 2) := Rn_getf c28_18 rfl
theorem c28_21 : mcode 28 21 = some (.putfield 18, 3, 3, 2, 0) := rfl
theorem r28_21 : Rn 28 (21, [x0, x1], .int i :: .ref q :: st, a, h) = Kh 28 24 [x0, x1] st a (mpf h q 3 2 (.int i)) := Rn_putfi c28_21 rfl rfl
theorem c28_24 : mcode 28 24 = some (.aload_n 0, 1, 0, 0, 0) := rfl
theorem r28_24 : Rn 28 (24, [some (.ref q), x1], st, a, h) = Rn 28 (25, [some (.ref q), x1], .ref q :: st, a, h) := Rn_go c28_24 rfl
theorem c28_25 : mcode 28 25 = some (.aload_n 1, 1, 0, 0, 0) := rfl
theorem r28_25 : Rn 28 (25, [x0, some (.ref q)], st, a, h) = Rn 28 (26, [x0, some (.ref q)], .ref q :: st, a, h) := Rn_go c28_25 rfl
theorem c28_26 : mcode 28 26 = some (.getfield 21, 3, 3, 3, 0) := rfl
theorem r28_26 : Rn 28 (26, [x0, x1], .ref q :: st, a, h) = Kv 28 29 [x0, x1] st a h (mgf h q 3 3) := Rn_getf c28_26 rfl
theorem c28_29 : mcode 28 29 = some (.putfield 21, 3, 3, 3, 0) := rfl
theorem r28_29 : Rn 28 (29, [x0, x1], .int i :: .ref q :: st, a, h) = Kh 28 32 [x0, x1] st a (mpf h q 3 3 (.int i)) := Rn_putfi c28_29 rfl rfl
theorem c28_32 : mcode 28 32 = some (.aload_n 0, 1, 0, 0, 0) := rfl
theorem r28_32 : Rn 28 (32, [some (.ref q), x1], st, a, h) = Rn 28 (33, [some (.ref q), x1], .ref q :: st, a, h) := Rn_go c28_32 rfl
theorem c28_33 : mcode 28 33 = some (.aload_n 1, 1, 0, 0, 0) := rfl
theorem r28_33 : Rn 28 (33, [x0, some (.ref q)], st, a, h) = Rn 28 (34, [x0, some (.ref q)], .ref q :: st, a, h) := Rn_go c28_33 rfl
theorem c28_34 : mcode 28 34 = some (.getfield 24, 3, 3, 4, 0) := rfl
theorem r28_34 : Rn 28 (34, [x0, x1], .ref q :: st, a, h) = Kv 28 37 [x0, x1] st a h (mgf h q 3 4) := Rn_getf c28_34 rfl
theorem c28_37 : mcode 28 37 = some (.putfield 24, 3, 3, 4, 0) := rfl
theorem r28_37 : Rn 28 (37, [x0, x1], .int i :: .ref q :: st, a, h) = Kh 28 40 [x0, x1] st a (mpf h q 3 4 (.int i)) := Rn_putfi c28_37 rfl rfl
theorem c28_40 : mcode 28 40 = some (.aload_n 0, 1, 0, 0, 0) := rfl
theorem r28_40 : Rn 28 (40, [some (.ref q), x1], st, a, h) = Rn 28 (41, [some (.ref q), x1], .ref q :: st, a, h) := Rn_go c28_40 rfl
theorem c28_41 : mcode 28 41 = some (.aload_n 1, 1, 0, 0, 0) := rfl
theorem r28_41 : Rn 28 (41, [x0, some (.ref q)], st, a, h) = Rn 28 (42, [x0, some (.ref q)], .ref q :: st, a, h) := Rn_go c28_41 rfl
theorem c28_42 : mcode 28 42 = some (.getfield 27, 3, 3, 5, 0) := rfl
theorem r28_42 : Rn 28 (42, [x0, x1], .ref q :: st, a, h) = Kv 28 45 [x0, x1] st a h (mgf h q 3 5) := Rn_getf c28_42 rfl
theorem c28_45 : mcode 28 45 = some (.putfield 27, 3, 3, 5, 0) := rfl
theorem r28_45 : Rn 28 (45, [x0, x1], .int i :: .ref q :: st, a, h) = Kh 28 48 [x0, x1] st a (mpf h q 3 5 (.int i)) := Rn_putfi c28_45 rfl rfl
theorem c28_48 : mcode 28 48 = some (.return_, 1, 0, 0, 0) := rfl
theorem r28_48 : Rn 28 (48, [x0, x1], [], a, h) = some (none, a, h) := Rn_act c28_48
theorem c29_0 : mcode 29 0 = some (.iconst 4, 1, 0, 0, 0) := rfl
theorem r29_0 : Rn 29 (0, [x0, x1, x2, x3, x4], st, a, h) = Rn 29 (1, [x0, x1, x2, x3, x4], .int (4 : Int32) :: st, a, h) := Rn_go c29_0 rfl
theorem c29_1 : mcode 29 1 = some (.iload_n 1, 1, 0, 0, 0) := rfl
theorem r29_1 : Rn 29 (1, [x0, some (.int i), x2, x3, x4], st, a, h) = Rn 29 (2, [x0, some (.int i), x2, x3, x4], .int i :: st, a, h) := Rn_go c29_1 rfl
theorem c29_2 : mcode 29 2 = some (.iadd, 1, 0, 0, 0) := rfl
theorem r29_2 : Rn 29 (2, [x0, x1, x2, x3, x4], .int j :: .int i :: st, a, h) = Rn 29 (3, [x0, x1, x2, x3, x4], .int (i + j) :: st, a, h) := Rn_go c29_2 rfl
theorem c29_3 : mcode 29 3 = some (.istore_n 2, 1, 0, 0, 0) := rfl
theorem r29_3 : Rn 29 (3, [x0, x1, x2, x3, x4], .int i :: st, a, h) = Nl x1 (Rn 29 (4, [x0, x1, some (.int i), x3, x4], st, a, h)) := Rn_st1 (k := 2) (v := .int i) x1 c29_3 rfl rfl rfl rfl
theorem c29_4 : mcode 29 4 = some (.iload_n 2, 1, 0, 0, 0) := rfl
theorem r29_4 : Rn 29 (4, [x0, x1, some (.int i), x3, x4], st, a, h) = Rn 29 (5, [x0, x1, some (.int i), x3, x4], .int i :: st, a, h) := Rn_go c29_4 rfl
theorem c29_5 : mcode 29 5 = some (.iconst 2, 1, 0, 0, 0) := rfl
theorem r29_5 : Rn 29 (5, [x0, x1, x2, x3, x4], st, a, h) = Rn 29 (6, [x0, x1, x2, x3, x4], .int (2 : Int32) :: st, a, h) := Rn_go c29_5 rfl
theorem c29_6 : mcode 29 6 = some (.idiv, 1, 0, 0, 0) := rfl
theorem r29_6 : Rn 29 (6, [x0, x1, x2, x3, x4], .int j :: .int i :: st, a, h) = if j = 0 then none else Rn 29 (7, [x0, x1, x2, x3, x4], .int (i / j) :: st, a, h) := Rn_idiv c29_6 rfl
theorem c29_7 : mcode 29 7 = some (.istore_n 3, 1, 0, 0, 0) := rfl
theorem r29_7 : Rn 29 (7, [x0, x1, x2, x3, x4], .int i :: st, a, h) = Nl x2 (Rn 29 (8, [x0, x1, x2, some (.int i), x4], st, a, h)) := Rn_st1 (k := 3) (v := .int i) x2 c29_7 rfl rfl rfl rfl
theorem c29_8 : mcode 29 8 = some (.iload_n 3, 1, 0, 0, 0) := rfl
theorem r29_8 : Rn 29 (8, [x0, x1, x2, some (.int i), x4], st, a, h) = Rn 29 (9, [x0, x1, x2, some (.int i), x4], .int i :: st, a, h) := Rn_go c29_8 rfl
theorem c29_9 : mcode 29 9 = some (.iconst 5, 1, 0, 0, 0) := rfl
theorem r29_9 : Rn 29 (9, [x0, x1, x2, x3, x4], st, a, h) = Rn 29 (10, [x0, x1, x2, x3, x4], .int (5 : Int32) :: st, a, h) := Rn_go c29_9 rfl
theorem c29_10 : mcode 29 10 = some (.iadd, 1, 0, 0, 0) := rfl
theorem r29_10 : Rn 29 (10, [x0, x1, x2, x3, x4], .int j :: .int i :: st, a, h) = Rn 29 (11, [x0, x1, x2, x3, x4], .int (i + j) :: st, a, h) := Rn_go c29_10 rfl
theorem c29_11 : mcode 29 11 = some (.istore 4, 2, 0, 0, 0) := rfl
theorem r29_11 : Rn 29 (11, [x0, x1, x2, x3, x4], .int i :: st, a, h) = Nl x3 (Rn 29 (13, [x0, x1, x2, x3, some (.int i)], st, a, h)) := Rn_st1 (k := 4) (v := .int i) x3 c29_11 rfl rfl rfl rfl
theorem c29_13 : mcode 29 13 = some (.aload_n 0, 1, 0, 0, 0) := rfl
theorem r29_13 : Rn 29 (13, [some (.ref q), x1, x2, x3, x4], st, a, h) = Rn 29 (14, [some (.ref q), x1, x2, x3, x4], .ref q :: st, a, h) := Rn_go c29_13 rfl
theorem c29_14 : mcode 29 14 = some (.getfield 9, 3, 3, 0, 0) := rfl
theorem r29_14 : Rn 29 (14, [x0, x1, x2, x3, x4], .ref q :: st, a, h) = Kv 29 17 [x0, x1, x2, x3, x4] st a h (mgf h q 3 0) := Rn_getf c29_14 rfl
theorem c29_17 : mcode 29 17 = some (.tableswitch 65 1 6 #[39, 43, 45, 48, 61, 63], 39, 0, 0, 0) := rfl
theorem r29_17_1 : Rn 29 (17, [x0, x1, x2, x3, x4], .int (1 : Int32) :: st, a, h) = Rn 29 (56, [x0, x1, x2, x3, x4], st, a, h) := Rn_swAt c29_17 rfl rfl
theorem r29_17_2 : Rn 29 (17, [x0, x1, x2, x3, x4], .int (2 : Int32) :: st, a, h) = Rn 29 (60, [x0, x1, x2, x3, x4], st, a, h) := Rn_swAt c29_17 rfl rfl
theorem r29_17_3 : Rn 29 (17, [x0, x1, x2, x3, x4], .int (3 : Int32) :: st, a, h) = Rn 29 (62, [x0, x1, x2, x3, x4], st, a, h) := Rn_swAt c29_17 rfl rfl
theorem r29_17_4 : Rn 29 (17, [x0, x1, x2, x3, x4], .int (4 : Int32) :: st, a, h) = Rn 29 (65, [x0, x1, x2, x3, x4], st, a, h) := Rn_swAt c29_17 rfl rfl
theorem r29_17_5 : Rn 29 (17, [x0, x1, x2, x3, x4], .int (5 : Int32) :: st, a, h) = Rn 29 (78, [x0, x1, x2, x3, x4], st, a, h) := Rn_swAt c29_17 rfl rfl
theorem r29_17_6 : Rn 29 (17, [x0, x1, x2, x3, x4], .int (6 : Int32) :: st, a, h) = Rn 29 (80, [x0, x1, x2, x3, x4], st, a, h) := Rn_swAt c29_17 rfl rfl
theorem r29_17_d (hi : i.toInt < 1 ∨ 6 < i.toInt) : Rn 29 (17, [x0, x1, x2, x3, x4], .int i :: st, a, h) = Rn 29 (82, [x0, x1, x2, x3, x4], st, a, h) := Rn_swAt c29_17 (if_pos hi) rfl
theorem c29_56 : mcode 29 56 = some (.iload_n 2, 1, 0, 0, 0) := rfl
theorem r29_56 : Rn 29 (56, [x0, x1, some (.int i), x3, x4], st, a, h) = Rn 29 (57, [x0, x1, some (.int i), x3, x4], .int i :: st, a, h) := Rn_go c29_56 rfl
theorem c29_57 : mcode 29 57 = some (.iconst 3, 1, 0, 0, 0) := rfl
theorem r29_57 : Rn 29 (57, [x0, x1, x2, x3, x4], st, a, h) = Rn 29 (58, [x0, x1, x2, x3, x4], .int (3 : Int32) :: st, a, h) := Rn_go c29_57 rfl
theorem c29_58 : mcode 29 58 = some (.iadd, 1, 0, 0, 0) := rfl
theorem r29_58 : Rn 29 (58, [x0, x1, x2, x3, x4], .int j :: .int i :: st, a, h) = Rn 29 (59, [x0, x1, x2, x3, x4], .int (i + j) :: st, a, h) := Rn_go c29_58 rfl
theorem c29_59 : mcode 29 59 = some (.ireturn, 1, 0, 0, 0) := rfl
theorem r29_59 : Rn 29 (59, [x0, x1, x2, x3, x4], [.int i], a, h) = some (some (.int i), a, h) := Rn_ireti c29_59
theorem c29_60 : mcode 29 60 = some (.iload_n 3, 1, 0, 0, 0) := rfl
theorem r29_60 : Rn 29 (60, [x0, x1, x2, some (.int i), x4], st, a, h) = Rn 29 (61, [x0, x1, x2, some (.int i), x4], .int i :: st, a, h) := Rn_go c29_60 rfl
theorem c29_61 : mcode 29 61 = some (.ireturn, 1, 0, 0, 0) := rfl
theorem r29_61 : Rn 29 (61, [x0, x1, x2, x3, x4], [.int i], a, h) = some (some (.int i), a, h) := Rn_ireti c29_61
theorem c29_62 : mcode 29 62 = some (.iload 4, 2, 0, 0, 0) := rfl
theorem r29_62 : Rn 29 (62, [x0, x1, x2, x3, some (.int i)], st, a, h) = Rn 29 (64, [x0, x1, x2, x3, some (.int i)], .int i :: st, a, h) := Rn_go c29_62 rfl
theorem c29_64 : mcode 29 64 = some (.ireturn, 1, 0, 0, 0) := rfl
theorem r29_64 : Rn 29 (64, [x0, x1, x2, x3, x4], [.int i], a, h) = some (some (.int i), a, h) := Rn_ireti c29_64
theorem c29_65 : mcode 29 65 = some (.iload 4, 2, 0, 0, 0) := rfl
theorem r29_65 : Rn 29 (65, [x0, x1, x2, x3, some (.int i)], st, a, h) = Rn 29 (67, [x0, x1, x2, x3, some (.int i)], .int i :: st, a, h) := Rn_go c29_65 rfl
theorem c29_67 : mcode 29 67 = some (.aload_n 0, 1, 0, 0, 0) := rfl
theorem r29_67 : Rn 29 (67, [some (.ref q), x1, x2, x3, x4], st, a, h) = Rn 29 (68, [some (.ref q), x1, x2, x3, x4], .ref q :: st, a, h) := Rn_go c29_67 rfl
theorem c29_68 : mcode 29 68 = some (.getfield 27, 3, 3, 5, 0) := rfl
theorem r29_68 : Rn 29 (68, [x0, x1, x2, x3, x4], .ref q :: st, a, h) = Kv 29 71 [x0, x1, x2, x3, x4] st a h (mgf h q 3 5) := Rn_getf c29_68 rfl
theorem c29_71 : mcode 29 71 = some (.bipush 9, 2, 0, 0, 0) := rfl
theorem r29_71 : Rn 29 (71, [x0, x1, x2, x3, x4], st, a, h) = Rn 29 (73, [x0, x1, x2, x3, x4], .int (9 : Int32) :: st, a, h) := Rn_go c29_71 rfl
theorem c29_73 : mcode 29 73 = some (.invokestatic 30, 3, 228, 2, 0) := rfl
theorem r29_73 : Rn 29 (73, [x0, x1, x2, x3, x4], [v1, v0, .int i0], a, h) = Bk 29 76 [x0, x1, x2, x3, x4] [.int i0] (Ec 228 [v0, v1] a h) := Rn_call0 c29_73 (fun z => nomatch z) rfl (Nat.le_of_ble_eq_true rfl) rfl rfl (Nat.le_of_ble_eq_true rfl)
theorem c29_76 : mcode 29 76 = some (.iadd, 1, 0, 0, 0) := rfl
theorem r29_76 : Rn 29 (76, [x0, x1, x2, x3, x4], .int j :: .int i :: st, a, h) = Rn 29 (77, [x0, x1, x2, x3, x4], .int (i + j) :: st, a, h) := Rn_go c29_76 rfl
theorem c29_77 : mcode 29 77 = some (.ireturn, 1, 0, 0, 0) := rfl
theorem r29_77 : Rn 29 (77, [x0, x1, x2, x3, x4], [.int i], a, h) = some (some (.int i), a, h) := Rn_ireti c29_77
theorem c29_78 : mcode 29 78 = some (.iconst 0, 1, 0, 0, 0) := rfl
theorem r29_78 : Rn 29 (78, [x0, x1, x2, x3, x4], st, a, h) = Rn 29 (79, [x0, x1, x2, x3, x4], .int (0 : Int32) :: st, a, h) := Rn_go c29_78 rfl
theorem c29_79 : mcode 29 79 = some (.ireturn, 1, 0, 0, 0) := rfl
theorem r29_79 : Rn 29 (79, [x0, x1, x2, x3, x4], [.int i], a, h) = some (some (.int i), a, h) := Rn_ireti c29_79
theorem c29_80 : mcode 29 80 = some (.iconst 1, 1, 0, 0, 0) := rfl
theorem r29_80 : Rn 29 (80, [x0, x1, x2, x3, x4], st, a, h) = Rn 29 (81, [x0, x1, x2, x3, x4], .int (1 : Int32) :: st, a, h) := Rn_go c29_80 rfl
theorem c29_81 : mcode 29 81 = some (.ireturn, 1, 0, 0, 0) := rfl
theorem r29_81 : Rn 29 (81, [x0, x1, x2, x3, x4], [.int i], a, h) = some (some (.int i), a, h) := Rn_ireti c29_81
theorem c29_82 : mcode 29 82 = some (.iload_n 2, 1, 0, 0, 0) := rfl
theorem r29_82 : Rn 29 (82, [x0, x1, some (.int i), x3, x4], st, a, h) = Rn 29 (83, [x0, x1, some (.int i), x3, x4], .int i :: st, a, h) := Rn_go c29_82 rfl
theorem c29_83 : mcode 29 83 = some (.ireturn, 1, 0, 0, 0) := rfl
theorem r29_83 : Rn 29 (83, [x0, x1, x2, x3, x4], [.int i], a, h) = some (some (.int i), a, h) := Rn_ireti c29_83
theorem c30_0 : mcode 30 0 = some (.iconst 1, 1, 0, 0, 0) := rfl
theorem r30_0 : Rn 30 (0, [x0, x1, x2, x3, x4], st, a, h) = Rn 30 (1, [x0, x1, x2, x3, x4], .int (1 : Int32) :: st, a, h) := Rn_go c30_0 rfl
theorem c30_1 : mcode 30 1 = some (.istore_n 2, 1, 0, 0, 0) := rfl
theorem r30_1 : Rn 30 (1, [x0, x1, x2, x3, x4], .int i :: st, a, h) = Nl x1 (Rn 30 (2, [x0, x1, some (.int i), x3, x4], st, a, h)) := Rn_st1 (k := 2) (v := .int i) x1 c30_1 rfl rfl rfl rfl
theorem c30_2 : mcode 30 2 = some (.aload_n 0, 1, 0, 0, 0) := rfl
theorem r30_2 : Rn 30 (2, [some (.ref q), x1, x2, x3, x4], st, a, h) = Rn 30 (3, [some (.ref q), x1, x2, x3, x4], .ref q :: st, a, h) := Rn_go c30_2 rfl
theorem c30_3 : mcode 30 3 = some (.getfield 21, 3, 3, 3, 0) := rfl
theorem r30_3 : Rn 30 (3, [x0, x1, x2, x3, x4], .ref q :: st, a, h) = Kv 30 6 [x0, x1, x2, x3, x4] st a h (mgf h q 3 3) := Rn_getf c30_3 rfl
theorem c30_6 : mcode 30 6 = some (.bipush 40, 2, 0, 0, 0) := rfl
theorem r30_6 : Rn 30 (6, [x0, x1, x2, x3, x4], st, a, h) = Rn 30 (8, [x0, x1, x2, x3, x4], .int (40 : Int32) :: st, a, h) := Rn_go c30_6 rfl
theorem c30_8 : mcode 30 8 = some (.if_icmp .lt 8, 3, 0, 0, 0) := rfl
theorem r30_8 : Rn 30 (8, [x0, x1, x2, x3, x4], .int j :: .int i :: st, a, h) = if i < j then Rn 30 (16, [x0, x1, x2, x3, x4], st, a, h) else Rn 30 (11, [x0, x1, x2, x3, x4], st, a, h) := Rn_icmp c30_8 mc_lt rfl rfl
theorem c30_11 : mcode 30 11 = some (.iload_n 2, 1, 0, 0, 0) := rfl
theorem r30_11 : Rn 30 (11, [x0, x1, some (.int i), x3, x4], st, a, h) = Rn 30 (12, [x0, x1, some (.int i), x3, x4], .int i :: st, a, h) := Rn_go c30_11 rfl
theorem c30_12 : mcode 30 12 = some (.ineg, 1, 0, 0, 0) := rfl
theorem r30_12 : Rn 30 (12, [x0, x1, x2, x3, x4], .int i :: st, a, h) = Rn 30 (13, [x0, x1, x2, x3, x4], .int (-i) :: st, a, h) := Rn_go c30_12 rfl
theorem c30_13 : mcode 30 13 = some (.goto 4, 3, 0, 0, 0) := rfl
theorem r30_13 : Rn 30 (13, [x0, x1, x2, x3, x4], st, a, h) = Rn 30 (17, [x0, x1, x2, x3, x4], st, a, h) := Rn_goto c30_13 rfl
theorem c30_16 : mcode 30 16 = some (.iload_n 2, 1, 0, 0, 0) := rfl
theorem r30_16 : Rn 30 (16, [x0, x1, some (.int i), x3, x4], st, a, h) = Rn 30 (17, [x0, x1, some (.int i), x3, x4], .int i :: st, a, h) := Rn_go c30_16 rfl
theorem c30_17 : mcode 30 17 = some (.istore_n 3, 1, 0, 0, 0) := rfl
theorem r30_17 : Rn 30 (17, [x0, x1, x2, x3, x4], .int i :: st, a, h) = Nl x2 (Rn 30 (18, [x0, x1, x2, some (.int i), x4], st, a, h)) := Rn_st1 (k := 3) (v := .int i) x2 c30_17 rfl rfl rfl rfl
theorem c30_18 : mcode 30 18 = some (.iconst (-1), 1, 0, 0, 0) := rfl
theorem r30_18 : Rn 30 (18, [x0, x1, x2, x3, x4], st, a, h) = Rn 30 (19, [x0, x1, x2, x3, x4], .int (-1 : Int32) :: st, a, h) := Rn_go c30_18 rfl
theorem c30_19 : mcode 30 19 = some (.istore 4, 2, 0, 0, 0) := rfl
theorem r30_19 : Rn 30 (19, [x0, x1, x2, x3, x4], .int i :: st, a, h) = Nl x3 (Rn 30 (21, [x0, x1, x2, x3, some (.int i)], st, a, h)) := Rn_st1 (k := 4) (v := .int i) x3 c30_19 rfl rfl rfl rfl
theorem c30_21 : mcode 30 21 = some (.aload_n 0, 1, 0, 0, 0) := rfl
theorem r30_21 : Rn 30 (21, [some (.ref q), x1, x2, x3, x4], st, a, h) = Rn 30 (22, [some (.ref q), x1, x2, x3, x4], .ref q :: st, a, h) := Rn_go c30_21 rfl
theorem c30_22 : mcode 30 22 = some (.getfield 9, 3, 3, 0, 0) := rfl
theorem r30_22 : Rn 30 (22, [x0, x1, x2, x3, x4], .ref q :: st, a, h) = Kv 30 25 [x0, x1, x2, x3, x4] st a h (mgf h q 3 0) := Rn_getf c30_22 rfl
theorem c30_25 : mcode 30 25 = some (.tableswitch 80 1 6 #[39, 54, 56, 58, 72, 75], 39, 0, 0, 0) := rfl
theorem r30_25_1 : Rn 30 (25, [x0, x1, x2, x3, x4], .int (1 : Int32) :: st, a, h) = Rn 30 (64, [x0, x1, x2, x3, x4], st, a, h) := Rn_swAt c30_25 rfl rfl
theorem r30_25_2 : Rn 30 (25, [x0, x1, x2, x3, x4], .int (2 : Int32) :: st, a, h) = Rn 30 (79, [x0, x1, x2, x3, x4], st, a, h) := Rn_swAt c30_25 rfl rfl
theorem r30_25_3 : Rn 30 (25, [x0, x1, x2, x3, x4], .int (3 : Int32) :: st, a, h) = Rn 30 (81, [x0, x1, x2, x3, x4], st, a, h) := Rn_swAt c30_25 rfl rfl
theorem r30_25_4 : Rn 30 (25, [x0, x1, x2, x3, x4], .int (4 : Int32) :: st, a, h) = Rn 30 (83, [x0, x1, x2, x3, x4], st, a, h) := Rn_swAt c30_25 rfl rfl
theorem r30_25_5 : Rn 30 (25, [x0, x1, x2, x3, x4], .int (5 : Int32) :: st, a, h) = Rn 30 (97, [x0, x1, x2, x3, x4], st, a, h) := Rn_swAt c30_25 rfl rfl
theorem r30_25_6 : Rn 30 (25, [x0, x1, x2, x3, x4], .int (6 : Int32) :: st, a, h) = Rn 30 (100, [x0, x1, x2, x3, x4], st, a, h) := Rn_swAt c30_25 rfl rfl
theorem r30_25_d (hi : i.toInt < 1 ∨ 6 < i.toInt) : Rn 30 (25, [x0, x1, x2, x3, x4], .int i :: st, a, h) = Rn 30 (105, [x0, x1, x2, x3, x4], st, a, h) := Rn_swAt c30_25 (if_pos hi) rfl
theorem c30_64 : mcode 30 64 = some (.aload_n 0, 1, 0, 0, 0) := rfl
theorem r30_64 : Rn 30 (64, [some (.ref q), x1, x2, x3, x4], st, a, h) = Rn 30 (65, [some (.ref q), x1, x2, x3, x4], .ref q :: st, a, h) := Rn_go c30_64 rfl
theorem c30_65 : mcode 30 65 = some (.getfield 24, 3, 3, 4, 0) := rfl
theorem r30_65 : Rn 30 (65, [x0, x1, x2, x3, x4], .ref q :: st, a, h) = Kv 30 68 [x0, x1, x2, x3, x4] st a h (mgf h q 3 4) := Rn_getf c30_65 rfl
theorem c30_68 : mcode 30 68 = some (.iconst 3, 1, 0, 0, 0) := rfl
theorem r30_68 : Rn 30 (68, [x0, x1, x2, x3, x4], st, a, h) = Rn 30 (69, [x0, x1, x2, x3, x4], .int (3 : Int32) :: st, a, h) := Rn_go c30_68 rfl
theorem c30_69 : mcode 30 69 = some (.irem, 1, 0, 0, 0) := rfl
theorem r30_69 : Rn 30 (69, [x0, x1, x2, x3, x4], .int j :: .int i :: st, a, h) = if j = 0 then none else Rn 30 (70, [x0, x1, x2, x3, x4], .int (i % j) :: st, a, h) := Rn_irem c30_69 rfl
theorem c30_70 : mcode 30 70 = some (.ifCond .ne 7, 3, 0, 0, 0) := rfl
theorem r30_70 : Rn 30 (70, [x0, x1, x2, x3, x4], .int i :: st, a, h) = if i = 0 then Rn 30 (73, [x0, x1, x2, x3, x4], st, a, h) else Rn 30 (77, [x0, x1, x2, x3, x4], st, a, h) := Rn_ifcn c30_70 mc_ne rfl rfl
theorem c30_73 : mcode 30 73 = some (.iconst 1, 1, 0, 0, 0) := rfl
theorem r30_73 : Rn 30 (73, [x0, x1, x2, x3, x4], st, a, h) = Rn 30 (74, [x0, x1, x2, x3, x4], .int (1 : Int32) :: st, a, h) := Rn_go c30_73 rfl
theorem c30_74 : mcode 30 74 = some (.goto 4, 3, 0, 0, 0) := rfl
theorem r30_74 : Rn 30 (74, [x0, x1, x2, x3, x4], st, a, h) = Rn 30 (78, [x0, x1, x2, x3, x4], st, a, h) := Rn_goto c30_74 rfl
theorem c30_77 : mcode 30 77 = some (.iconst 0, 1, 0, 0, 0) := rfl
theorem r30_77 : Rn 30 (77, [x0, x1, x2, x3, x4], st, a, h) = Rn 30 (78, [x0, x1, x2, x3, x4], .int (0 : Int32) :: st, a, h) := Rn_go c30_77 rfl
theorem c30_78 : mcode 30 78 = some (.ireturn, 1, 0, 0, 0) := rfl
theorem r30_78 : Rn 30 (78, [x0, x1, x2, x3, x4], [.int i], a, h) = some (some (.int i), a, h) := Rn_ireti c30_78
theorem c30_79 : mcode 30 79 = some (.iload_n 2, 1, 0, 0, 0) := rfl
theorem r30_79 : Rn 30 (79, [x0, x1, some (.int i), x3, x4], st, a, h) = Rn 30 (80, [x0, x1, some (.int i), x3, x4], .int i :: st, a, h) := Rn_go c30_79 rfl
theorem c30_80 : mcode 30 80 = some (.ireturn, 1, 0, 0, 0) := rfl
theorem r30_80 : Rn 30 (80, [x0, x1, x2, x3, x4], [.int i], a, h) = some (some (.int i), a, h) := Rn_ireti c30_80
theorem c30_81 : mcode 30 81 = some (.iload_n 3, 1, 0, 0, 0) := rfl
theorem r30_81 : Rn 30 (81, [x0, x1, x2, some (.int i), x4], st, a, h) = Rn 30 (82, [x0, x1, x2, some (.int i), x4], .int i :: st, a, h) := Rn_go c30_81 rfl
theorem c30_82 : mcode 30 82 = some (.ireturn, 1, 0, 0, 0) := rfl
theorem r30_82 : Rn 30 (82, [x0, x1, x2, x3, x4], [.int i], a, h) = some (some (.int i), a, h) := Rn_ireti c30_82
theorem c30_83 : mcode 30 83 = some (.iload_n 1, 1, 0, 0, 0) := rfl
theorem r30_83 : Rn 30 (83, [x0, some (.int i), x2, x3, x4], st, a, h) = Rn 30 (84, [x0, some (.int i), x2, x3, x4], .int i :: st, a, h) := Rn_go c30_83 rfl
theorem c30_84 : mcode 30 84 = some (.iconst 2, 1, 0, 0, 0) := rfl
theorem r30_84 : Rn 30 (84, [x0, x1, x2, x3, x4], st, a, h) = Rn 30 (85, [x0, x1, x2, x3, x4], .int (2 : Int32) :: st, a, h) := Rn_go c30_84 rfl
theorem c30_85 : mcode 30 85 = some (.irem, 1, 0, 0, 0) := rfl
theorem r30_85 : Rn 30 (85, [x0, x1, x2, x3, x4], .int j :: .int i :: st, a, h) = if j = 0 then none else Rn 30 (86, [x0, x1, x2, x3, x4], .int (i % j) :: st, a, h) := Rn_irem c30_85 rfl
theorem c30_86 : mcode 30 86 = some (.ifCond .ne 9, 3, 0, 0, 0) := rfl
theorem r30_86 : Rn 30 (86, [x0, x1, x2, x3, x4], .int i :: st, a, h) = if i = 0 then Rn 30 (89, [x0, x1, x2, x3, x4], st, a, h) else Rn 30 (95, [x0, x1, x2, x3, x4], st, a, h) := Rn_ifcn c30_86 mc_ne rfl rfl
theorem c30_89 : mcode 30 89 = some (.iload_n 3, 1, 0, 0, 0) := rfl
theorem r30_89 : Rn 30 (89, [x0, x1, x2, some (.int i), x4], st, a, h) = Rn 30 (90, [x0, x1, x2, some (.int i), x4], .int i :: st, a, h) := Rn_go c30_89 rfl
theorem c30_90 : mcode 30 90 = some (.iconst 1, 1, 0, 0, 0) := rfl
theorem r30_90 : Rn 30 (90, [x0, x1, x2, x3, x4], st, a, h) = Rn 30 (91, [x0, x1, x2, x3, x4], .int (1 : Int32) :: st, a, h) := Rn_go c30_90 rfl
theorem c30_91 : mcode 30 91 = some (.iadd, 1, 0, 0, 0) := rfl
theorem r30_91 : Rn 30 (91, [x0, x1, x2, x3, x4], .int j :: .int i :: st, a, h) = Rn 30 (92, [x0, x1, x2, x3, x4], .int (i + j) :: st, a, h) := Rn_go c30_91 rfl
theorem c30_92 : mcode 30 92 = some (.goto 4, 3, 0, 0, 0) := rfl
theorem r30_92 : Rn 30 (92, [x0, x1, x2, x3, x4], st, a, h) = Rn 30 (96, [x0, x1, x2, x3, x4], st, a, h) := Rn_goto c30_92 rfl
theorem c30_95 : mcode 30 95 = some (.iload_n 3, 1, 0, 0, 0) := rfl
theorem r30_95 : Rn 30 (95, [x0, x1, x2, some (.int i), x4], st, a, h) = Rn 30 (96, [x0, x1, x2, some (.int i), x4], .int i :: st, a, h) := Rn_go c30_95 rfl
theorem c30_96 : mcode 30 96 = some (.ireturn, 1, 0, 0, 0) := rfl
theorem r30_96 : Rn 30 (96, [x0, x1, x2, x3, x4], [.int i], a, h) = some (some (.int i), a, h) := Rn_ireti c30_96
theorem c30_97 : mcode 30 97 = some (.iload 4, 2, 0, 0, 0) := rfl
theorem r30_97 : Rn 30 (97, [x0, x1, x2, x3, some (.int i)], st, a, h) = Rn 30 (99, [x0, x1, x2, x3, some (.int i)], .int i :: st, a, h) := Rn_go c30_97 rfl
theorem c30_99 : mcode 30 99 = some (.ireturn, 1, 0, 0, 0) := rfl
theorem r30_99 : Rn 30 (99, [x0, x1, x2, x3, x4], [.int i], a, h) = some (some (.int i), a, h) := Rn_ireti c30_99
theorem c30_100 : mcode 30 100 = some (.iconst 2, 1, 0, 0, 0) := rfl
theorem r30_100 : Rn 30 (100, [x0, x1, x2, x3, x4], st, a, h) = Rn 30 (101, [x0, x1, x2, x3, x4], .int (2 : Int32) :: st, a, h) := Rn_go c30_100 rfl
theorem c30_101 : mcode 30 101 = some (.iload 4, 2, 0, 0, 0) := rfl
theorem r30_101 : Rn 30 (101, [x0, x1, x2, x3, some (.int i)], st, a, h) = Rn 30 (103, [x0, x1, x2, x3, some (.int i)], .int i :: st, a, h) := Rn_go c30_101 rfl
theorem c30_103 : mcode 30 103 = some (.imul, 1, 0, 0, 0) := rfl
theorem r30_103 : Rn 30 (103, [x0, x1, x2, x3, x4], .int j :: .int i :: st, a, h) = Rn 30 (104, [x0, x1, x2, x3, x4], .int (i * j) :: st, a, h) := Rn_go c30_103 rfl
theorem c30_104 : mcode 30 104 = some (.ireturn, 1, 0, 0, 0) := rfl
theorem r30_104 : Rn 30 (104, [x0, x1, x2, x3, x4], [.int i], a, h) = some (some (.int i), a, h) := Rn_ireti c30_104
theorem c30_105 : mcode 30 105 = some (.iconst 0, 1, 0, 0, 0) := rfl
theorem r30_105 : Rn 30 (105, [x0, x1, x2, x3, x4], st, a, h) = Rn 30 (106, [x0, x1, x2, x3, x4], .int (0 : Int32) :: st, a, h) := Rn_go c30_105 rfl
theorem c30_106 : mcode 30 106 = some (.ireturn, 1, 0, 0, 0) := rfl
theorem r30_106 : Rn 30 (106, [x0, x1, x2, x3, x4], [.int i], a, h) = some (some (.int i), a, h) := Rn_ireti c30_106
theorem c31_0 : mcode 31 0 = some (.bipush 20, 2, 0, 0, 0) := rfl
theorem r31_0 : Rn 31 (0, [x0, x1, x2, x3, x4], st, a, h) = Rn 31 (2, [x0, x1, x2, x3, x4], .int (20 : Int32) :: st, a, h) := Rn_go c31_0 rfl
theorem c31_2 : mcode 31 2 = some (.istore_n 2, 1, 0, 0, 0) := rfl
theorem r31_2 : Rn 31 (2, [x0, x1, x2, x3, x4], .int i :: st, a, h) = Nl x1 (Rn 31 (3, [x0, x1, some (.int i), x3, x4], st, a, h)) := Rn_st1 (k := 2) (v := .int i) x1 c31_2 rfl rfl rfl rfl
theorem c31_3 : mcode 31 3 = some (.iload_n 2, 1, 0, 0, 0) := rfl
theorem r31_3 : Rn 31 (3, [x0, x1, some (.int i), x3, x4], st, a, h) = Rn 31 (4, [x0, x1, some (.int i), x3, x4], .int i :: st, a, h) := Rn_go c31_3 rfl
theorem c31_4 : mcode 31 4 = some (.bipush 15, 2, 0, 0, 0) := rfl
theorem r31_4 : Rn 31 (4, [x0, x1, x2, x3, x4], st, a, h) = Rn 31 (6, [x0, x1, x2, x3, x4], .int (15 : Int32) :: st, a, h) := Rn_go c31_4 rfl
theorem c31_6 : mcode 31 6 = some (.isub, 1, 0, 0, 0) := rfl
theorem r31_6 : Rn 31 (6, [x0, x1, x2, x3, x4], .int j :: .int i :: st, a, h) = Rn 31 (7, [x0, x1, x2, x3, x4], .int (i - j) :: st, a, h) := Rn_go c31_6 rfl
theorem c31_7 : mcode 31 7 = some (.istore_n 3, 1, 0, 0, 0) := rfl
theorem r31_7 : Rn 31 (7, [x0, x1, x2, x3, x4], .int i :: st, a, h) = Nl x2 (Rn 31 (8, [x0, x1, x2, some (.int i), x4], st, a, h)) := Rn_st1 (k := 3) (v := .int i) x2 c31_7 rfl rfl rfl rfl
theorem c31_8 : mcode 31 8 = some (.iload_n 3, 1, 0, 0, 0) := rfl
theorem r31_8 : Rn 31 (8, [x0, x1, x2, some (.int i), x4], st, a, h) = Rn 31 (9, [x0, x1, x2, some (.int i), x4], .int i :: st, a, h) := Rn_go c31_8 rfl
theorem c31_9 : mcode 31 9 = some (.iload_n 1, 1, 0, 0, 0) := rfl
theorem r31_9 : Rn 31 (9, [x0, some (.int i), x2, x3, x4], st, a, h) = Rn 31 (10, [x0, some (.int i), x2, x3, x4], .int i :: st, a, h) := Rn_go c31_9 rfl
theorem c31_10 : mcode 31 10 = some (.iadd, 1, 0, 0, 0) := rfl
theorem r31_10 : Rn 31 (10, [x0, x1, x2, x3, x4], .int j :: .int i :: st, a, h) = Rn 31 (11, [x0, x1, x2, x3, x4], .int (i + j) :: st, a, h) := Rn_go c31_10 rfl
theorem c31_11 : mcode 31 11 = some (.istore 4, 2, 0, 0, 0) := rfl
theorem r31_11 : Rn 31 (11, [x0, x1, x2, x3, x4], .int i :: st, a, h) = Nl x3 (Rn 31 (13, [x0, x1, x2, x3, some (.int i)], st, a, h)) := Rn_st1 (k := 4) (v := .int i) x3 c31_11 rfl rfl rfl rfl
theorem c31_13 : mcode 31 13 = some (.aload_n 0, 1, 0, 0, 0) := rfl
theorem r31_13 : Rn 31 (13, [some (.ref q), x1, x2, x3, x4], st, a, h) = Rn 31 (14, [some (.ref q), x1, x2, x3, x4], .ref q :: st, a, h) := Rn_go c31_13 rfl
theorem c31_14 : mcode 31 14 = some (.getfield 9, 3, 3, 0, 0) := rfl
theorem r31_14 : Rn 31 (14, [x0, x1, x2, x3, x4], .ref q :: st, a, h) = Kv 31 17 [x0, x1, x2, x3, x4] st a h (mgf h q 3 0) := Rn_getf c31_14 rfl
theorem c31_17 : mcode 31 17 = some (.tableswitch 57 1 6 #[39, 43, 45, 48, 53, 53], 39, 0, 0, 0) := rfl
theorem r31_17_1 : Rn 31 (17, [x0, x1, x2, x3, x4], .int (1 : Int32) :: st, a, h) = Rn 31 (56, [x0, x1, x2, x3, x4], st, a, h) := Rn_swAt c31_17 rfl rfl
theorem r31_17_2 : Rn 31 (17, [x0, x1, x2, x3, x4], .int (2 : Int32) :: st, a, h) = Rn 31 (60, [x0, x1, x2, x3, x4], st, a, h) := Rn_swAt c31_17 rfl rfl
theorem r31_17_3 : Rn 31 (17, [x0, x1, x2, x3, x4], .int (3 : Int32) :: st, a, h) = Rn 31 (62, [x0, x1, x2, x3, x4], st, a, h) := Rn_swAt c31_17 rfl rfl
theorem r31_17_4 : Rn 31 (17, [x0, x1, x2, x3, x4], .int (4 : Int32) :: st, a, h) = Rn 31 (65, [x0, x1, x2, x3, x4], st, a, h) := Rn_swAt c31_17 rfl rfl
theorem r31_17_5 : Rn 31 (17, [x0, x1, x2, x3, x4], .int (5 : Int32) :: st, a, h) = Rn 31 (70, [x0, x1, x2, x3, x4], st, a, h) := Rn_swAt c31_17 rfl rfl
theorem r31_17_6 : Rn 31 (17, [x0, x1, x2, x3, x4], .int (6 : Int32) :: st, a, h) = Rn 31 (70, [x0, x1, x2, x3, x4], st, a, h) := Rn_swAt c31_17 rfl rfl
theorem r31_17_d (hi : i.toInt < 1 ∨ 6 < i.toInt) : Rn 31 (17, [x0, x1, x2, x3, x4], .int i :: st, a, h) = Rn 31 (74, [x0, x1, x2, x3, x4], st, a, h) := Rn_swAt c31_17 (if_pos hi) rfl
theorem c31_56 : mcode 31 56 = some (.iload_n 2, 1, 0, 0, 0) := rfl
theorem r31_56 : Rn 31 (56, [x0, x1, some (.int i), x3, x4], st, a, h) = Rn 31 (57, [x0, x1, some (.int i), x3, x4], .int i :: st, a, h) := Rn_go c31_56 rfl
theorem c31_57 : mcode 31 57 = some (.iconst 2, 1, 0, 0, 0) := rfl
theorem r31_57 : Rn 31 (57, [x0, x1, x2, x3, x4], st, a, h) = Rn 31 (58, [x0, x1, x2, x3, x4], .int (2 : Int32) :: st, a, h) := Rn_go c31_57 rfl
theorem c31_58 : mcode 31 58 = some (.idiv, 1, 0, 0, 0) := rfl
theorem r31_58 : Rn 31 (58, [x0, x1, x2, x3, x4], .int j :: .int i :: st, a, h) = if j = 0 then none else Rn 31 (59, [x0, x1, x2, x3, x4], .int (i / j) :: st, a, h) := Rn_idiv c31_58 rfl
theorem c31_59 : mcode 31 59 = some (.ireturn, 1, 0, 0, 0) := rfl
theorem r31_59 : Rn 31 (59, [x0, x1, x2, x3, x4], [.int i], a, h) = some (some (.int i), a, h) := Rn_ireti c31_59
theorem c31_60 : mcode 31 60 = some (.iload_n 3, 1, 0, 0, 0) := rfl
theorem r31_60 : Rn 31 (60, [x0, x1, x2, some (.int i), x4], st, a, h) = Rn 31 (61, [x0, x1, x2, some (.int i), x4], .int i :: st, a, h) := Rn_go c31_60 rfl
theorem c31_61 : mcode 31 61 = some (.ireturn, 1, 0, 0, 0) := rfl
theorem r31_61 : Rn 31 (61, [x0, x1, x2, x3, x4], [.int i], a, h) = some (some (.int i), a, h) := Rn_ireti c31_61
theorem c31_62 : mcode 31 62 = some (.iload 4, 2, 0, 0, 0) := rfl
theorem r31_62 : Rn 31 (62, [x0, x1, x2, x3, some (.int i)], st, a, h) = Rn 31 (64, [x0, x1, x2, x3, some (.int i)], .int i :: st, a, h) := Rn_go c31_62 rfl
theorem c31_64 : mcode 31 64 = some (.ireturn, 1, 0, 0, 0) := rfl
theorem r31_64 : Rn 31 (64, [x0, x1, x2, x3, x4], [.int i], a, h) = some (some (.int i), a, h) := Rn_ireti c31_64
theorem c31_65 : mcode 31 65 = some (.iload 4, 2, 0, 0, 0) := rfl
theorem r31_65 : Rn 31 (65, [x0, x1, x2, x3, some (.int i)], st, a, h) = Rn 31 (67, [x0, x1, x2, x3, some (.int i)], .int i :: st, a, h) := Rn_go c31_65 rfl
theorem c31_67 : mcode 31 67 = some (.iconst 4, 1, 0, 0, 0) := rfl
theorem r31_67 : Rn 31 (67, [x0, x1, x2, x3, x4], st, a, h) = Rn 31 (68, [x0, x1, x2, x3, x4], .int (4 : Int32) :: st, a, h) := Rn_go c31_67 rfl
theorem c31_68 : mcode 31 68 = some (.iadd, 1, 0, 0, 0) := rfl
theorem r31_68 : Rn 31 (68, [x0, x1, x2, x3, x4], .int j :: .int i :: st, a, h) = Rn 31 (69, [x0, x1, x2, x3, x4], .int (i + j) :: st, a, h) := Rn_go c31_68 rfl
theorem c31_69 : mcode 31 69 = some (.ireturn, 1, 0, 0, 0) := rfl
theorem r31_69 : Rn 31 (69, [x0, x1, x2, x3, x4], [.int i], a, h) = some (some (.int i), a, h) := Rn_ireti c31_69
theorem c31_70 : mcode 31 70 = some (.sipush 999, 3, 0, 0, 0) := rfl
theorem r31_70 : Rn 31 (70, [x0, x1, x2, x3, x4], st, a, h) = Rn 31 (73, [x0, x1, x2, x3, x4], .int (999 : Int32) :: st, a, h) := Rn_go c31_70 rfl
theorem c31_73 : mcode 31 73 = some (.ireturn, 1, 0, 0, 0) := rfl
theorem r31_73 : Rn 31 (73, [x0, x1, x2, x3, x4], [.int i], a, h) = some (some (.int i), a, h) := Rn_ireti c31_73
theorem c31_74 : mcode 31 74 = some (.iload_n 2, 1, 0, 0, 0) := rfl
theorem r31_74 : Rn 31 (74, [x0, x1, some (.int i), x3, x4], st, a, h) = Rn 31 (75, [x0, x1, some (.int i), x3, x4], .int i :: st, a, h) := Rn_go c31_74 rfl
theorem c31_75 : mcode 31 75 = some (.ireturn, 1, 0, 0, 0) := rfl
theorem r31_75 : Rn 31 (75, [x0, x1, x2, x3, x4], [.int i], a, h) = some (some (.int i), a, h) := Rn_ireti c31_75
theorem c32_0 : mcode 32 0 = some (.aload_n 0, 1, 0, 0, 0) := rfl
theorem r32_0 : Rn 32 (0, [some (.ref q), x1], st, a, h) = Rn 32 (1, [some (.ref q), x1], .ref q :: st, a, h) := Rn_go c32_0 rfl
theorem c32_1 : mcode 32 1 = some (.iload_n 1, 1, 0, 0, 0) := rfl
theorem r32_1 : Rn 32 (1, [x0, some (.int i)], st, a, h) = Rn 32 (2, [x0, some (.int i)], .int i :: st, a, h) := Rn_go c32_1 rfl
theorem c32_2 : mcode 32 2 = some (.putfield 18, 3, 3, 2, 0) := rfl
theorem r32_2 : Rn 32 (2, [x0, x1], .int i :: .ref q :: st, a, h) = Kh 32 5 [x0, x1] st a (mpf h q 3 2 (.int i)) := Rn_putfi c32_2 rfl rfl
theorem c32_5 : mcode 32 5 = some (.aload_n 0, 1, 0, 0, 0) := rfl
theorem r32_5 : Rn 32 (5, [some (.ref q), x1], st, a, h) = Rn 32 (6, [some (.ref q), x1], .ref q :: st, a, h) := Rn_go c32_5 rfl
theorem c32_6 : mcode 32 6 = some (.aload_n 0, 1, 0, 0, 0) := rfl
theorem r32_6 : Rn 32 (6, [some (.ref q), x1], st, a, h) = Rn 32 (7, [some (.ref q), x1], .ref q :: st, a, h) := Rn_go c32_6 rfl
theorem c32_7 : mcode 32 7 = some (.getfield 21, 3, 3, 3, 0) := rfl
theorem r32_7 : Rn 32 (7, [x0, x1], .ref q :: st, a, h) = Kv 32 10 [x0, x1] st a h (mgf h q 3 3) := Rn_getf c32_7 rfl
theorem c32_10 : mcode 32 10 = some (.bipush 10, 2, 0, 0, 0) := rfl
theorem r32_10 : Rn 32 (10, [x0, x1], st, a, h) = Rn 32 (12, [x0, x1], .int (10 : Int32) :: st, a, h) := Rn_go c32_10 rfl
theorem c32_12 : mcode 32 12 = some (.iadd, 1, 0, 0, 0) := rfl
theorem r32_12 : Rn 32 (12, [x0, x1], .int j :: .int i :: st, a, h) = Rn 32 (13, [x0, x1], .int (i + j) :: st, a, h) := Rn_go c32_12 rfl
theorem c32_13 : mcode 32 13 = some (.sipush 999, 3, 0, 0, 0) := rfl
theorem r32_13 : Rn 32 (13, [x0, x1], st, a, h) = Rn 32 (16, [x0, x1], .int (999 : Int32) :: st, a, h) := Rn_go c32_13 rfl
theorem c32_16 : mcode 32 16 = some (.invokestatic 30, 3, 228, 2, 0) := rfl
theorem r32_16 : Rn 32 (16, [x0, x1], [v1, v0, .ref q0], a, h) = Bk 32 19 [x0, x1] [.ref q0] (Ec 228 [v0, v1] a h) := Rn_call0 c32_16 (fun z => nomatch z) rfl (Nat.le_of_ble_eq_true rfl) rfl rfl (Nat.le_of_ble_eq_true rfl)
theorem c32_19 : mcode 32 19 = some (.putfield 21, 3, 3, 3, 0) := rfl
theorem r32_19 : Rn 32 (19, [x0, x1], .int i :: .ref q :: st, a, h) = Kh 32 22 [x0, x1] st a (mpf h q 3 3 (.int i)) := Rn_putfi c32_19 rfl rfl
theorem c32_22 : mcode 32 22 = some (.return_, 1, 0, 0, 0) := rfl
theorem r32_22 : Rn 32 (22, [x0, x1], [], a, h) = some (none, a, h) := Rn_act c32_22
theorem c33_0 : mcode 33 0 = some (.iconst 0, 1, 0, 0, 0) := rfl
theorem r33_0 : Rn 33 (0, [x0, x1, x2], st, a, h) = Rn 33 (1, [x0, x1, x2], .int (0 : Int32) :: st, a, h) := Rn_go c33_0 rfl
theorem c33_1 : mcode 33 1 = some (.aload_n 0, 1, 0, 0, 0) := rfl
theorem r33_1 : Rn 33 (1, [some (.ref q), x1, x2], st, a, h) = Rn 33 (2, [some (.ref q), x1, x2], .ref q :: st, a, h) := Rn_go c33_1 rfl
theorem c33_2 : mcode 33 2 = some (.getfield 15, 3, 3, 1, 0) := rfl
theorem r33_2 : Rn 33 (2, [x0, x1, x2], .ref q :: st, a, h) = Kv 33 5 [x0, x1, x2] st a h (mgf h q 3 1) := Rn_getf c33_2 rfl
theorem c33_5 : mcode 33 5 = some (.aload_n 0, 1, 0, 0, 0) := rfl
theorem r33_5 : Rn 33 (5, [some (.ref q), x1, x2], st, a, h) = Rn 33 (6, [some (.ref q), x1, x2], .ref q :: st, a, h) := Rn_go c33_5 rfl
theorem c33_6 : mcode 33 6 = some (.iload_n 1, 1, 0, 0, 0) := rfl
theorem r33_6 : Rn 33 (6, [x0, some (.int i), x2], st, a, h) = Rn 33 (7, [x0, some (.int i), x2], .int i :: st, a, h) := Rn_go c33_6 rfl
theorem c33_7 : mcode 33 7 = some (.invokevirtual 36, 3, 30, 1, 3) := rfl
theorem r33_7 : Rn 33 (7, [x0, x1, x2], [v0, .ref q, .int i0, .int i1], a, h) = if mis h q 3 = true then Bk 33 10 [x0, x1, x2] [.int i0, .int i1] (Ec 30 [.ref q, v0] a h) else none := Rn_call1 c33_7 rfl (Nat.le_of_ble_eq_true rfl) rfl rfl (Nat.le_of_ble_eq_true rfl)
theorem c33_10 : mcode 33 10 = some (.isub, 1, 0, 0, 0) := rfl
theorem r33_10 : Rn 33 (10, [x0, x1, x2], .int j :: .int i :: st, a, h) = Rn 33 (11, [x0, x1, x2], .int (i - j) :: st, a, h) := Rn_go c33_10 rfl
theorem c33_11 : mcode 33 11 = some (.bipush 7, 2, 0, 0, 0) := rfl
theorem r33_11 : Rn 33 (11, [x0, x1, x2], st, a, h) = Rn 33 (13, [x0, x1, x2], .int (7 : Int32) :: st, a, h) := Rn_go c33_11 rfl
theorem c33_13 : mcode 33 13 = some (.invokestatic 30, 3, 228, 2, 0) := rfl
theorem r33_13 : Rn 33 (13, [x0, x1, x2], [v1, v0, .int i0], a, h) = Bk 33 16 [x0, x1, x2] [.int i0] (Ec 228 [v0, v1] a h) := Rn_call0 c33_13 (fun z => nomatch z) rfl (Nat.le_of_ble_eq_true rfl) rfl rfl (Nat.le_of_ble_eq_true rfl)
theorem c33_16 : mcode 33 16 = some (.invokestatic 40, 3, 227, 2, 0) := rfl
theorem r33_16 : Rn 33 (16, [x0, x1, x2], [v1, v0], a, h) = Bk 33 19 [x0, x1, x2] [] (Ec 227 [v0, v1] a h) := Rn_call0 c33_16 (fun z => nomatch z) rfl (Nat.le_of_ble_eq_true rfl) rfl rfl (Nat.le_of_ble_eq_true rfl)
theorem c33_19 : mcode 33 19 = some (.istore_n 2, 1, 0, 0, 0) := rfl
theorem r33_19 : Rn 33 (19, [x0, x1, x2], .int i :: st, a, h) = Nl x1 (Rn 33 (20, [x0, x1, some (.int i)], st, a, h)) := Rn_st1 (k := 2) (v := .int i) x1 c33_19 rfl rfl rfl rfl
theorem c33_20 : mcode 33 20 = some (.aload_n 0, 1, 0, 0, 0) := rfl
theorem r33_20 : Rn 33 (20, [some (.ref q), x1, x2], st, a, h) = Rn 33 (21, [some (.ref q), x1, x2], .ref q :: st, a, h) := Rn_go c33_20 rfl
theorem c33_21 : mcode 33 21 = some (.getfield 15, 3, 3, 1, 0) := rfl
theorem r33_21 : Rn 33 (21, [x0, x1, x2], .ref q :: st, a, h) = Kv 33 24 [x0, x1, x2] st a h (mgf h q 3 1) := Rn_getf c33_21 rfl
theorem c33_24 : mcode 33 24 = some (.ifCond .eq 23, 3, 0, 0, 0) := rfl
theorem r33_24 : Rn 33 (24, [x0, x1, x2], .int i :: st, a, h) = if i = 0 then Rn 33 (47, [x0, x1, x2], st, a, h) else Rn 33 (27, [x0, x1, x2], st, a, h) := Rn_ifc c33_24 mc_eq rfl rfl
theorem c33_27 : mcode 33 27 = some (.iload_n 2, 1, 0, 0, 0) := rfl
theorem r33_27 : Rn 33 (27, [x0, x1, some (.int i)], st, a, h) = Rn 33 (28, [x0, x1, some (.int i)], .int i :: st, a, h) := Rn_go c33_27 rfl
theorem c33_28 : mcode 33 28 = some (.ifCond .ne 19, 3, 0, 0, 0) := rfl
theorem r33_28 : Rn 33 (28, [x0, x1, x2], .int i :: st, a, h) = if i = 0 then Rn 33 (31, [x0, x1, x2], st, a, h) else Rn 33 (47, [x0, x1, x2], st, a, h) := Rn_ifcn c33_28 mc_ne rfl rfl
theorem c33_31 : mcode 33 31 = some (.aload_n 0, 1, 0, 0, 0) := rfl
theorem r33_31 : Rn 33 (31, [some (.ref q), x1, x2], st, a, h) = Rn 33 (32, [some (.ref q), x1, x2], .ref q :: st, a, h) := Rn_go c33_31 rfl
theorem c33_32 : mcode 33 32 = some (.aload_n 0, 1, 0, 0, 0) := rfl
theorem r33_32 : Rn 33 (32, [some (.ref q), x1, x2], st, a, h) = Rn 33 (33, [some (.ref q), x1, x2], .ref q :: st, a, h) := Rn_go c33_32 rfl
theorem c33_33 : mcode 33 33 = some (.getfield 27, 3, 3, 5, 0) := rfl
theorem r33_33 : Rn 33 (33, [x0, x1, x2], .ref q :: st, a, h) = Kv 33 36 [x0, x1, x2] st a h (mgf h q 3 5) := Rn_getf c33_33 rfl
theorem c33_36 : mcode 33 36 = some (.iconst 1, 1, 0, 0, 0) := rfl
theorem r33_36 : Rn 33 (36, [x0, x1, x2], st, a, h) = Rn 33 (37, [x0, x1, x2], .int (1 : Int32) :: st, a, h) := Rn_go c33_36 rfl
theorem c33_37 : mcode 33 37 = some (.iadd, 1, 0, 0, 0) := rfl
theorem r33_37 : Rn 33 (37, [x0, x1, x2], .int j :: .int i :: st, a, h) = Rn 33 (38, [x0, x1, x2], .int (i + j) :: st, a, h) := Rn_go c33_37 rfl
theorem c33_38 : mcode 33 38 = some (.sipush 999, 3, 0, 0, 0) := rfl
theorem r33_38 : Rn 33 (38, [x0, x1, x2], st, a, h) = Rn 33 (41, [x0, x1, x2], .int (999 : Int32) :: st, a, h) := Rn_go c33_38 rfl
theorem c33_41 : mcode 33 41 = some (.invokestatic 30, 3, 228, 2, 0) := rfl
theorem r33_41 : Rn 33 (41, [x0, x1, x2], [v1, v0, .ref q0], a, h) = Bk 33 44 [x0, x1, x2] [.ref q0] (Ec 228 [v0, v1] a h) := Rn_call0 c33_41 (fun z => nomatch z) rfl (Nat.le_of_ble_eq_true rfl) rfl rfl (Nat.le_of_ble_eq_true rfl)
theorem c33_44 : mcode 33 44 = some (.putfield 27, 3, 3, 5, 0) := rfl
theorem r33_44 : Rn 33 (44, [x0, x1, x2], .int i :: .ref q :: st, a, h) = Kh 33 47 [x0, x1, x2] st a (mpf h q 3 5 (.int i)) := Rn_putfi c33_44 rfl rfl
theorem c33_47 : mcode 33 47 = some (.aload_n 0, 1, 0, 0, 0) := rfl
theorem r33_47 : Rn 33 (47, [some (.ref q), x1, x2], st, a, h) = Rn 33 (48, [some (.ref q), x1, x2], .ref q :: st, a, h) := Rn_go c33_47 rfl
theorem c33_48 : mcode 33 48 = some (.iload_n 2, 1, 0, 0, 0) := rfl
theorem r33_48 : Rn 33 (48, [x0, x1, some (.int i)], st, a, h) = Rn 33 (49, [x0, x1, some (.int i)], .int i :: st, a, h) := Rn_go c33_48 rfl
theorem c33_49 : mcode 33 49 = some (.putfield 15, 3, 3, 1, 0) := rfl
theorem r33_49 : Rn 33 (49, [x0, x1, x2], .int i :: .ref q :: st, a, h) = Kh 33 52 [x0, x1, x2] st a (mpf h q 3 1 (.int i)) := Rn_putfi c33_49 rfl rfl
theorem c33_52 : mcode 33 52 = some (.aload_n 0, 1, 0, 0, 0) := rfl
theorem r33_52 : Rn 33 (52, [some (.ref q), x1, x2], st, a, h) = Rn 33 (53, [some (.ref q), x1, x2], .ref q :: st, a, h) := Rn_go c33_52 rfl
theorem c33_53 : mcode 33 53 = some (.aload_n 0, 1, 0, 0, 0) := rfl
theorem r33_53 : Rn 33 (53, [some (.ref q), x1, x2], st, a, h) = Rn 33 (54, [some (.ref q), x1, x2], .ref q :: st, a, h) := Rn_go c33_53 rfl
theorem c33_54 : mcode 33 54 = some (.getfield 24, 3, 3, 4, 0) := rfl
theorem r33_54 : Rn 33 (54, [x0, x1, x2], .ref q :: st, a, h) = Kv 33 57 [x0, x1, x2] st a h (mgf h q 3 4) := Rn_getf c33_54 rfl
theorem c33_57 : mcode 33 57 = some (.iconst 1, 1, 0, 0, 0) := rfl
theorem r33_57 : Rn 33 (57, [x0, x1, x2], st, a, h) = Rn 33 (58, [x0, x1, x2], .int (1 : Int32) :: st, a, h) := Rn_go c33_57 rfl
theorem c33_58 : mcode 33 58 = some (.iadd, 1, 0, 0, 0) := rfl
theorem r33_58 : Rn 33 (58, [x0, x1, x2], .int j :: .int i :: st, a, h) = Rn 33 (59, [x0, x1, x2], .int (i + j) :: st, a, h) := Rn_go c33_58 rfl
theorem c33_59 : mcode 33 59 = some (.sipush 999, 3, 0, 0, 0) := rfl
theorem r33_59 : Rn 33 (59, [x0, x1, x2], st, a, h) = Rn 33 (62, [x0, x1, x2], .int (999 : Int32) :: st, a, h) := Rn_go c33_59 rfl
theorem c33_62 : mcode 33 62 = some (.invokestatic 30, 3, 228, 2, 0) := rfl
theorem r33_62 : Rn 33 (62, [x0, x1, x2], [v1, v0, .ref q0], a, h) = Bk 33 65 [x0, x1, x2] [.ref q0] (Ec 228 [v0, v1] a h) := Rn_call0 c33_62 (fun z => nomatch z) rfl (Nat.le_of_ble_eq_true rfl) rfl rfl (Nat.le_of_ble_eq_true rfl)
theorem c33_65 : mcode 33 65 = some (.putfield 24, 3, 3, 4, 0) := rfl
theorem r33_65 : Rn 33 (65, [x0, x1, x2], .int i :: .ref q :: st, a, h) = Kh 33 68 [x0, x1, x2] st a (mpf h q 3 4 (.int i)) := Rn_putfi c33_65 rfl rfl
theorem c33_68 : mcode 33 68 = some (.return_, 1, 0, 0, 0) := rfl
theorem r33_68 : Rn 33 (68, [x0, x1, x2], [], a, h) = some (none, a, h) := Rn_act c33_68
theorem c34_0 : mcode 34 0 = some (.aload_n 0, 1, 0, 0, 0) := rfl
theorem r34_0 : Rn 34 (0, [some (.ref q), x1], st, a, h) = Rn 34 (1, [some (.ref q), x1], .ref q :: st, a, h) := Rn_go c34_0 rfl
theorem c34_1 : mcode 34 1 = some (.invokespecial 3, 3, 9999, 0, 0) := rfl
theorem r34_1 : Rn 34 (1, [x0, x1], [.ref q], a, h) = Rn 34 (4, [x0, x1], [], a, h) := Rn_go c34_1 rfl
theorem c34_4 : mcode 34 4 = some (.aload_n 0, 1, 0, 0, 0) := rfl
theorem r34_4 : Rn 34 (4, [some (.ref q), x1], st, a, h) = Rn 34 (5, [some (.ref q), x1], .ref q :: st, a, h) := Rn_go c34_4 rfl
theorem c34_5 : mcode 34 5 = some (.bipush 24, 2, 0, 0, 0) := rfl
theorem r34_5 : Rn 34 (5, [x0, x1], st, a, h) = Rn 34 (7, [x0, x1], .int (24 : Int32) :: st, a, h) := Rn_go c34_5 rfl
theorem c34_7 : mcode 34 7 = some (.newarray .int, 2, 0, 0, 0) := rfl
theorem r34_7 {b c d : Nat} (hi : ¬ i < 0) (hj : i.toNatClampNeg ≤ 65536) (hb : b < 999) : Rn 34 (7, [x0, x1], .int i :: st, (b, c, d), h) = Rn 34 (9, [x0, x1], .ref b :: st, (b + 1, c + 1, d + i.toNatClampNeg), mup h b (.inl (i.toNatClampNeg, fun _ => 0))) := Rn_newarray c34_7 rfl hi hj hb
theorem c34_9 : mcode 34 9 = some (.putfield 9, 3, 4, 0, 2) := rfl
theorem r34_9 : Rn 34 (9, [x0, x1], .ref p :: .ref q :: st, a, h) = Kh 34 12 [x0, x1] st a (mpf h q 4 0 (.ref p)) := Rn_putfr c34_9 rfl rfl
theorem c34_12 : mcode 34 12 = some (.aload_n 0, 1, 0, 0, 0) := rfl
theorem r34_12 : Rn 34 (12, [some (.ref q), x1], st, a, h) = Rn 34 (13, [some (.ref q), x1], .ref q :: st, a, h) := Rn_go c34_12 rfl
theorem c34_13 : mcode 34 13 = some (.bipush 8, 2, 0, 0, 0) := rfl
theorem r34_13 : Rn 34 (13, [x0, x1], st, a, h) = Rn 34 (15, [x0, x1], .int (8 : Int32) :: st, a, h) := Rn_go c34_13 rfl
theorem c34_15 : mcode 34 15 = some (.anewarray 15, 3, 3, 0, 0) := rfl
theorem r34_15 {b c d : Nat} (hi : ¬ i < 0) (hj : i.toNatClampNeg ≤ 65536) (hb : b < 999) : Rn 34 (15, [x0, x1], .int i :: st, (b, c, d), h) = Rn 34 (18, [x0, x1], .ref b :: st, (b + 1, c + 1, d + i.toNatClampNeg), mup h b (.inr (.inl (3, i.toNatClampNeg, fun _ => none)))) := Rn_anewarray c34_15 rfl hi hj hb
theorem c34_18 : mcode 34 18 = some (.putfield 17, 3, 4, 1, 2) := rfl
theorem r34_18 : Rn 34 (18, [x0, x1], .ref p :: .ref q :: st, a, h) = Kh 34 21 [x0, x1] st a (mpf h q 4 1 (.ref p)) := Rn_putfr c34_18 rfl rfl
theorem c34_21 : mcode 34 21 = some (.aload_n 0, 1, 0, 0, 0) := rfl
theorem r34_21 : Rn 34 (21, [some (.ref q), x1], st, a, h) = Rn 34 (22, [some (.ref q), x1], .ref q :: st, a, h) := Rn_go c34_21 rfl
theorem c34_22 : mcode 34 22 = some (.bipush 10, 2, 0, 0, 0) := rfl
theorem r34_22 : Rn 34 (22, [x0, x1], st, a, h) = Rn 34 (24, [x0, x1], .int (10 : Int32) :: st, a, h) := Rn_go c34_22 rfl
theorem c34_24 : mcode 34 24 = some (.newarray .int, 2, 0, 0, 0) := rfl
theorem r34_24 {b c d : Nat} (hi : ¬ i < 0) (hj : i.toNatClampNeg ≤ 65536) (hb : b < 999) : Rn 34 (24, [x0, x1], .int i :: st, (b, c, d), h) = Rn 34 (26, [x0, x1], .ref b :: st, (b + 1, c + 1, d + i.toNatClampNeg), mup h b (.inl (i.toNatClampNeg, fun _ => 0))) := Rn_newarray c34_24 rfl hi hj hb
theorem c34_26 : mcode 34 26 = some (.putfield 21, 3, 4, 2, 2) := rfl
theorem r34_26 : Rn 34 (26, [x0, x1], .ref p :: .ref q :: st, a, h) = Kh 34 29 [x0, x1] st a (mpf h q 4 2 (.ref p)) := Rn_putfr c34_26 rfl rfl
theorem c34_29 : mcode 34 29 = some (.aload_n 0, 1, 0, 0, 0) := rfl
theorem r34_29 : Rn 34 (29, [some (.ref q), x1], st, a, h) = Rn 34 (30, [some (.ref q), x1], .ref q :: st, a, h) := Rn_go c34_29 rfl
theorem c34_30 : mcode 34 30 = some (.iconst 0, 1, 0, 0, 0) := rfl
theorem r34_30 : Rn 34 (30, [x0, x1], st, a, h) = Rn 34 (31, [x0, x1], .int (0 : Int32) :: st, a, h) := Rn_go c34_30 rfl
theorem c34_31 : mcode 34 31 = some (.putfield 24, 3, 4, 3, 0) := rfl
theorem r34_31 : Rn 34 (31, [x0, x1], .int i :: .ref q :: st, a, h) = Kh 34 34 [x0, x1] st a (mpf h q 4 3 (.int i)) := Rn_putfi c34_31 rfl rfl
theorem c34_34 : mcode 34 34 = some (.aload_n 0, 1, 0, 0, 0) := rfl
theorem r34_34 : Rn 34 (34, [some (.ref q), x1], st, a, h) = Rn 34 (35, [some (.ref q), x1], .ref q :: st, a, h) := Rn_go c34_34 rfl
theorem c34_35 : mcode 34 35 = some (.iconst 1, 1, 0, 0, 0) := rfl
theorem r34_35 : Rn 34 (35, [x0, x1], st, a, h) = Rn 34 (36, [x0, x1], .int (1 : Int32) :: st, a, h) := Rn_go c34_35 rfl
theorem c34_36 : mcode 34 36 = some (.putfield 28, 3, 4, 4, 0) := rfl
theorem r34_36 : Rn 34 (36, [x0, x1], .int i :: .ref q :: st, a, h) = Kh 34 39 [x0, x1] st a (mpf h q 4 4 (.int i)) := Rn_putfi c34_36 rfl rfl
theorem c34_39 : mcode 34 39 = some (.aload_n 0, 1, 0, 0, 0) := rfl
theorem r34_39 : Rn 34 (39, [some (.ref q), x1], st, a, h) = Rn 34 (40, [some (.ref q), x1], .ref q :: st, a, h) := Rn_go c34_39 rfl
theorem c34_40 : mcode 34 40 = some (.iconst 0, 1, 0, 0, 0) := rfl
theorem r34_40 : Rn 34 (40, [x0, x1], st, a, h) = Rn 34 (41, [x0, x1], .int (0 : Int32) :: st, a, h) := Rn_go c34_40 rfl
theorem c34_41 : mcode 34 41 = some (.putfield 31, 3, 4, 5, 0) := rfl
theorem r34_41 : Rn 34 (41, [x0, x1], .int i :: .ref q :: st, a, h) = Kh 34 44 [x0, x1] st a (mpf h q 4 5 (.int i)) := Rn_putfi c34_41 rfl rfl
theorem c34_44 : mcode 34 44 = some (.aload_n 0, 1, 0, 0, 0) := rfl
theorem r34_44 : Rn 34 (44, [some (.ref q), x1], st, a, h) = Rn 34 (45, [some (.ref q), x1], .ref q :: st, a, h) := Rn_go c34_44 rfl
theorem c34_45 : mcode 34 45 = some (.iconst 1, 1, 0, 0, 0) := rfl
theorem r34_45 : Rn 34 (45, [x0, x1], st, a, h) = Rn 34 (46, [x0, x1], .int (1 : Int32) :: st, a, h) := Rn_go c34_45 rfl
theorem c34_46 : mcode 34 46 = some (.putfield 34, 3, 4, 6, 0) := rfl
theorem r34_46 : Rn 34 (46, [x0, x1], .int i :: .ref q :: st, a, h) = Kh 34 49 [x0, x1] st a (mpf h q 4 6 (.int i)) := Rn_putfi c34_46 rfl rfl
theorem c34_49 : mcode 34 49 = some (.aload_n 0, 1, 0, 0, 0) := rfl
theorem r34_49 : Rn 34 (49, [some (.ref q), x1], st, a, h) = Rn 34 (50, [some (.ref q), x1], .ref q :: st, a, h) := Rn_go c34_49 rfl
theorem c34_50 : mcode 34 50 = some (.iconst 0, 1, 0, 0, 0) := rfl
theorem r34_50 : Rn 34 (50, [x0, x1], st, a, h) = Rn 34 (51, [x0, x1], .int (0 : Int32) :: st, a, h) := Rn_go c34_50 rfl
theorem c34_51 : mcode 34 51 = some (.putfield 37, 3, 4, 7, 0) := rfl
theorem r34_51 : Rn 34 (51, [x0, x1], .int i :: .ref q :: st, a, h) = Kh 34 54 [x0, x1] st a (mpf h q 4 7 (.int i)) := Rn_putfi c34_51 rfl rfl
theorem c34_54 : mcode 34 54 = some (.iconst 0, 1, 0, 0, 0) := rfl
theorem r34_54 : Rn 34 (54, [x0, x1], st, a, h) = Rn 34 (55, [x0, x1], .int (0 : Int32) :: st, a, h) := Rn_go c34_54 rfl
theorem c34_55 : mcode 34 55 = some (.istore_n 1, 1, 0, 0, 0) := rfl
theorem r34_55 : Rn 34 (55, [x0, x1], .int i :: st, a, h) = Nl x0 (Rn 34 (56, [x0, some (.int i)], st, a, h)) := Rn_st1 (k := 1) (v := .int i) x0 c34_55 rfl rfl rfl rfl
theorem c34_56 : mcode 34 56 = some (.iload_n 1, 1, 0, 0, 0) := rfl
theorem r34_56 : Rn 34 (56, [x0, some (.int i)], st, a, h) = Rn 34 (57, [x0, some (.int i)], .int i :: st, a, h) := Rn_go c34_56 rfl
theorem c34_57 : mcode 34 57 = some (.aload_n 0, 1, 0, 0, 0) := rfl
theorem r34_57 : Rn 34 (57, [some (.ref q), x1], st, a, h) = Rn 34 (58, [some (.ref q), x1], .ref q :: st, a, h) := Rn_go c34_57 rfl
theorem c34_58 : mcode 34 58 = some (.getfield 17, 3, 4, 1, 0) := rfl
theorem r34_58 : Rn 34 (58, [x0, x1], .ref q :: st, a, h) = Kv 34 61 [x0, x1] st a h (mgf h q 4 1) := Rn_getf c34_58 rfl
theorem c34_61 : mcode 34 61 = some (.arraylength, 1, 0, 0, 0) := rfl
theorem r34_61 : Rn 34 (61, [x0, x1], .ref q :: st, a, h) = Ki 34 62 [x0, x1] st a h (mlen h q) := Rn_alen c34_61 rfl
theorem c34_62 : mcode 34 62 = some (.if_icmp .ge 22, 3, 0, 0, 0) := rfl
theorem r34_62 : Rn 34 (62, [x0, x1], .int j :: .int i :: st, a, h) = if i < j then Rn 34 (65, [x0, x1], st, a, h) else Rn 34 (84, [x0, x1], st, a, h) := Rn_icmpn c34_62 mc_ge rfl rfl
theorem c34_65 : mcode 34 65 = some (.aload_n 0, 1, 0, 0, 0) := rfl
theorem r34_65 : Rn 34 (65, [some (.ref q), x1], st, a, h) = Rn 34 (66, [some (.ref q), x1], .ref q :: st, a, h) := Rn_go c34_65 rfl
theorem c34_66 : mcode 34 66 = some (.getfield 17, 3, 4, 1, 0) := rfl
theorem r34_66 : Rn 34 (66, [x0, x1], .ref q :: st, a, h) = Kv 34 69 [x0, x1] st a h (mgf h q 4 1) := Rn_getf c34_66 rfl
theorem c34_69 : mcode 34 69 = some (.iload_n 1, 1, 0, 0, 0) := rfl
theorem r34_69 : Rn 34 (69, [x0, some (.int i)], st, a, h) = Rn 34 (70, [x0, some (.int i)], .int i :: st, a, h) := Rn_go c34_69 rfl
theorem c34_70 : mcode 34 70 = some (.new 15, 3, 3, 0, 0) := rfl
theorem r34_70 {b c d : Nat} (hb : b < 999) : Rn 34 (70, [x0, x1], st, (b, c, d), h) = Rn 34 (73, [x0, x1], .ref b :: st, (b + 1, c + 1, d + 6), mup h b (.inr (.inr (3, mdf 3)))) := Rn_new c34_70 rfl hb
theorem c34_73 : mcode 34 73 = some (.dup, 1, 0, 0, 0) := rfl
theorem r34_73 : Rn 34 (73, [x0, x1], .ref q :: st, a, h) = Rn 34 (74, [x0, x1], .ref q :: .ref q :: st, a, h) := Rn_go c34_73 rfl
theorem c34_74 : mcode 34 74 = some (.invokespecial 40, 3, 26, 0, 0) := rfl
theorem r34_74 : Rn 34 (74, [x0, x1], [.ref q, .ref q0, .int i1, .ref q2], a, h) = Bk 34 77 [x0, x1] [.ref q0, .int i1, .ref q2] (Ec 26 [.ref q] a h) := Rn_call2 c34_74 (fun z => nomatch z) rfl (Nat.le_of_ble_eq_true rfl) rfl rfl (Nat.le_of_ble_eq_true rfl)
theorem c34_77 : mcode 34 77 = some (.aastore, 1, 0, 0, 0) := rfl
theorem r34_77 : Rn 34 (77, [x0, x1], .ref p :: .int i :: .ref q :: st, a, h) = Kh 34 78 [x0, x1] st a (maas h q i p) := Rn_aast c34_77 rfl
theorem c34_78 : mcode 34 78 = some (.iinc 1 1, 3, 0, 0, 0) := rfl
theorem r34_78 : Rn 34 (78, [x0, some (.int i)], st, a, h) = Nl x0 (Rn 34 (81, [x0, some (.int (i + (1 : Int32)))], st, a, h)) := Rn_st1 (k := 1) (v := .int (i + (1 : Int32))) x0 c34_78 rfl rfl rfl rfl
theorem c34_81 : mcode 34 81 = some (.goto (-25), 3, 0, 0, 0) := rfl
theorem r34_81 : Rn 34 (81, [x0, x1], st, a, h) = Rn 34 (56, [x0, x1], st, a, h) := Rn_goto c34_81 rfl
theorem c34_84 : mcode 34 84 = some (.iconst 0, 1, 0, 0, 0) := rfl
theorem r34_84 : Rn 34 (84, [x0, x1], st, a, h) = Rn 34 (85, [x0, x1], .int (0 : Int32) :: st, a, h) := Rn_go c34_84 rfl
theorem c34_85 : mcode 34 85 = some (.istore_n 1, 1, 0, 0, 0) := rfl
theorem r34_85 : Rn 34 (85, [x0, x1], .int i :: st, a, h) = Nl x0 (Rn 34 (86, [x0, some (.int i)], st, a, h)) := Rn_st1 (k := 1) (v := .int i) x0 c34_85 rfl rfl rfl rfl
theorem c34_86 : mcode 34 86 = some (.iload_n 1, 1, 0, 0, 0) := rfl
theorem r34_86 : Rn 34 (86, [x0, some (.int i)], st, a, h) = Rn 34 (87, [x0, some (.int i)], .int i :: st, a, h) := Rn_go c34_86 rfl
theorem c34_87 : mcode 34 87 = some (.aload_n 0, 1, 0, 0, 0) := rfl
theorem r34_87 : Rn 34 (87, [some (.ref q), x1], st, a, h) = Rn 34 (88, [some (.ref q), x1], .ref q :: st, a, h) := Rn_go c34_87 rfl
theorem c34_88 : mcode 34 88 = some (.getfield 21, 3, 4, 2, 0) := rfl
theorem r34_88 : Rn 34 (88, [x0, x1], .ref q :: st, a, h) = Kv 34 91 [x0, x1] st a h (mgf h q 4 2) := Rn_getf c34_88 rfl
theorem c34_91 : mcode 34 91 = some (.arraylength, 1, 0, 0, 0) := rfl
theorem r34_91 : Rn 34 (91, [x0, x1], .ref q :: st, a, h) = Ki 34 92 [x0, x1] st a h (mlen h q) := Rn_alen c34_91 rfl
theorem c34_92 : mcode 34 92 = some (.if_icmp .ge 16, 3, 0, 0, 0) := rfl
theorem r34_92 : Rn 34 (92, [x0, x1], .int j :: .int i :: st, a, h) = if i < j then Rn 34 (95, [x0, x1], st, a, h) else Rn 34 (108, [x0, x1], st, a, h) := Rn_icmpn c34_92 mc_ge rfl rfl
theorem c34_95 : mcode 34 95 = some (.aload_n 0, 1, 0, 0, 0) := rfl
theorem r34_95 : Rn 34 (95, [some (.ref q), x1], st, a, h) = Rn 34 (96, [some (.ref q), x1], .ref q :: st, a, h) := Rn_go c34_95 rfl
theorem c34_96 : mcode 34 96 = some (.getfield 21, 3, 4, 2, 0) := rfl
theorem r34_96 : Rn 34 (96, [x0, x1], .ref q :: st, a, h) = Kv 34 99 [x0, x1] st a h (mgf h q 4 2) := Rn_getf c34_96 rfl
theorem c34_99 : mcode 34 99 = some (.iload_n 1, 1, 0, 0, 0) := rfl
theorem r34_99 : Rn 34 (99, [x0, some (.int i)], st, a, h) = Rn 34 (100, [x0, some (.int i)], .int i :: st, a, h) := Rn_go c34_99 rfl
theorem c34_100 : mcode 34 100 = some (.iconst (-1), 1, 0, 0, 0) := rfl
theorem r34_100 : Rn 34 (100, [x0, x1], st, a, h) = Rn 34 (101, [x0, x1], .int (-1 : Int32) :: st, a, h) := Rn_go c34_100 rfl
theorem c34_101 : mcode 34 101 = some (.iastore, 1, 0, 0, 0) := rfl
theorem r34_101 : Rn 34 (101, [x0, x1], .int j :: .int i :: .ref q :: st, a, h) = Kh 34 102 [x0, x1] st a (mias h q i j) := Rn_iast c34_101 rfl
theorem c34_102 : mcode 34 102 = some (.iinc 1 1, 3, 0, 0, 0) := rfl
theorem r34_102 : Rn 34 (102, [x0, some (.int i)], st, a, h) = Nl x0 (Rn 34 (105, [x0, some (.int (i + (1 : Int32)))], st, a, h)) := Rn_st1 (k := 1) (v := .int (i + (1 : Int32))) x0 c34_102 rfl rfl rfl rfl
theorem c34_105 : mcode 34 105 = some (.goto (-19), 3, 0, 0, 0) := rfl
theorem r34_105 : Rn 34 (105, [x0, x1], st, a, h) = Rn 34 (86, [x0, x1], st, a, h) := Rn_goto c34_105 rfl
theorem c34_108 : mcode 34 108 = some (.return_, 1, 0, 0, 0) := rfl
theorem r34_108 : Rn 34 (108, [x0, x1], [], a, h) = some (none, a, h) := Rn_act c34_108
theorem c35_0 : mcode 35 0 = some (.aload_n 1, 1, 0, 0, 0) := rfl
theorem r35_0 : Rn 35 (0, [x0, some (.ref q), x2], st, a, h) = Rn 35 (1, [x0, some (.ref q), x2], .ref q :: st, a, h) := Rn_go c35_0 rfl
theorem c35_1 : mcode 35 1 = some (.getfield 9, 3, 4, 0, 0) := rfl
theorem r35_1 : Rn 35 (1, [x0, x1, x2], .ref q :: st, a, h) = Kv 35 4 [x0, x1, x2] st a h (mgf h q 4 0) := Rn_getf c35_1 rfl
theorem c35_4 : mcode 35 4 = some (.iconst 0, 1, 0, 0, 0) := rfl
theorem r35_4 : Rn 35 (4, [x0, x1, x2], st, a, h) = Rn 35 (5, [x0, x1, x2], .int (0 : Int32) :: st, a, h) := Rn_go c35_4 rfl
theorem c35_5 : mcode 35 5 = some (.aload_n 0, 1, 0, 0, 0) := rfl
theorem r35_5 : Rn 35 (5, [some (.ref q), x1, x2], st, a, h) = Rn 35 (6, [some (.ref q), x1, x2], .ref q :: st, a, h) := Rn_go c35_5 rfl
theorem c35_6 : mcode 35 6 = some (.getfield 9, 3, 4, 0, 0) := rfl
theorem r35_6 : Rn 35 (6, [x0, x1, x2], .ref q :: st, a, h) = Kv 35 9 [x0, x1, x2] st a h (mgf h q 4 0) := Rn_getf c35_6 rfl
theorem c35_9 : mcode 35 9 = some (.iconst 0, 1, 0, 0, 0) := rfl
theorem r35_9 : Rn 35 (9, [x0, x1, x2], st, a, h) = Rn 35 (10, [x0, x1, x2], .int (0 : Int32) :: st, a, h) := Rn_go c35_9 rfl
theorem c35_10 : mcode 35 10 = some (.aload_n 0, 1, 0, 0, 0) := rfl
theorem r35_10 : Rn 35 (10, [some (.ref q), x1, x2], st, a, h) = Rn 35 (11, [some (.ref q), x1, x2], .ref q :: st, a, h) := Rn_go c35_10 rfl
theorem c35_11 : mcode 35 11 = some (.getfield 9, 3, 4, 0, 0) := rfl
theorem r35_11 : Rn 35 (11, [x0, x1, x2], .ref q :: st, a, h) = Kv 35 14 [x0, x1, x2] st a h (mgf h q 4 0) := Rn_getf c35_11 rfl
theorem c35_14 : mcode 35 14 = some (.arraylength, 1, 0, 0, 0) := rfl
theorem r35_14 : Rn 35 (14, [x0, x1, x2], .ref q :: st, a, h) = Ki 35 15 [x0, x1, x2] st a h (mlen h q) := Rn_alen c35_14 rfl
theorem c35_15 : mcode 35 15 = some (.invokestatic 41, 3, 9998, 0, 0) := rfl
theorem r35_15 : Rn 35 (15, [x0, x1, x2], [.int i, .int j, .ref p, .int k, .ref q], a, h) = Kh 35 18 [x0, x1, x2] [] a (mcp h q k p j i) := Rn_copy c35_15 rfl (Nat.le_of_ble_eq_true rfl)
theorem c35_18 : mcode 35 18 = some (.aload_n 1, 1, 0, 0, 0) := rfl
theorem r35_18 : Rn 35 (18, [x0, some (.ref q), x2], st, a, h) = Rn 35 (19, [x0, some (.ref q), x2], .ref q :: st, a, h) := Rn_go c35_18 rfl
theorem c35_19 : mcode 35 19 = some (.getfield 21, 3, 4, 2, 0) := rfl
theorem r35_19 : Rn 35 (19, [x0, x1, x2], .ref q :: st, a, h) = Kv 35 22 [x0, x1, x2] st a h (mgf h q 4 2) := Rn_getf c35_19 rfl
theorem c35_22 : mcode 35 22 = some (.iconst 0, 1, 0, 0, 0) := rfl
theorem r35_22 : Rn 35 (22, [x0, x1, x2], st, a, h) = Rn 35 (23, [x0, x1, x2], .int (0 : Int32) :: st, a, h) := Rn_go c35_22 rfl
theorem c35_23 : mcode 35 23 = some (.aload_n 0, 1, 0, 0, 0) := rfl
theorem r35_23 : Rn 35 (23, [some (.ref q), x1, x2], st, a, h) = Rn 35 (24, [some (.ref q), x1, x2], .ref q :: st, a, h) := Rn_go c35_23 rfl
theorem c35_24 : mcode 35 24 = some (.getfield 21, 3, 4, 2, 0) := rfl
theorem r35_24 : Rn 35 (24, [x0, x1, x2], .ref q :: st, a, h) = Kv 35 27 [x0, x1, x2] st a h (mgf h q 4 2) := Rn_getf c35_24 rfl
theorem c35_27 : mcode 35 27 = some (.iconst 0, 1, 0, 0, 0) := rfl
theorem r35_27 : Rn 35 (27, [x0, x1, x2], st, a, h) = Rn 35 (28, [x0, x1, x2], .int (0 : Int32) :: st, a, h) := Rn_go c35_27 rfl
theorem c35_28 : mcode 35 28 = some (.aload_n 0, 1, 0, 0, 0) := rfl
theorem r35_28 : Rn 35 (28, [some (.ref q), x1, x2], st, a, h) = Rn 35 (29, [some (.ref q), x1, x2], .ref q :: st, a, h) := Rn_go c35_28 rfl
theorem c35_29 : mcode 35 29 = some (.getfield 21, 3, 4, 2, 0) := rfl
theorem r35_29 : Rn 35 (29, [x0, x1, x2], .ref q :: st, a, h) = Kv 35 32 [x0, x1, x2] st a h (mgf h q 4 2) := Rn_getf c35_29 rfl
theorem c35_32 : mcode 35 32 = some (.arraylength, 1, 0, 0, 0) := rfl
theorem r35_32 : Rn 35 (32, [x0, x1, x2], .ref q :: st, a, h) = Ki 35 33 [x0, x1, x2] st a h (mlen h q) := Rn_alen c35_32 rfl
theorem c35_33 : mcode 35 33 = some (.invokestatic 41, 3, 9998, 0, 0) := rfl
theorem r35_33 : Rn 35 (33, [x0, x1, x2], [.int i, .int j, .ref p, .int k, .ref q], a, h) = Kh 35 36 [x0, x1, x2] [] a (mcp h q k p j i) := Rn_copy c35_33 rfl (Nat.le_of_ble_eq_true rfl)
theorem c35_36 : mcode 35 36 = some (.aload_n 0, 1, 0, 0, 0) := rfl
theorem r35_36 : Rn 35 (36, [some (.ref q), x1, x2], st, a, h) = Rn 35 (37, [some (.ref q), x1, x2], .ref q :: st, a, h) := Rn_go c35_36 rfl
theorem c35_37 : mcode 35 37 = some (.aload_n 1, 1, 0, 0, 0) := rfl
theorem r35_37 : Rn 35 (37, [x0, some (.ref q), x2], st, a, h) = Rn 35 (38, [x0, some (.ref q), x2], .ref q :: st, a, h) := Rn_go c35_37 rfl
theorem c35_38 : mcode 35 38 = some (.getfield 24, 3, 4, 3, 0) := rfl
theorem r35_38 : Rn 35 (38, [x0, x1, x2], .ref q :: st, a, h) = Kv 35 41 [x0, x1, x2] st a h (mgf h q 4 3) := Rn_getf c35_38 rfl
theorem c35_41 : mcode 35 41 = some (.putfield 24, 3, 4, 3, 0) := rfl
theorem r35_41 : Rn 35 (41, [x0, x1, x2], .int i :: .ref q :: st, a, h) = Kh 35 44 [x0, x1, x2] st a (mpf h q 4 3 (.int i)) := Rn_putfi c35_41 rfl rfl
theorem c35_44 : mcode 35 44 = some (.iconst 0, 1, 0, 0, 0) := rfl
theorem r35_44 : Rn 35 (44, [x0, x1, x2], st, a, h) = Rn 35 (45, [x0, x1, x2], .int (0 : Int32) :: st, a, h) := Rn_go c35_44 rfl
theorem c35_45 : mcode 35 45 = some (.istore_n 2, 1, 0, 0, 0) := rfl
theorem r35_45 : Rn 35 (45, [x0, x1, x2], .int i :: st, a, h) = Nl x1 (Rn 35 (46, [x0, x1, some (.int i)], st, a, h)) := Rn_st1 (k := 2) (v := .int i) x1 c35_45 rfl rfl rfl rfl
theorem c35_46 : mcode 35 46 = some (.iload_n 2, 1, 0, 0, 0) := rfl
theorem r35_46 : Rn 35 (46, [x0, x1, some (.int i)], st, a, h) = Rn 35 (47, [x0, x1, some (.int i)], .int i :: st, a, h) := Rn_go c35_46 rfl
theorem c35_47 : mcode 35 47 = some (.aload_n 0, 1, 0, 0, 0) := rfl
theorem r35_47 : Rn 35 (47, [some (.ref q), x1, x2], st, a, h) = Rn 35 (48, [some (.ref q), x1, x2], .ref q :: st, a, h) := Rn_go c35_47 rfl
theorem c35_48 : mcode 35 48 = some (.getfield 24, 3, 4, 3, 0) := rfl
theorem r35_48 : Rn 35 (48, [x0, x1, x2], .ref q :: st, a, h) = Kv 35 51 [x0, x1, x2] st a h (mgf h q 4 3) := Rn_getf c35_48 rfl
theorem c35_51 : mcode 35 51 = some (.if_icmp .ge 33, 3, 0, 0, 0) := rfl
theorem r35_51 : Rn 35 (51, [x0, x1, x2], .int j :: .int i :: st, a, h) = if i < j then Rn 35 (54, [x0, x1, x2], st, a, h) else Rn 35 (84, [x0, x1, x2], st, a, h) := Rn_icmpn c35_51 mc_ge rfl rfl
theorem c35_54 : mcode 35 54 = some (.iload_n 2, 1, 0, 0, 0) := rfl
theorem r35_54 : Rn 35 (54, [x0, x1, some (.int i)], st, a, h) = Rn 35 (55, [x0, x1, some (.int i)], .int i :: st, a, h) := Rn_go c35_54 rfl
theorem c35_55 : mcode 35 55 = some (.aload_n 0, 1, 0, 0, 0) := rfl
theorem r35_55 : Rn 35 (55, [some (.ref q), x1, x2], st, a, h) = Rn 35 (56, [some (.ref q), x1, x2], .ref q :: st, a, h) := Rn_go c35_55 rfl
theorem c35_56 : mcode 35 56 = some (.getfield 17, 3, 4, 1, 0) := rfl
theorem r35_56 : Rn 35 (56, [x0, x1, x2], .ref q :: st, a, h) = Kv 35 59 [x0, x1, x2] st a h (mgf h q 4 1) := Rn_getf c35_56 rfl
theorem c35_59 : mcode 35 59 = some (.arraylength, 1, 0, 0, 0) := rfl
theorem r35_59 : Rn 35 (59, [x0, x1, x2], .ref q :: st, a, h) = Ki 35 60 [x0, x1, x2] st a h (mlen h q) := Rn_alen c35_59 rfl
theorem c35_60 : mcode 35 60 = some (.if_icmp .ge 24, 3, 0, 0, 0) := rfl
theorem r35_60 : Rn 35 (60, [x0, x1, x2], .int j :: .int i :: st, a, h) = if i < j then Rn 35 (63, [x0, x1, x2], st, a, h) else Rn 35 (84, [x0, x1, x2], st, a, h) := Rn_icmpn c35_60 mc_ge rfl rfl
theorem c35_63 : mcode 35 63 = some (.aload_n 0, 1, 0, 0, 0) := rfl
theorem r35_63 : Rn 35 (63, [some (.ref q), x1, x2], st, a, h) = Rn 35 (64, [some (.ref q), x1, x2], .ref q :: st, a, h) := Rn_go c35_63 rfl
theorem c35_64 : mcode 35 64 = some (.getfield 17, 3, 4, 1, 0) := rfl
theorem r35_64 : Rn 35 (64, [x0, x1, x2], .ref q :: st, a, h) = Kv 35 67 [x0, x1, x2] st a h (mgf h q 4 1) := Rn_getf c35_64 rfl
theorem c35_67 : mcode 35 67 = some (.iload_n 2, 1, 0, 0, 0) := rfl
theorem r35_67 : Rn 35 (67, [x0, x1, some (.int i)], st, a, h) = Rn 35 (68, [x0, x1, some (.int i)], .int i :: st, a, h) := Rn_go c35_67 rfl
theorem c35_68 : mcode 35 68 = some (.aaload, 1, 0, 0, 0) := rfl
theorem r35_68 : Rn 35 (68, [x0, x1, x2], .int i :: .ref q :: st, a, h) = Kv 35 69 [x0, x1, x2] st a h (mald h q i) := Rn_aald c35_68 rfl
theorem c35_69 : mcode 35 69 = some (.aload_n 1, 1, 0, 0, 0) := rfl
theorem r35_69 : Rn 35 (69, [x0, some (.ref q), x2], st, a, h) = Rn 35 (70, [x0, some (.ref q), x2], .ref q :: st, a, h) := Rn_go c35_69 rfl
theorem c35_70 : mcode 35 70 = some (.getfield 17, 3, 4, 1, 0) := rfl
theorem r35_70 : Rn 35 (70, [x0, x1, x2], .ref q :: st, a, h) = Kv 35 73 [x0, x1, x2] st a h (mgf h q 4 1) := Rn_getf c35_70 rfl
theorem c35_73 : mcode 35 73 = some (.iload_n 2, 1, 0, 0, 0) := rfl
theorem r35_73 : Rn 35 (73, [x0, x1, some (.int i)], st, a, h) = Rn 35 (74, [x0, x1, some (.int i)], .int i :: st, a, h) := Rn_go c35_73 rfl
theorem c35_74 : mcode 35 74 = some (.aaload, 1, 0, 0, 0) := rfl
theorem r35_74 : Rn 35 (74, [x0, x1, x2], .int i :: .ref q :: st, a, h) = Kv 35 75 [x0, x1, x2] st a h (mald h q i) := Rn_aald c35_74 rfl
theorem c35_75 : mcode 35 75 = some (.invokevirtual 47, 3, 28, 1, 3) := rfl
theorem r35_75 : Rn 35 (75, [x0, x1, x2], [v0, .ref q], a, h) = if mis h q 3 = true then Bk 35 78 [x0, x1, x2] [] (Ec 28 [.ref q, v0] a h) else none := Rn_call1 c35_75 rfl (Nat.le_of_ble_eq_true rfl) rfl rfl (Nat.le_of_ble_eq_true rfl)
theorem c35_78 : mcode 35 78 = some (.iinc 2 1, 3, 0, 0, 0) := rfl
theorem r35_78 : Rn 35 (78, [x0, x1, some (.int i)], st, a, h) = Nl x1 (Rn 35 (81, [x0, x1, some (.int (i + (1 : Int32)))], st, a, h)) := Rn_st1 (k := 2) (v := .int (i + (1 : Int32))) x1 c35_78 rfl rfl rfl rfl
theorem c35_81 : mcode 35 81 = some (.goto (-35), 3, 0, 0, 0) := rfl
theorem r35_81 : Rn 35 (81, [x0, x1, x2], st, a, h) = Rn 35 (46, [x0, x1, x2], st, a, h) := Rn_goto c35_81 rfl
theorem c35_84 : mcode 35 84 = some (.aload_n 0, 1, 0, 0, 0) := rfl
theorem r35_84 : Rn 35 (84, [some (.ref q), x1, x2], st, a, h) = Rn 35 (85, [some (.ref q), x1, x2], .ref q :: st, a, h) := Rn_go c35_84 rfl
theorem c35_85 : mcode 35 85 = some (.aload_n 1, 1, 0, 0, 0) := rfl
theorem r35_85 : Rn 35 (85, [x0, some (.ref q), x2], st, a, h) = Rn 35 (86, [x0, some (.ref q), x2], .ref q :: st, a, h) := Rn_go c35_85 rfl
theorem c35_86 : mcode 35 86 = some (.getfield 28, 3, 4, 4, 0) := rfl
theorem r35_86 : Rn 35 (86, [x0, x1, x2], .ref q :: st, a, h) = Kv 35 89 [x0, x1, x2] st a h (mgf h q 4 4) := Rn_getf c35_86 rfl
theorem c35_89 : mcode 35 89 = some (.putfield 28, 3, 4, 4, 0) := rfl
theorem r35_89 : Rn 35 (89, [x0, x1, x2], .int i :: .ref q :: st, a, h) = Kh 35 92 [x0, x1, x2] st a (mpf h q 4 4 (.int i)) := Rn_putfi c35_89 rfl rfl
theorem c35_92 : mcode 35 92 = some (.aload_n 0, 1, 0, 0, 0) := rfl
theorem r35_92 : Rn 35 (92, [some (.ref q), x1, x2], st, a, h) = Rn 35 (93, [some (.ref q), x1, x2], .ref q :: st, a, h) := Rn_go c35_92 rfl
theorem c35_93 : mcode 35 93 = some (.aload_n 1, 1, 0, 0, 0) := rfl
theorem r35_93 : Rn 35 (93, [x0, some (.ref q), x2], st, a, h) = Rn 35 (94, [x0, some (.ref q), x2], .ref q :: st, a, h) := Rn_go c35_93 rfl
theorem c35_94 : mcode 35 94 = some (.getfield 31, 3, 4, 5, 0) := rfl
theorem r35_94 : Rn 35 (94, [x0, x1, x2], .ref q :: st, a, h) = Kv 35 97 [x0, x1, x2] st a h (mgf h q 4 5) := Rn_getf c35_94 rfl
theorem c35_97 : mcode 35 97 = some (.putfield 31, 3, 4, 5, 0) := rfl
theorem r35_97 : Rn 35 (97, [x0, x1, x2], .int i :: .ref q :: st, a, h) = Kh 35 100 [x0, x1, x2] st a (mpf h q 4 5 (.int i)) := Rn_putfi c35_97 rfl rfl
theorem c35_100 : mcode 35 100 = some (.aload_n 0, 1, 0, 0, 0) := rfl
theorem r35_100 : Rn 35 (100, [some (.ref q), x1, x2], st, a, h) = Rn 35 (101, [some (.ref q), x1, x2], .ref q :: st, a, h) := Rn_go c35_100 rfl
theorem c35_101 : mcode 35 101 = some (.aload_n 1, 1, 0, 0, 0) := rfl
theorem r35_101 : Rn 35 (101, [x0, some (.ref q), x2], st, a, h) = Rn 35 (102, [x0, some (.ref q), x2], .ref q :: st, a, h) := Rn_go c35_101 rfl
theorem c35_102 : mcode 35 102 = some (.getfield 34, 3, 4, 6, 0) := rfl
theorem r35_102 : Rn 35 (102, [x0, x1, x2], .ref q :: st, a, h) = Kv 35 105 [x0, x1, x2] st a h (mgf h q 4 6) := Rn_getf c35_102 rfl
theorem c35_105 : mcode 35 105 = some (.putfield 34, 3, 4, 6, 0) := rfl
theorem r35_105 : Rn 35 (105, [x0, x1, x2], .int i :: .ref q :: st, a, h) = Kh 35 108 [x0, x1, x2] st a (mpf h q 4 6 (.int i)) := Rn_putfi c35_105 rfl rfl
theorem c35_108 : mcode 35 108 = some (.aload_n 0, 1, 0, 0, 0) := rfl
theorem r35_108 : Rn 35 (108, [some (.ref q), x1, x2], st, a, h) = Rn 35 (109, [some (.ref q), x1, x2], .ref q :: st, a, h) := Rn_go c35_108 rfl
theorem c35_109 : mcode 35 109 = some (.iconst 0, 1, 0, 0, 0) := rfl
theorem r35_109 : Rn 35 (109, [x0, x1, x2], st, a, h) = Rn 35 (110, [x0, x1, x2], .int (0 : Int32) :: st, a, h) := Rn_go c35_109 rfl
theorem c35_110 : mcode 35 110 = some (.putfield 37, 3, 4, 7, 0) := rfl
theorem r35_110 : Rn 35 (110, [x0, x1, x2], .int i :: .ref q :: st, a, h) = Kh 35 113 [x0, x1, x2] st a (mpf h q 4 7 (.int i)) := Rn_putfi c35_110 rfl rfl
theorem c35_113 : mcode 35 113 = some (.return_, 1, 0, 0, 0) := rfl
theorem r35_113 : Rn 35 (113, [x0, x1, x2], [], a, h) = some (none, a, h) := Rn_act c35_113
theorem c36_0 : mcode 36 0 = some (.iload_n 1, 1, 0, 0, 0) := rfl
theorem r36_0 : Rn 36 (0, [x0, some (.int i)], st, a, h) = Rn 36 (1, [x0, some (.int i)], .int i :: st, a, h) := Rn_go c36_0 rfl
theorem c36_1 : mcode 36 1 = some (.ifCond .lt 24, 3, 0, 0, 0) := rfl
theorem r36_1 : Rn 36 (1, [x0, x1], .int i :: st, a, h) = if i < 0 then Rn 36 (25, [x0, x1], st, a, h) else Rn 36 (4, [x0, x1], st, a, h) := Rn_ifc c36_1 mc_lt rfl rfl
theorem c36_4 : mcode 36 4 = some (.iload_n 1, 1, 0, 0, 0) := rfl
theorem r36_4 : Rn 36 (4, [x0, some (.int i)], st, a, h) = Rn 36 (5, [x0, some (.int i)], .int i :: st, a, h) := Rn_go c36_4 rfl
theorem c36_5 : mcode 36 5 = some (.aload_n 0, 1, 0, 0, 0) := rfl
theorem r36_5 : Rn 36 (5, [some (.ref q), x1], st, a, h) = Rn 36 (6, [some (.ref q), x1], .ref q :: st, a, h) := Rn_go c36_5 rfl
theorem c36_6 : mcode 36 6 = some (.getfield 24, 3, 4, 3, 0) := rfl
theorem r36_6 : Rn 36 (6, [x0, x1], .ref q :: st, a, h) = Kv 36 9 [x0, x1] st a h (mgf h q 4 3) := Rn_getf c36_6 rfl
theorem c36_9 : mcode 36 9 = some (.if_icmp .ge 16, 3, 0, 0, 0) := rfl
theorem r36_9 : Rn 36 (9, [x0, x1], .int j :: .int i :: st, a, h) = if i < j then Rn 36 (12, [x0, x1], st, a, h) else Rn 36 (25, [x0, x1], st, a, h) := Rn_icmpn c36_9 mc_ge rfl rfl
theorem c36_12 : mcode 36 12 = some (.iload_n 1, 1, 0, 0, 0) := rfl
theorem r36_12 : Rn 36 (12, [x0, some (.int i)], st, a, h) = Rn 36 (13, [x0, some (.int i)], .int i :: st, a, h) := Rn_go c36_12 rfl
theorem c36_13 : mcode 36 13 = some (.aload_n 0, 1, 0, 0, 0) := rfl
theorem r36_13 : Rn 36 (13, [some (.ref q), x1], st, a, h) = Rn 36 (14, [some (.ref q), x1], .ref q :: st, a, h) := Rn_go c36_13 rfl
theorem c36_14 : mcode 36 14 = some (.getfield 17, 3, 4, 1, 0) := rfl
theorem r36_14 : Rn 36 (14, [x0, x1], .ref q :: st, a, h) = Kv 36 17 [x0, x1] st a h (mgf h q 4 1) := Rn_getf c36_14 rfl
theorem c36_17 : mcode 36 17 = some (.arraylength, 1, 0, 0, 0) := rfl
theorem r36_17 : Rn 36 (17, [x0, x1], .ref q :: st, a, h) = Ki 36 18 [x0, x1] st a h (mlen h q) := Rn_alen c36_17 rfl
theorem c36_18 : mcode 36 18 = some (.if_icmp .ge 7, 3, 0, 0, 0) := rfl
theorem r36_18 : Rn 36 (18, [x0, x1], .int j :: .int i :: st, a, h) = if i < j then Rn 36 (21, [x0, x1], st, a, h) else Rn 36 (25, [x0, x1], st, a, h) := Rn_icmpn c36_18 mc_ge rfl rfl
theorem c36_21 : mcode 36 21 = some (.iconst 1, 1, 0, 0, 0) := rfl
theorem r36_21 : Rn 36 (21, [x0, x1], st, a, h) = Rn 36 (22, [x0, x1], .int (1 : Int32) :: st, a, h) := Rn_go c36_21 rfl
theorem c36_22 : mcode 36 22 = some (.goto 4, 3, 0, 0, 0) := rfl
theorem r36_22 : Rn 36 (22, [x0, x1], st, a, h) = Rn 36 (26, [x0, x1], st, a, h) := Rn_goto c36_22 rfl
theorem c36_25 : mcode 36 25 = some (.iconst 0, 1, 0, 0, 0) := rfl
theorem r36_25 : Rn 36 (25, [x0, x1], st, a, h) = Rn 36 (26, [x0, x1], .int (0 : Int32) :: st, a, h) := Rn_go c36_25 rfl
theorem c36_26 : mcode 36 26 = some (.ireturn, 1, 1, 0, 0) := rfl
theorem r36_26 : Rn 36 (26, [x0, x1], [.int i], a, h) = if mrt 1 i = true then some (some (.int i), a, h) else none := Rn_iretz c36_26
theorem c37_0 : mcode 37 0 = some (.aload_n 0, 1, 0, 0, 0) := rfl
theorem r37_0 : Rn 37 (0, [some (.ref q)], st, a, h) = Rn 37 (1, [some (.ref q)], .ref q :: st, a, h) := Rn_go c37_0 rfl
theorem c37_1 : mcode 37 1 = some (.getfield 24, 3, 4, 3, 0) := rfl
theorem r37_1 : Rn 37 (1, [x0], .ref q :: st, a, h) = Kv 37 4 [x0] st a h (mgf h q 4 3) := Rn_getf c37_1 rfl
theorem c37_4 : mcode 37 4 = some (.aload_n 0, 1, 0, 0, 0) := rfl
theorem r37_4 : Rn 37 (4, [some (.ref q)], st, a, h) = Rn 37 (5, [some (.ref q)], .ref q :: st, a, h) := Rn_go c37_4 rfl
theorem c37_5 : mcode 37 5 = some (.getfield 17, 3, 4, 1, 0) := rfl
theorem r37_5 : Rn 37 (5, [x0], .ref q :: st, a, h) = Kv 37 8 [x0] st a h (mgf h q 4 1) := Rn_getf c37_5 rfl
theorem c37_8 : mcode 37 8 = some (.arraylength, 1, 0, 0, 0) := rfl
theorem r37_8 : Rn 37 (8, [x0], .ref q :: st, a, h) = Ki 37 9 [x0] st a h (mlen h q) := Rn_alen c37_8 rfl
theorem c37_9 : mcode 37 9 = some (.if_icmp .lt 7, 3, 0, 0, 0) := rfl
theorem r37_9 : Rn 37 (9, [x0], .int j :: .int i :: st, a, h) = if i < j then Rn 37 (16, [x0], st, a, h) else Rn 37 (12, [x0], st, a, h) := Rn_icmp c37_9 mc_lt rfl rfl
theorem c37_12 : mcode 37 12 = some (.iconst 1, 1, 0, 0, 0) := rfl
theorem r37_12 : Rn 37 (12, [x0], st, a, h) = Rn 37 (13, [x0], .int (1 : Int32) :: st, a, h) := Rn_go c37_12 rfl
theorem c37_13 : mcode 37 13 = some (.goto 4, 3, 0, 0, 0) := rfl
theorem r37_13 : Rn 37 (13, [x0], st, a, h) = Rn 37 (17, [x0], st, a, h) := Rn_goto c37_13 rfl
theorem c37_16 : mcode 37 16 = some (.iconst 0, 1, 0, 0, 0) := rfl
theorem r37_16 : Rn 37 (16, [x0], st, a, h) = Rn 37 (17, [x0], .int (0 : Int32) :: st, a, h) := Rn_go c37_16 rfl
theorem c37_17 : mcode 37 17 = some (.ireturn, 1, 1, 0, 0) := rfl
theorem r37_17 : Rn 37 (17, [x0], [.int i], a, h) = if mrt 1 i = true then some (some (.int i), a, h) else none := Rn_iretz c37_17
theorem c38_0 : mcode 38 0 = some (.aload_n 0, 1, 0, 0, 0) := rfl
theorem r38_0 : Rn 38 (0, [some (.ref q), x1, x2], st, a, h) = Rn 38 (1, [some (.ref q), x1, x2], .ref q :: st, a, h) := Rn_go c38_0 rfl
theorem c38_1 : mcode 38 1 = some (.getfield 24, 3, 4, 3, 0) := rfl
theorem r38_1 : Rn 38 (1, [x0, x1, x2], .ref q :: st, a, h) = Kv 38 4 [x0, x1, x2] st a h (mgf h q 4 3) := Rn_getf c38_1 rfl
theorem c38_4 : mcode 38 4 = some (.ifCond .lt 39, 3, 0, 0, 0) := rfl
theorem r38_4 : Rn 38 (4, [x0, x1, x2], .int i :: st, a, h) = if i < 0 then Rn 38 (43, [x0, x1, x2], st, a, h) else Rn 38 (7, [x0, x1, x2], st, a, h) := Rn_ifc c38_4 mc_lt rfl rfl
theorem c38_7 : mcode 38 7 = some (.aload_n 0, 1, 0, 0, 0) := rfl
theorem r38_7 : Rn 38 (7, [some (.ref q), x1, x2], st, a, h) = Rn 38 (8, [some (.ref q), x1, x2], .ref q :: st, a, h) := Rn_go c38_7 rfl
theorem c38_8 : mcode 38 8 = some (.getfield 24, 3, 4, 3, 0) := rfl
theorem r38_8 : Rn 38 (8, [x0, x1, x2], .ref q :: st, a, h) = Kv 38 11 [x0, x1, x2] st a h (mgf h q 4 3) := Rn_getf c38_8 rfl
theorem c38_11 : mcode 38 11 = some (.aload_n 0, 1, 0, 0, 0) := rfl
theorem r38_11 : Rn 38 (11, [some (.ref q), x1, x2], st, a, h) = Rn 38 (12, [some (.ref q), x1, x2], .ref q :: st, a, h) := Rn_go c38_11 rfl
theorem c38_12 : mcode 38 12 = some (.getfield 17, 3, 4, 1, 0) := rfl
theorem r38_12 : Rn 38 (12, [x0, x1, x2], .ref q :: st, a, h) = Kv 38 15 [x0, x1, x2] st a h (mgf h q 4 1) := Rn_getf c38_12 rfl
theorem c38_15 : mcode 38 15 = some (.arraylength, 1, 0, 0, 0) := rfl
theorem r38_15 : Rn 38 (15, [x0, x1, x2], .ref q :: st, a, h) = Ki 38 16 [x0, x1, x2] st a h (mlen h q) := Rn_alen c38_15 rfl
theorem c38_16 : mcode 38 16 = some (.if_icmp .ge 27, 3, 0, 0, 0) := rfl
theorem r38_16 : Rn 38 (16, [x0, x1, x2], .int j :: .int i :: st, a, h) = if i < j then Rn 38 (19, [x0, x1, x2], st, a, h) else Rn 38 (43, [x0, x1, x2], st, a, h) := Rn_icmpn c38_16 mc_ge rfl rfl
theorem c38_19 : mcode 38 19 = some (.aload_n 0, 1, 0, 0, 0) := rfl
theorem r38_19 : Rn 38 (19, [some (.ref q), x1, x2], st, a, h) = Rn 38 (20, [some (.ref q), x1, x2], .ref q :: st, a, h) := Rn_go c38_19 rfl
theorem c38_20 : mcode 38 20 = some (.getfield 17, 3, 4, 1, 0) := rfl
theorem r38_20 : Rn 38 (20, [x0, x1, x2], .ref q :: st, a, h) = Kv 38 23 [x0, x1, x2] st a h (mgf h q 4 1) := Rn_getf c38_20 rfl
theorem c38_23 : mcode 38 23 = some (.aload_n 0, 1, 0, 0, 0) := rfl
theorem r38_23 : Rn 38 (23, [some (.ref q), x1, x2], st, a, h) = Rn 38 (24, [some (.ref q), x1, x2], .ref q :: st, a, h) := Rn_go c38_23 rfl
theorem c38_24 : mcode 38 24 = some (.getfield 24, 3, 4, 3, 0) := rfl
theorem r38_24 : Rn 38 (24, [x0, x1, x2], .ref q :: st, a, h) = Kv 38 27 [x0, x1, x2] st a h (mgf h q 4 3) := Rn_getf c38_24 rfl
theorem c38_27 : mcode 38 27 = some (.aaload, 1, 0, 0, 0) := rfl
theorem r38_27 : Rn 38 (27, [x0, x1, x2], .int i :: .ref q :: st, a, h) = Kv 38 28 [x0, x1, x2] st a h (mald h q i) := Rn_aald c38_27 rfl
theorem c38_28 : mcode 38 28 = some (.iload_n 1, 1, 0, 0, 0) := rfl
theorem r38_28 : Rn 38 (28, [x0, some (.int i), x2], st, a, h) = Rn 38 (29, [x0, some (.int i), x2], .int i :: st, a, h) := Rn_go c38_28 rfl
theorem c38_29 : mcode 38 29 = some (.iload_n 2, 1, 0, 0, 0) := rfl
theorem r38_29 : Rn 38 (29, [x0, x1, some (.int i)], st, a, h) = Rn 38 (30, [x0, x1, some (.int i)], .int i :: st, a, h) := Rn_go c38_29 rfl
theorem c38_30 : mcode 38 30 = some (.invokevirtual 51, 3, 27, 2, 3) := rfl
theorem r38_30 : Rn 38 (30, [x0, x1, x2], [v1, v0, .ref q], a, h) = if mis h q 3 = true then Bk 38 33 [x0, x1, x2] [] (Ec 27 [.ref q, v0, v1] a h) else none := Rn_call1 c38_30 rfl (Nat.le_of_ble_eq_true rfl) rfl rfl (Nat.le_of_ble_eq_true rfl)
theorem c38_33 : mcode 38 33 = some (.aload_n 0, 1, 0, 0, 0) := rfl
theorem r38_33 : Rn 38 (33, [some (.ref q), x1, x2], st, a, h) = Rn 38 (34, [some (.ref q), x1, x2], .ref q :: st, a, h) := Rn_go c38_33 rfl
theorem c38_34 : mcode 38 34 = some (.dup, 1, 0, 0, 0) := rfl
theorem r38_34 : Rn 38 (34, [x0, x1, x2], .ref q :: st, a, h) = Rn 38 (35, [x0, x1, x2], .ref q :: .ref q :: st, a, h) := Rn_go c38_34 rfl
theorem c38_35 : mcode 38 35 = some (.getfield 24, 3, 4, 3, 0) := rfl
theorem r38_35 : Rn 38 (35, [x0, x1, x2], .ref q :: st, a, h) = Kv 38 38 [x0, x1, x2] st a h (mgf h q 4 3) := Rn_getf c38_35 rfl
theorem c38_38 : mcode 38 38 = some (.iconst 1, 1, 0, 0, 0) := rfl
theorem r38_38 : Rn 38 (38, [x0, x1, x2], st, a, h) = Rn 38 (39, [x0, x1, x2], .int (1 : Int32) :: st, a, h) := Rn_go c38_38 rfl
theorem c38_39 : mcode 38 39 = some (.iadd, 1, 0, 0, 0) := rfl
theorem r38_39 : Rn 38 (39, [x0, x1, x2], .int j :: .int i :: st, a, h) = Rn 38 (40, [x0, x1, x2], .int (i + j) :: st, a, h) := Rn_go c38_39 rfl
theorem c38_40 : mcode 38 40 = some (.putfield 24, 3, 4, 3, 0) := rfl
theorem r38_40 : Rn 38 (40, [x0, x1, x2], .int i :: .ref q :: st, a, h) = Kh 38 43 [x0, x1, x2] st a (mpf h q 4 3 (.int i)) := Rn_putfi c38_40 rfl rfl
theorem c38_43 : mcode 38 43 = some (.return_, 1, 0, 0, 0) := rfl
theorem r38_43 : Rn 38 (43, [x0, x1, x2], [], a, h) = some (none, a, h) := Rn_act c38_43
theorem c39_0 : mcode 39 0 = some (.aload_n 0, 1, 0, 0, 0) := rfl
theorem r39_0 : Rn 39 (0, [some (.ref q), x1, x2, x3], st, a, h) = Rn 39 (1, [some (.ref q), x1, x2, x3], .ref q :: st, a, h) := Rn_go c39_0 rfl
theorem c39_1 : mcode 39 1 = some (.iload_n 1, 1, 0, 0, 0) := rfl
theorem r39_1 : Rn 39 (1, [x0, some (.int i), x2, x3], st, a, h) = Rn 39 (2, [x0, some (.int i), x2, x3], .int i :: st, a, h) := Rn_go c39_1 rfl
theorem c39_2 : mcode 39 2 = some (.invokevirtual 55, 3, 36, 1, 4) := rfl
theorem r39_2 : Rn 39 (2, [x0, x1, x2, x3], [v0, .ref q], a, h) = if mis h q 4 = true then Bk 39 5 [x0, x1, x2, x3] [] (Ec 36 [.ref q, v0] a h) else none := Rn_call1 c39_2 rfl (Nat.le_of_ble_eq_true rfl) rfl rfl (Nat.le_of_ble_eq_true rfl)
theorem c39_5 : mcode 39 5 = some (.ifCond .ne 5, 3, 0, 0, 0) := rfl
theorem r39_5 : Rn 39 (5, [x0, x1, x2, x3], .int i :: st, a, h) = if i = 0 then Rn 39 (8, [x0, x1, x2, x3], st, a, h) else Rn 39 (10, [x0, x1, x2, x3], st, a, h) := Rn_ifcn c39_5 mc_ne rfl rfl
theorem c39_8 : mcode 39 8 = some (.iconst 0, 1, 0, 0, 0) := rfl
theorem r39_8 : Rn 39 (8, [x0, x1, x2, x3], st, a, h) = Rn 39 (9, [x0, x1, x2, x3], .int (0 : Int32) :: st, a, h) := Rn_go c39_8 rfl
theorem c39_9 : mcode 39 9 = some (.ireturn, 1, 0, 0, 0) := rfl
theorem r39_9 : Rn 39 (9, [x0, x1, x2, x3], [.int i], a, h) = some (some (.int i), a, h) := Rn_ireti c39_9
theorem c39_10 : mcode 39 10 = some (.aload_n 0, 1, 0, 0, 0) := rfl
theorem r39_10 : Rn 39 (10, [some (.ref q), x1, x2, x3], st, a, h) = Rn 39 (11, [some (.ref q), x1, x2, x3], .ref q :: st, a, h) := Rn_go c39_10 rfl
theorem c39_11 : mcode 39 11 = some (.getfield 17, 3, 4, 1, 0) := rfl
theorem r39_11 : Rn 39 (11, [x0, x1, x2, x3], .ref q :: st, a, h) = Kv 39 14 [x0, x1, x2, x3] st a h (mgf h q 4 1) := Rn_getf c39_11 rfl
theorem c39_14 : mcode 39 14 = some (.iload_n 1, 1, 0, 0, 0) := rfl
theorem r39_14 : Rn 39 (14, [x0, some (.int i), x2, x3], st, a, h) = Rn 39 (15, [x0, some (.int i), x2, x3], .int i :: st, a, h) := Rn_go c39_14 rfl
theorem c39_15 : mcode 39 15 = some (.aaload, 1, 0, 0, 0) := rfl
theorem r39_15 : Rn 39 (15, [x0, x1, x2, x3], .int i :: .ref q :: st, a, h) = Kv 39 16 [x0, x1, x2, x3] st a h (mald h q i) := Rn_aald c39_15 rfl
theorem c39_16 : mcode 39 16 = some (.astore_n 3, 1, 0, 0, 0) := rfl
theorem r39_16 : Rn 39 (16, [x0, x1, x2, x3], .ref q :: st, a, h) = Nl x2 (Rn 39 (17, [x0, x1, x2, some (.ref q)], st, a, h)) := Rn_st1 (k := 3) (v := .ref q) x2 c39_16 rfl rfl rfl rfl
theorem c39_17 : mcode 39 17 = some (.iload_n 2, 1, 0, 0, 0) := rfl
theorem r39_17 : Rn 39 (17, [x0, x1, some (.int i), x3], st, a, h) = Rn 39 (18, [x0, x1, some (.int i), x3], .int i :: st, a, h) := Rn_go c39_17 rfl
theorem c39_18 : mcode 39 18 = some (.tableswitch 107 0 8 #[50, 55, 60, 65, 70, 75, 80, 89, 98], 50, 0, 0, 0) := rfl
theorem r39_18_0 : Rn 39 (18, [x0, x1, x2, x3], .int (0 : Int32) :: st, a, h) = Rn 39 (68, [x0, x1, x2, x3], st, a, h) := Rn_swAt c39_18 rfl rfl
theorem r39_18_1 : Rn 39 (18, [x0, x1, x2, x3], .int (1 : Int32) :: st, a, h) = Rn 39 (73, [x0, x1, x2, x3], st, a, h) := Rn_swAt c39_18 rfl rfl
theorem r39_18_2 : Rn 39 (18, [x0, x1, x2, x3], .int (2 : Int32) :: st, a, h) = Rn 39 (78, [x0, x1, x2, x3], st, a, h) := Rn_swAt c39_18 rfl rfl
theorem r39_18_3 : Rn 39 (18, [x0, x1, x2, x3], .int (3 : Int32) :: st, a, h) = Rn 39 (83, [x0, x1, x2, x3], st, a, h) := Rn_swAt c39_18 rfl rfl
theorem r39_18_4 : Rn 39 (18, [x0, x1, x2, x3], .int (4 : Int32) :: st, a, h) = Rn 39 (88, [x0, x1, x2, x3], st, a, h) := Rn_swAt c39_18 rfl rfl
theorem r39_18_5 : Rn 39 (18, [x0, x1, x2, x3], .int (5 : Int32) :: st, a, h) = Rn 39 (93, [x0, x1, x2, x3], st, a, h) := Rn_swAt c39_18 rfl rfl
theorem r39_18_6 : Rn 39 (18, [x0, x1, x2, x3], .int (6 : Int32) :: st, a, h) = Rn 39 (98, [x0, x1, x2, x3], st, a, h) := Rn_swAt c39_18 rfl rfl
theorem r39_18_7 : Rn 39 (18, [x0, x1, x2, x3], .int (7 : Int32) :: st, a, h) = Rn 39 (107, [x0, x1, x2, x3], st, a, h) := Rn_swAt c39_18 rfl rfl
theorem r39_18_8 : Rn 39 (18, [x0, x1, x2, x3], .int (8 : Int32) :: st, a, h) = Rn 39 (116, [x0, x1, x2, x3], st, a, h) := Rn_swAt c39_18 rfl rfl
theorem r39_18_d (hi : i.toInt < 0 ∨ 8 < i.toInt) : Rn 39 (18, [x0, x1, x2, x3], .int i :: st, a, h) = Rn 39 (125, [x0, x1, x2, x3], st, a, h) := Rn_swAt c39_18 (if_pos hi) rfl
theorem c39_68 : mcode 39 68 = some (.aload_n 3, 1, 0, 0, 0) := rfl
theorem r39_68 : Rn 39 (68, [x0, x1, x2, some (.ref q)], st, a, h) = Rn 39 (69, [x0, x1, x2, some (.ref q)], .ref q :: st, a, h) := Rn_go c39_68 rfl
theorem c39_69 : mcode 39 69 = some (.getfield 59, 3, 3, 0, 0) := rfl
theorem r39_69 : Rn 39 (69, [x0, x1, x2, x3], .ref q :: st, a, h) = Kv 39 72 [x0, x1, x2, x3] st a h (mgf h q 3 0) := Rn_getf c39_69 rfl
theorem c39_72 : mcode 39 72 = some (.ireturn, 1, 0, 0, 0) := rfl
theorem r39_72 : Rn 39 (72, [x0, x1, x2, x3], [.int i], a, h) = some (some (.int i), a, h) := Rn_ireti c39_72
theorem c39_73 : mcode 39 73 = some (.aload_n 3, 1, 0, 0, 0) := rfl
theorem r39_73 : Rn 39 (73, [x0, x1, x2, some (.ref q)], st, a, h) = Rn 39 (74, [x0, x1, x2, some (.ref q)], .ref q :: st, a, h) := Rn_go c39_73 rfl
theorem c39_74 : mcode 39 74 = some (.getfield 62, 3, 3, 1, 0) := rfl
theorem r39_74 : Rn 39 (74, [x0, x1, x2, x3], .ref q :: st, a, h) = Kv 39 77 [x0, x1, x2, x3] st a h (mgf h q 3 1) := Rn_getf c39_74 rfl
theorem c39_77 : mcode 39 77 = some (.ireturn, 1, 0, 0, 0) := rfl
theorem r39_77 : Rn 39 (77, [x0, x1, x2, x3], [.int i], a, h) = some (some (.int i), a, h) := Rn_ireti c39_77
theorem c39_78 : mcode 39 78 = some (.aload_n 3, 1, 0, 0, 0) := rfl
theorem r39_78 : Rn 39 (78, [x0, x1, x2, some (.ref q)], st, a, h) = Rn 39 (79, [x0, x1, x2, some (.ref q)], .ref q :: st, a, h) := Rn_go c39_78 rfl
theorem c39_79 : mcode 39 79 = some (.getfield 65, 3, 3, 2, 0) := rfl
theorem r39_79 : Rn 39 (79, [x0, x1, x2, x3], .ref q :: st, a, h) = Kv 39 82 [x0, x1, x2, x3] st a h (mgf h q 3 2) := Rn_getf c39_79 rfl
theorem c39_82 : mcode 39 82 = some (.ireturn, 1, 0, 0, 0) := rfl
theorem r39_82 : Rn 39 (82, [x0, x1, x2, x3], [.int i], a, h) = some (some (.int i), a, h) := Rn_ireti c39_82
theorem c39_83 : mcode 39 83 = some (.aload_n 3, 1, 0, 0, 0) := rfl
theorem r39_83 : Rn 39 (83, [x0, x1, x2, some (.ref q)], st, a, h) = Rn 39 (84, [x0, x1, x2, some (.ref q)], .ref q :: st, a, h) := Rn_go c39_83 rfl
theorem c39_84 : mcode 39 84 = some (.getfield 68, 3, 3, 3, 0) := rfl
theorem r39_84 : Rn 39 (84, [x0, x1, x2, x3], .ref q :: st, a, h) = Kv 39 87 [x0, x1, x2, x3] st a h (mgf h q 3 3) := Rn_getf c39_84 rfl
theorem c39_87 : mcode 39 87 = some (.ireturn, 1, 0, 0, 0) := rfl
theorem r39_87 : Rn 39 (87, [x0, x1, x2, x3], [.int i], a, h) = some (some (.int i), a, h) := Rn_ireti c39_87
theorem c39_88 : mcode 39 88 = some (.aload_n 3, 1, 0, 0, 0) := rfl
theorem r39_88 : Rn 39 (88, [x0, x1, x2, some (.ref q)], st, a, h) = Rn 39 (89, [x0, x1, x2, some (.ref q)], .ref q :: st, a, h) := Rn_go c39_88 rfl
theorem c39_89 : mcode 39 89 = some (.getfield 71, 3, 3, 4, 0) := rfl
theorem r39_89 : Rn 39 (89, [x0, x1, x2, x3], .ref q :: st, a, h) = Kv 39 92 [x0, x1, x2, x3] st a h (mgf h q 3 4) := Rn_getf c39_89 rfl
theorem c39_92 : mcode 39 92 = some (.ireturn, 1, 0, 0, 0) := rfl
theorem r39_92 : Rn 39 (92, [x0, x1, x2, x3], [.int i], a, h) = some (some (.int i), a, h) := Rn_ireti c39_92
theorem c39_93 : mcode 39 93 = some (.aload_n 3, 1, 0, 0, 0) := rfl
theorem r39_93 : Rn 39 (93, [x0, x1, x2, some (.ref q)], st, a, h) = Rn 39 (94, [x0, x1, x2, some (.ref q)], .ref q :: st, a, h) := Rn_go c39_93 rfl
theorem c39_94 : mcode 39 94 = some (.getfield 74, 3, 3, 5, 0) := rfl
theorem r39_94 : Rn 39 (94, [x0, x1, x2, x3], .ref q :: st, a, h) = Kv 39 97 [x0, x1, x2, x3] st a h (mgf h q 3 5) := Rn_getf c39_94 rfl
theorem c39_97 : mcode 39 97 = some (.ireturn, 1, 0, 0, 0) := rfl
theorem r39_97 : Rn 39 (97, [x0, x1, x2, x3], [.int i], a, h) = some (some (.int i), a, h) := Rn_ireti c39_97
theorem c39_98 : mcode 39 98 = some (.aload_n 3, 1, 0, 0, 0) := rfl
theorem r39_98 : Rn 39 (98, [x0, x1, x2, some (.ref q)], st, a, h) = Rn 39 (99, [x0, x1, x2, some (.ref q)], .ref q :: st, a, h) := Rn_go c39_98 rfl
theorem c39_99 : mcode 39 99 = some (.aload_n 0, 1, 0, 0, 0) := rfl
theorem r39_99 : Rn 39 (99, [some (.ref q), x1, x2, x3], st, a, h) = Rn 39 (100, [some (.ref q), x1, x2, x3], .ref q :: st, a, h) := Rn_go c39_99 rfl
theorem c39_100 : mcode 39 100 = some (.getfield 28, 3, 4, 4, 0) := rfl
theorem r39_100 : Rn 39 (100, [x0, x1, x2, x3], .ref q :: st, a, h) = Kv 39 103 [x0, x1, x2, x3] st a h (mgf h q 4 4) := Rn_getf c39_100 rfl
theorem c39_103 : mcode 39 103 = some (.invokevirtual 77, 3, 29, 1, 3) := rfl
theorem r39_103 : Rn 39 (103, [x0, x1, x2, x3], [v0, .ref q], a, h) = if mis h q 3 = true then Bk 39 106 [x0, x1, x2, x3] [] (Ec 29 [.ref q, v0] a h) else none := Rn_call1 c39_103 rfl (Nat.le_of_ble_eq_true rfl) rfl rfl (Nat.le_of_ble_eq_true rfl)
theorem c39_106 : mcode 39 106 = some (.ireturn, 1, 0, 0, 0) := rfl
theorem r39_106 : Rn 39 (106, [x0, x1, x2, x3], [.int i], a, h) = some (some (.int i), a, h) := Rn_ireti c39_106
theorem c39_107 : mcode 39 107 = some (.aload_n 3, 1, 0, 0, 0) := rfl
theorem r39_107 : Rn 39 (107, [x0, x1, x2, some (.ref q)], st, a, h) = Rn 39 (108, [x0, x1, x2, some (.ref q)], .ref q :: st, a, h) := Rn_go c39_107 rfl
theorem c39_108 : mcode 39 108 = some (.aload_n 0, 1, 0, 0, 0) := rfl
theorem r39_108 : Rn 39 (108, [some (.ref q), x1, x2, x3], st, a, h) = Rn 39 (109, [some (.ref q), x1, x2, x3], .ref q :: st, a, h) := Rn_go c39_108 rfl
theorem c39_109 : mcode 39 109 = some (.getfield 31, 3, 4, 5, 0) := rfl
theorem r39_109 : Rn 39 (109, [x0, x1, x2, x3], .ref q :: st, a, h) = Kv 39 112 [x0, x1, x2, x3] st a h (mgf h q 4 5) := Rn_getf c39_109 rfl
theorem c39_112 : mcode 39 112 = some (.invokevirtual 81, 3, 30, 1, 3) := rfl
theorem r39_112 : Rn 39 (112, [x0, x1, x2, x3], [v0, .ref q], a, h) = if mis h q 3 = true then Bk 39 115 [x0, x1, x2, x3] [] (Ec 30 [.ref q, v0] a h) else none := Rn_call1 c39_112 rfl (Nat.le_of_ble_eq_true rfl) rfl rfl (Nat.le_of_ble_eq_true rfl)
theorem c39_115 : mcode 39 115 = some (.ireturn, 1, 0, 0, 0) := rfl
theorem r39_115 : Rn 39 (115, [x0, x1, x2, x3], [.int i], a, h) = some (some (.int i), a, h) := Rn_ireti c39_115
theorem c39_116 : mcode 39 116 = some (.aload_n 3, 1, 0, 0, 0) := rfl
theorem r39_116 : Rn 39 (116, [x0, x1, x2, some (.ref q)], st, a, h) = Rn 39 (117, [x0, x1, x2, some (.ref q)], .ref q :: st, a, h) := Rn_go c39_116 rfl
theorem c39_117 : mcode 39 117 = some (.aload_n 0, 1, 0, 0, 0) := rfl
theorem r39_117 : Rn 39 (117, [some (.ref q), x1, x2, x3], st, a, h) = Rn 39 (118, [some (.ref q), x1, x2, x3], .ref q :: st, a, h) := Rn_go c39_117 rfl
theorem c39_118 : mcode 39 118 = some (.getfield 28, 3, 4, 4, 0) := rfl
theorem r39_118 : Rn 39 (118, [x0, x1, x2, x3], .ref q :: st, a, h) = Kv 39 121 [x0, x1, x2, x3] st a h (mgf h q 4 4) := Rn_getf c39_118 rfl
theorem c39_121 : mcode 39 121 = some (.invokevirtual 84, 3, 31, 1, 3) := rfl
theorem r39_121 : Rn 39 (121, [x0, x1, x2, x3], [v0, .ref q], a, h) = if mis h q 3 = true then Bk 39 124 [x0, x1, x2, x3] [] (Ec 31 [.ref q, v0] a h) else none := Rn_call1 c39_121 rfl (Nat.le_of_ble_eq_true rfl) rfl rfl (Nat.le_of_ble_eq_true rfl)
theorem c39_124 : mcode 39 124 = some (.ireturn, 1, 0, 0, 0) := rfl
theorem r39_124 : Rn 39 (124, [x0, x1, x2, x3], [.int i], a, h) = some (some (.int i), a, h) := Rn_ireti c39_124
theorem c39_125 : mcode 39 125 = some (.iconst 0, 1, 0, 0, 0) := rfl
theorem r39_125 : Rn 39 (125, [x0, x1, x2, x3], st, a, h) = Rn 39 (126, [x0, x1, x2, x3], .int (0 : Int32) :: st, a, h) := Rn_go c39_125 rfl
theorem c39_126 : mcode 39 126 = some (.ireturn, 1, 0, 0, 0) := rfl
theorem r39_126 : Rn 39 (126, [x0, x1, x2, x3], [.int i], a, h) = some (some (.int i), a, h) := Rn_ireti c39_126
theorem c40_0 : mcode 40 0 = some (.aload_n 0, 1, 0, 0, 0) := rfl
theorem r40_0 : Rn 40 (0, [some (.ref q), x1, x2, x3, x4], st, a, h) = Rn 40 (1, [some (.ref q), x1, x2, x3, x4], .ref q :: st, a, h) := Rn_go c40_0 rfl
theorem c40_1 : mcode 40 1 = some (.iload_n 1, 1, 0, 0, 0) := rfl
theorem r40_1 : Rn 40 (1, [x0, some (.int i), x2, x3, x4], st, a, h) = Rn 40 (2, [x0, some (.int i), x2, x3, x4], .int i :: st, a, h) := Rn_go c40_1 rfl
theorem c40_2 : mcode 40 2 = some (.invokevirtual 55, 3, 36, 1, 4) := rfl
theorem r40_2 : Rn 40 (2, [x0, x1, x2, x3, x4], [v0, .ref q], a, h) = if mis h q 4 = true then Bk 40 5 [x0, x1, x2, x3, x4] [] (Ec 36 [.ref q, v0] a h) else none := Rn_call1 c40_2 rfl (Nat.le_of_ble_eq_true rfl) rfl rfl (Nat.le_of_ble_eq_true rfl)
theorem c40_5 : mcode 40 5 = some (.ifCond .ne 4, 3, 0, 0, 0) := rfl
theorem r40_5 : Rn 40 (5, [x0, x1, x2, x3, x4], .int i :: st, a, h) = if i = 0 then Rn 40 (8, [x0, x1, x2, x3, x4], st, a, h) else Rn 40 (9, [x0, x1, x2, x3, x4], st, a, h) := Rn_ifcn c40_5 mc_ne rfl rfl
theorem c40_8 : mcode 40 8 = some (.return_, 1, 0, 0, 0) := rfl
theorem r40_8 : Rn 40 (8, [x0, x1, x2, x3, x4], [], a, h) = some (none, a, h) := Rn_act c40_8
theorem c40_9 : mcode 40 9 = some (.aload_n 0, 1, 0, 0, 0) := rfl
theorem r40_9 : Rn 40 (9, [some (.ref q), x1, x2, x3, x4], st, a, h) = Rn 40 (10, [some (.ref q), x1, x2, x3, x4], .ref q :: st, a, h) := Rn_go c40_9 rfl
theorem c40_10 : mcode 40 10 = some (.getfield 17, 3, 4, 1, 0) := rfl
theorem r40_10 : Rn 40 (10, [x0, x1, x2, x3, x4], .ref q :: st, a, h) = Kv 40 13 [x0, x1, x2, x3, x4] st a h (mgf h q 4 1) := Rn_getf c40_10 rfl
theorem c40_13 : mcode 40 13 = some (.iload_n 1, 1, 0, 0, 0) := rfl
theorem r40_13 : Rn 40 (13, [x0, some (.int i), x2, x3, x4], st, a, h) = Rn 40 (14, [x0, some (.int i), x2, x3, x4], .int i :: st, a, h) := Rn_go c40_13 rfl
theorem c40_14 : mcode 40 14 = some (.aaload, 1, 0, 0, 0) := rfl
theorem r40_14 : Rn 40 (14, [x0, x1, x2, x3, x4], .int i :: .ref q :: st, a, h) = Kv 40 15 [x0, x1, x2, x3, x4] st a h (mald h q i) := Rn_aald c40_14 rfl
theorem c40_15 : mcode 40 15 = some (.astore 4, 2, 0, 0, 0) := rfl
theorem r40_15 : Rn 40 (15, [x0, x1, x2, x3, x4], .ref q :: st, a, h) = Nl x3 (Rn 40 (17, [x0, x1, x2, x3, some (.ref q)], st, a, h)) := Rn_st1 (k := 4) (v := .ref q) x3 c40_15 rfl rfl rfl rfl
theorem c40_17 : mcode 40 17 = some (.iload_n 2, 1, 0, 0, 0) := rfl
theorem r40_17 : Rn 40 (17, [x0, x1, some (.int i), x3, x4], st, a, h) = Rn 40 (18, [x0, x1, some (.int i), x3, x4], .int i :: st, a, h) := Rn_go c40_17 rfl
theorem c40_18 : mcode 40 18 = some (.tableswitch 92 0 5 #[38, 47, 56, 65, 74, 83], 38, 0, 0, 0) := rfl
theorem r40_18_0 : Rn 40 (18, [x0, x1, x2, x3, x4], .int (0 : Int32) :: st, a, h) = Rn 40 (56, [x0, x1, x2, x3, x4], st, a, h) := Rn_swAt c40_18 rfl rfl
theorem r40_18_1 : Rn 40 (18, [x0, x1, x2, x3, x4], .int (1 : Int32) :: st, a, h) = Rn 40 (65, [x0, x1, x2, x3, x4], st, a, h) := Rn_swAt c40_18 rfl rfl
theorem r40_18_2 : Rn 40 (18, [x0, x1, x2, x3, x4], .int (2 : Int32) :: st, a, h) = Rn 40 (74, [x0, x1, x2, x3, x4], st, a, h) := Rn_swAt c40_18 rfl rfl
theorem r40_18_3 : Rn 40 (18, [x0, x1, x2, x3, x4], .int (3 : Int32) :: st, a, h) = Rn 40 (83, [x0, x1, x2, x3, x4], st, a, h) := Rn_swAt c40_18 rfl rfl
theorem r40_18_4 : Rn 40 (18, [x0, x1, x2, x3, x4], .int (4 : Int32) :: st, a, h) = Rn 40 (92, [x0, x1, x2, x3, x4], st, a, h) := Rn_swAt c40_18 rfl rfl
theorem r40_18_5 : Rn 40 (18, [x0, x1, x2, x3, x4], .int (5 : Int32) :: st, a, h) = Rn 40 (101, [x0, x1, x2, x3, x4], st, a, h) := Rn_swAt c40_18 rfl rfl
theorem r40_18_d (hi : i.toInt < 0 ∨ 5 < i.toInt) : Rn 40 (18, [x0, x1, x2, x3, x4], .int i :: st, a, h) = Rn 40 (110, [x0, x1, x2, x3, x4], st, a, h) := Rn_swAt c40_18 (if_pos hi) rfl
theorem c40_56 : mcode 40 56 = some (.aload 4, 2, 0, 0, 0) := rfl
theorem r40_56 : Rn 40 (56, [x0, x1, x2, x3, some (.ref q)], st, a, h) = Rn 40 (58, [x0, x1, x2, x3, some (.ref q)], .ref q :: st, a, h) := Rn_go c40_56 rfl
theorem c40_58 : mcode 40 58 = some (.iload_n 3, 1, 0, 0, 0) := rfl
theorem r40_58 : Rn 40 (58, [x0, x1, x2, some (.int i), x4], st, a, h) = Rn 40 (59, [x0, x1, x2, some (.int i), x4], .int i :: st, a, h) := Rn_go c40_58 rfl
theorem c40_59 : mcode 40 59 = some (.putfield 59, 3, 3, 0, 0) := rfl
theorem r40_59 : Rn 40 (59, [x0, x1, x2, x3, x4], .int i :: .ref q :: st, a, h) = Kh 40 62 [x0, x1, x2, x3, x4] st a (mpf h q 3 0 (.int i)) := Rn_putfi c40_59 rfl rfl
theorem c40_62 : mcode 40 62 = some (.goto 48, 3, 0, 0, 0) := rfl
theorem r40_62 : Rn 40 (62, [x0, x1, x2, x3, x4], st, a, h) = Rn 40 (110, [x0, x1, x2, x3, x4], st, a, h) := Rn_goto c40_62 rfl
theorem c40_65 : mcode 40 65 = some (.aload 4, 2, 0, 0, 0) := rfl
theorem r40_65 : Rn 40 (65, [x0, x1, x2, x3, some (.ref q)], st, a, h) = Rn 40 (67, [x0, x1, x2, x3, some (.ref q)], .ref q :: st, a, h) := Rn_go c40_65 rfl
theorem c40_67 : mcode 40 67 = some (.iload_n 3, 1, 0, 0, 0) := rfl
theorem r40_67 : Rn 40 (67, [x0, x1, x2, some (.int i), x4], st, a, h) = Rn 40 (68, [x0, x1, x2, some (.int i), x4], .int i :: st, a, h) := Rn_go c40_67 rfl
theorem c40_68 : mcode 40 68 = some (.putfield 62, 3, 3, 1, 0) := rfl
theorem r40_68 : Rn 40 (68, [x0, x1, x2, x3, x4], .int i :: .ref q :: st, a, h) = Kh 40 71 [x0, x1, x2, x3, x4] st a (mpf h q 3 1 (.int i)) := Rn_putfi c40_68 rfl rfl
theorem c40_71 : mcode 40 71 = some (.goto 39, 3, 0, 0, 0) := rfl
theorem r40_71 : Rn 40 (71, [x0, x1, x2, x3, x4], st, a, h) = Rn 40 (110, [x0, x1, x2, x3, x4], st, a, h) := Rn_goto c40_71 rfl
theorem c40_74 : mcode 40 74 = some (.aload 4, 2, 0, 0, 0) := rfl
theorem r40_74 : Rn 40 (74, [x0, x1, x2, x3, some (.ref q)], st, a, h) = Rn 40 (76, [x0, x1, x2, x3, some (.ref q)], .ref q :: st, a, h) := Rn_go c40_74 rfl
theorem c40_76 : mcode 40 76 = some (.iload_n 3, 1, 0, 0, 0) := rfl
theorem r40_76 : Rn 40 (76, [x0, x1, x2, some (.int i), x4], st, a, h) = Rn 40 (77, [x0, x1, x2, some (.int i), x4], .int i :: st, a, h) := Rn_go c40_76 rfl
theorem c40_77 : mcode 40 77 = some (.putfield 65, 3, 3, 2, 0) := rfl
theorem r40_77 : Rn 40 (77, [x0, x1, x2, x3, x4], .int i :: .ref q :: st, a, h) = Kh 40 80 [x0, x1, x2, x3, x4] st a (mpf h q 3 2 (.int i)) := Rn_putfi c40_77 rfl rfl
theorem c40_80 : mcode 40 80 = some (.goto 30, 3, 0, 0, 0) := rfl
theorem r40_80 : Rn 40 (80, [x0, x1, x2, x3, x4], st, a, h) = Rn 40 (110, [x0, x1, x2, x3, x4], st, a, h) := Rn_goto c40_80 rfl
theorem c40_83 : mcode 40 83 = some (.aload 4, 2, 0, 0, 0) := rfl
theorem r40_83 : Rn 40 (83, [x0, x1, x2, x3, some (.ref q)], st, a, h) = Rn 40 (85, [x0, x1, x2, x3, some (.ref q)], .ref q :: st, a, h) := Rn_go c40_83 rfl
theorem c40_85 : mcode 40 85 = some (.iload_n 3, 1, 0, 0, 0) := rfl
theorem r40_85 : Rn 40 (85, [x0, x1, x2, some (.int i), x4], st, a, h) = Rn 40 (86, [x0, x1, x2, some (.int i), x4], .int i :: st, a, h) := Rn_go c40_85 rfl
theorem c40_86 : mcode 40 86 = some (.putfield 68, 3, 3, 3, 0) := rfl
theorem r40_86 : Rn 40 (86, [x0, x1, x2, x3, x4], .int i :: .ref q :: st, a, h) = Kh 40 89 [x0, x1, x2, x3, x4] st a (mpf h q 3 3 (.int i)) := Rn_putfi c40_86 rfl rfl
theorem c40_89 : mcode 40 89 = some (.goto 21, 3, 0, 0, 0) := rfl
theorem r40_89 : Rn 40 (89, [x0, x1, x2, x3, x4], st, a, h) = Rn 40 (110, [x0, x1, x2, x3, x4], st, a, h) := Rn_goto c40_89 rfl
theorem c40_92 : mcode 40 92 = some (.aload 4, 2, 0, 0, 0) := rfl
theorem r40_92 : Rn 40 (92, [x0, x1, x2, x3, some (.ref q)], st, a, h) = Rn 40 (94, [x0, x1, x2, x3, some (.ref q)], .ref q :: st, a, h) := Rn_go c40_92 rfl
theorem c40_94 : mcode 40 94 = some (.iload_n 3, 1, 0, 0, 0) := rfl
theorem r40_94 : Rn 40 (94, [x0, x1, x2, some (.int i), x4], st, a, h) = Rn 40 (95, [x0, x1, x2, some (.int i), x4], .int i :: st, a, h) := Rn_go c40_94 rfl
theorem c40_95 : mcode 40 95 = some (.putfield 71, 3, 3, 4, 0) := rfl
theorem r40_95 : Rn 40 (95, [x0, x1, x2, x3, x4], .int i :: .ref q :: st, a, h) = Kh 40 98 [x0, x1, x2, x3, x4] st a (mpf h q 3 4 (.int i)) := Rn_putfi c40_95 rfl rfl
theorem c40_98 : mcode 40 98 = some (.goto 12, 3, 0, 0, 0) := rfl
theorem r40_98 : Rn 40 (98, [x0, x1, x2, x3, x4], st, a, h) = Rn 40 (110, [x0, x1, x2, x3, x4], st, a, h) := Rn_goto c40_98 rfl
theorem c40_101 : mcode 40 101 = some (.aload 4, 2, 0, 0, 0) := rfl
theorem r40_101 : Rn 40 (101, [x0, x1, x2, x3, some (.ref q)], st, a, h) = Rn 40 (103, [x0, x1, x2, x3, some (.ref q)], .ref q :: st, a, h) := Rn_go c40_101 rfl
theorem c40_103 : mcode 40 103 = some (.iload_n 3, 1, 0, 0, 0) := rfl
theorem r40_103 : Rn 40 (103, [x0, x1, x2, some (.int i), x4], st, a, h) = Rn 40 (104, [x0, x1, x2, some (.int i), x4], .int i :: st, a, h) := Rn_go c40_103 rfl
theorem c40_104 : mcode 40 104 = some (.putfield 74, 3, 3, 5, 0) := rfl
theorem r40_104 : Rn 40 (104, [x0, x1, x2, x3, x4], .int i :: .ref q :: st, a, h) = Kh 40 107 [x0, x1, x2, x3, x4] st a (mpf h q 3 5 (.int i)) := Rn_putfi c40_104 rfl rfl
theorem c40_107 : mcode 40 107 = some (.goto 3, 3, 0, 0, 0) := rfl
theorem r40_107 : Rn 40 (107, [x0, x1, x2, x3, x4], st, a, h) = Rn 40 (110, [x0, x1, x2, x3, x4], st, a, h) := Rn_goto c40_107 rfl
theorem c40_110 : mcode 40 110 = some (.return_, 1, 0, 0, 0) := rfl
theorem r40_110 : Rn 40 (110, [x0, x1, x2, x3, x4], [], a, h) = some (none, a, h) := Rn_act c40_110
theorem c41_0 : mcode 41 0 = some (.iload_n 1, 1, 0, 0, 0) := rfl
theorem r41_0 : Rn 41 (0, [x0, some (.int i), x2], st, a, h) = Rn 41 (1, [x0, some (.int i), x2], .int i :: st, a, h) := Rn_go c41_0 rfl
theorem c41_1 : mcode 41 1 = some (.invokestatic 87, 3, 107, 1, 0) := rfl
theorem r41_1 : Rn 41 (1, [x0, x1, x2], [v0], a, h) = Bk 41 4 [x0, x1, x2] [] (Ec 107 [v0] a h) := Rn_call0 c41_1 (fun z => nomatch z) rfl (Nat.le_of_ble_eq_true rfl) rfl rfl (Nat.le_of_ble_eq_true rfl)
theorem c41_4 : mcode 41 4 = some (.ifCond .eq 23, 3, 0, 0, 0) := rfl
theorem r41_4 : Rn 41 (4, [x0, x1, x2], .int i :: st, a, h) = if i = 0 then Rn 41 (27, [x0, x1, x2], st, a, h) else Rn 41 (7, [x0, x1, x2], st, a, h) := Rn_ifc c41_4 mc_eq rfl rfl
theorem c41_7 : mcode 41 7 = some (.iload_n 2, 1, 0, 0, 0) := rfl
theorem r41_7 : Rn 41 (7, [x0, x1, some (.int i)], st, a, h) = Rn 41 (8, [x0, x1, some (.int i)], .int i :: st, a, h) := Rn_go c41_7 rfl
theorem c41_8 : mcode 41 8 = some (.invokestatic 90, 3, 108, 1, 0) := rfl
theorem r41_8 : Rn 41 (8, [x0, x1, x2], [v0], a, h) = Bk 41 11 [x0, x1, x2] [] (Ec 108 [v0] a h) := Rn_call0 c41_8 (fun z => nomatch z) rfl (Nat.le_of_ble_eq_true rfl) rfl rfl (Nat.le_of_ble_eq_true rfl)
theorem c41_11 : mcode 41 11 = some (.ifCond .eq 16, 3, 0, 0, 0) := rfl
theorem r41_11 : Rn 41 (11, [x0, x1, x2], .int i :: st, a, h) = if i = 0 then Rn 41 (27, [x0, x1, x2], st, a, h) else Rn 41 (14, [x0, x1, x2], st, a, h) := Rn_ifc c41_11 mc_eq rfl rfl
theorem c41_14 : mcode 41 14 = some (.aload_n 0, 1, 0, 0, 0) := rfl
theorem r41_14 : Rn 41 (14, [some (.ref q), x1, x2], st, a, h) = Rn 41 (15, [some (.ref q), x1, x2], .ref q :: st, a, h) := Rn_go c41_14 rfl
theorem c41_15 : mcode 41 15 = some (.getfield 9, 3, 4, 0, 0) := rfl
theorem r41_15 : Rn 41 (15, [x0, x1, x2], .ref q :: st, a, h) = Kv 41 18 [x0, x1, x2] st a h (mgf h q 4 0) := Rn_getf c41_15 rfl
theorem c41_18 : mcode 41 18 = some (.iload_n 1, 1, 0, 0, 0) := rfl
theorem r41_18 : Rn 41 (18, [x0, some (.int i), x2], st, a, h) = Rn 41 (19, [x0, some (.int i), x2], .int i :: st, a, h) := Rn_go c41_18 rfl
theorem c41_19 : mcode 41 19 = some (.iconst 3, 1, 0, 0, 0) := rfl
theorem r41_19 : Rn 41 (19, [x0, x1, x2], st, a, h) = Rn 41 (20, [x0, x1, x2], .int (3 : Int32) :: st, a, h) := Rn_go c41_19 rfl
theorem c41_20 : mcode 41 20 = some (.imul, 1, 0, 0, 0) := rfl
theorem r41_20 : Rn 41 (20, [x0, x1, x2], .int j :: .int i :: st, a, h) = Rn 41 (21, [x0, x1, x2], .int (i * j) :: st, a, h) := Rn_go c41_20 rfl
theorem c41_21 : mcode 41 21 = some (.iload_n 2, 1, 0, 0, 0) := rfl
theorem r41_21 : Rn 41 (21, [x0, x1, some (.int i)], st, a, h) = Rn 41 (22, [x0, x1, some (.int i)], .int i :: st, a, h) := Rn_go c41_21 rfl
theorem c41_22 : mcode 41 22 = some (.iadd, 1, 0, 0, 0) := rfl
theorem r41_22 : Rn 41 (22, [x0, x1, x2], .int j :: .int i :: st, a, h) = Rn 41 (23, [x0, x1, x2], .int (i + j) :: st, a, h) := Rn_go c41_22 rfl
theorem c41_23 : mcode 41 23 = some (.iaload, 1, 0, 0, 0) := rfl
theorem r41_23 : Rn 41 (23, [x0, x1, x2], .int i :: .ref q :: st, a, h) = Ki 41 24 [x0, x1, x2] st a h (mld h q i false) := Rn_iald c41_23 rfl
theorem c41_24 : mcode 41 24 = some (.goto 4, 3, 0, 0, 0) := rfl
theorem r41_24 : Rn 41 (24, [x0, x1, x2], st, a, h) = Rn 41 (28, [x0, x1, x2], st, a, h) := Rn_goto c41_24 rfl
theorem c41_27 : mcode 41 27 = some (.iconst 0, 1, 0, 0, 0) := rfl
theorem r41_27 : Rn 41 (27, [x0, x1, x2], st, a, h) = Rn 41 (28, [x0, x1, x2], .int (0 : Int32) :: st, a, h) := Rn_go c41_27 rfl
theorem c41_28 : mcode 41 28 = some (.ireturn, 1, 0, 0, 0) := rfl
theorem r41_28 : Rn 41 (28, [x0, x1, x2], [.int i], a, h) = some (some (.int i), a, h) := Rn_ireti c41_28
theorem c42_0 : mcode 42 0 = some (.iload_n 1, 1, 0, 0, 0) := rfl
theorem r42_0 : Rn 42 (0, [x0, some (.int i), x2, x3], st, a, h) = Rn 42 (1, [x0, some (.int i), x2, x3], .int i :: st, a, h) := Rn_go c42_0 rfl
theorem c42_1 : mcode 42 1 = some (.invokestatic 87, 3, 107, 1, 0) := rfl
theorem r42_1 : Rn 42 (1, [x0, x1, x2, x3], [v0], a, h) = Bk 42 4 [x0, x1, x2, x3] [] (Ec 107 [v0] a h) := Rn_call0 c42_1 (fun z => nomatch z) rfl (Nat.le_of_ble_eq_true rfl) rfl rfl (Nat.le_of_ble_eq_true rfl)
theorem c42_4 : mcode 42 4 = some (.ifCond .eq 27, 3, 0, 0, 0) := rfl
theorem r42_4 : Rn 42 (4, [x0, x1, x2, x3], .int i :: st, a, h) = if i = 0 then Rn 42 (31, [x0, x1, x2, x3], st, a, h) else Rn 42 (7, [x0, x1, x2, x3], st, a, h) := Rn_ifc c42_4 mc_eq rfl rfl
theorem c42_7 : mcode 42 7 = some (.iload_n 2, 1, 0, 0, 0) := rfl
theorem r42_7 : Rn 42 (7, [x0, x1, some (.int i), x3], st, a, h) = Rn 42 (8, [x0, x1, some (.int i), x3], .int i :: st, a, h) := Rn_go c42_7 rfl
theorem c42_8 : mcode 42 8 = some (.invokestatic 90, 3, 108, 1, 0) := rfl
theorem r42_8 : Rn 42 (8, [x0, x1, x2, x3], [v0], a, h) = Bk 42 11 [x0, x1, x2, x3] [] (Ec 108 [v0] a h) := Rn_call0 c42_8 (fun z => nomatch z) rfl (Nat.le_of_ble_eq_true rfl) rfl rfl (Nat.le_of_ble_eq_true rfl)
theorem c42_11 : mcode 42 11 = some (.ifCond .eq 20, 3, 0, 0, 0) := rfl
theorem r42_11 : Rn 42 (11, [x0, x1, x2, x3], .int i :: st, a, h) = if i = 0 then Rn 42 (31, [x0, x1, x2, x3], st, a, h) else Rn 42 (14, [x0, x1, x2, x3], st, a, h) := Rn_ifc c42_11 mc_eq rfl rfl
theorem c42_14 : mcode 42 14 = some (.aload_n 0, 1, 0, 0, 0) := rfl
theorem r42_14 : Rn 42 (14, [some (.ref q), x1, x2, x3], st, a, h) = Rn 42 (15, [some (.ref q), x1, x2, x3], .ref q :: st, a, h) := Rn_go c42_14 rfl
theorem c42_15 : mcode 42 15 = some (.getfield 9, 3, 4, 0, 0) := rfl
theorem r42_15 : Rn 42 (15, [x0, x1, x2, x3], .ref q :: st, a, h) = Kv 42 18 [x0, x1, x2, x3] st a h (mgf h q 4 0) := Rn_getf c42_15 rfl
theorem c42_18 : mcode 42 18 = some (.iload_n 1, 1, 0, 0, 0) := rfl
theorem r42_18 : Rn 42 (18, [x0, some (.int i), x2, x3], st, a, h) = Rn 42 (19, [x0, some (.int i), x2, x3], .int i :: st, a, h) := Rn_go c42_18 rfl
theorem c42_19 : mcode 42 19 = some (.iconst 3, 1, 0, 0, 0) := rfl
theorem r42_19 : Rn 42 (19, [x0, x1, x2, x3], st, a, h) = Rn 42 (20, [x0, x1, x2, x3], .int (3 : Int32) :: st, a, h) := Rn_go c42_19 rfl
theorem c42_20 : mcode 42 20 = some (.imul, 1, 0, 0, 0) := rfl
theorem r42_20 : Rn 42 (20, [x0, x1, x2, x3], .int j :: .int i :: st, a, h) = Rn 42 (21, [x0, x1, x2, x3], .int (i * j) :: st, a, h) := Rn_go c42_20 rfl
theorem c42_21 : mcode 42 21 = some (.iload_n 2, 1, 0, 0, 0) := rfl
theorem r42_21 : Rn 42 (21, [x0, x1, some (.int i), x3], st, a, h) = Rn 42 (22, [x0, x1, some (.int i), x3], .int i :: st, a, h) := Rn_go c42_21 rfl
theorem c42_22 : mcode 42 22 = some (.iadd, 1, 0, 0, 0) := rfl
theorem r42_22 : Rn 42 (22, [x0, x1, x2, x3], .int j :: .int i :: st, a, h) = Rn 42 (23, [x0, x1, x2, x3], .int (i + j) :: st, a, h) := Rn_go c42_22 rfl
theorem c42_23 : mcode 42 23 = some (.iload_n 3, 1, 0, 0, 0) := rfl
theorem r42_23 : Rn 42 (23, [x0, x1, x2, some (.int i)], st, a, h) = Rn 42 (24, [x0, x1, x2, some (.int i)], .int i :: st, a, h) := Rn_go c42_23 rfl
theorem c42_24 : mcode 42 24 = some (.sipush 999, 3, 0, 0, 0) := rfl
theorem r42_24 : Rn 42 (24, [x0, x1, x2, x3], st, a, h) = Rn 42 (27, [x0, x1, x2, x3], .int (999 : Int32) :: st, a, h) := Rn_go c42_24 rfl
theorem c42_27 : mcode 42 27 = some (.invokestatic 93, 3, 228, 2, 0) := rfl
theorem r42_27 : Rn 42 (27, [x0, x1, x2, x3], [v1, v0, .int i0, .ref q1], a, h) = Bk 42 30 [x0, x1, x2, x3] [.int i0, .ref q1] (Ec 228 [v0, v1] a h) := Rn_call0 c42_27 (fun z => nomatch z) rfl (Nat.le_of_ble_eq_true rfl) rfl rfl (Nat.le_of_ble_eq_true rfl)
theorem c42_30 : mcode 42 30 = some (.iastore, 1, 0, 0, 0) := rfl
theorem r42_30 : Rn 42 (30, [x0, x1, x2, x3], .int j :: .int i :: .ref q :: st, a, h) = Kh 42 31 [x0, x1, x2, x3] st a (mias h q i j) := Rn_iast c42_30 rfl
theorem c42_31 : mcode 42 31 = some (.return_, 1, 0, 0, 0) := rfl
theorem r42_31 : Rn 42 (31, [x0, x1, x2, x3], [], a, h) = some (none, a, h) := Rn_act c42_31
theorem c43_0 : mcode 43 0 = some (.iconst 0, 1, 0, 0, 0) := rfl
theorem r43_0 : Rn 43 (0, [x0, x1, x2, x3], st, a, h) = Rn 43 (1, [x0, x1, x2, x3], .int (0 : Int32) :: st, a, h) := Rn_go c43_0 rfl
theorem c43_1 : mcode 43 1 = some (.istore_n 2, 1, 0, 0, 0) := rfl
theorem r43_1 : Rn 43 (1, [x0, x1, x2, x3], .int i :: st, a, h) = Nl x1 (Rn 43 (2, [x0, x1, some (.int i), x3], st, a, h)) := Rn_st1 (k := 2) (v := .int i) x1 c43_1 rfl rfl rfl rfl
theorem c43_2 : mcode 43 2 = some (.iconst 0, 1, 0, 0, 0) := rfl
theorem r43_2 : Rn 43 (2, [x0, x1, x2, x3], st, a, h) = Rn 43 (3, [x0, x1, x2, x3], .int (0 : Int32) :: st, a, h) := Rn_go c43_2 rfl
theorem c43_3 : mcode 43 3 = some (.istore_n 3, 1, 0, 0, 0) := rfl
theorem r43_3 : Rn 43 (3, [x0, x1, x2, x3], .int i :: st, a, h) = Nl x2 (Rn 43 (4, [x0, x1, x2, some (.int i)], st, a, h)) := Rn_st1 (k := 3) (v := .int i) x2 c43_3 rfl rfl rfl rfl
theorem c43_4 : mcode 43 4 = some (.iload_n 3, 1, 0, 0, 0) := rfl
theorem r43_4 : Rn 43 (4, [x0, x1, x2, some (.int i)], st, a, h) = Rn 43 (5, [x0, x1, x2, some (.int i)], .int i :: st, a, h) := Rn_go c43_4 rfl
theorem c43_5 : mcode 43 5 = some (.iconst 3, 1, 0, 0, 0) := rfl
theorem r43_5 : Rn 43 (5, [x0, x1, x2, x3], st, a, h) = Rn 43 (6, [x0, x1, x2, x3], .int (3 : Int32) :: st, a, h) := Rn_go c43_5 rfl
theorem c43_6 : mcode 43 6 = some (.if_icmp .ge 18, 3, 0, 0, 0) := rfl
theorem r43_6 : Rn 43 (6, [x0, x1, x2, x3], .int j :: .int i :: st, a, h) = if i < j then Rn 43 (9, [x0, x1, x2, x3], st, a, h) else Rn 43 (24, [x0, x1, x2, x3], st, a, h) := Rn_icmpn c43_6 mc_ge rfl rfl
theorem c43_9 : mcode 43 9 = some (.iload_n 2, 1, 0, 0, 0) := rfl
theorem r43_9 : Rn 43 (9, [x0, x1, some (.int i), x3], st, a, h) = Rn 43 (10, [x0, x1, some (.int i), x3], .int i :: st, a, h) := Rn_go c43_9 rfl
theorem c43_10 : mcode 43 10 = some (.aload_n 0, 1, 0, 0, 0) := rfl
theorem r43_10 : Rn 43 (10, [some (.ref q), x1, x2, x3], st, a, h) = Rn 43 (11, [some (.ref q), x1, x2, x3], .ref q :: st, a, h) := Rn_go c43_10 rfl
theorem c43_11 : mcode 43 11 = some (.iload_n 1, 1, 0, 0, 0) := rfl
theorem r43_11 : Rn 43 (11, [x0, some (.int i), x2, x3], st, a, h) = Rn 43 (12, [x0, some (.int i), x2, x3], .int i :: st, a, h) := Rn_go c43_11 rfl
theorem c43_12 : mcode 43 12 = some (.iload_n 3, 1, 0, 0, 0) := rfl
theorem r43_12 : Rn 43 (12, [x0, x1, x2, some (.int i)], st, a, h) = Rn 43 (13, [x0, x1, x2, some (.int i)], .int i :: st, a, h) := Rn_go c43_12 rfl
theorem c43_13 : mcode 43 13 = some (.invokevirtual 99, 3, 41, 2, 4) := rfl
theorem r43_13 : Rn 43 (13, [x0, x1, x2, x3], [v1, v0, .ref q, .int i0], a, h) = if mis h q 4 = true then Bk 43 16 [x0, x1, x2, x3] [.int i0] (Ec 41 [.ref q, v0, v1] a h) else none := Rn_call1 c43_13 rfl (Nat.le_of_ble_eq_true rfl) rfl rfl (Nat.le_of_ble_eq_true rfl)
theorem c43_16 : mcode 43 16 = some (.iadd, 1, 0, 0, 0) := rfl
theorem r43_16 : Rn 43 (16, [x0, x1, x2, x3], .int j :: .int i :: st, a, h) = Rn 43 (17, [x0, x1, x2, x3], .int (i + j) :: st, a, h) := Rn_go c43_16 rfl
theorem c43_17 : mcode 43 17 = some (.istore_n 2, 1, 0, 0, 0) := rfl
theorem r43_17 : Rn 43 (17, [x0, x1, x2, x3], .int i :: st, a, h) = Nl x1 (Rn 43 (18, [x0, x1, some (.int i), x3], st, a, h)) := Rn_st1 (k := 2) (v := .int i) x1 c43_17 rfl rfl rfl rfl
theorem c43_18 : mcode 43 18 = some (.iinc 3 1, 3, 0, 0, 0) := rfl
theorem r43_18 : Rn 43 (18, [x0, x1, x2, some (.int i)], st, a, h) = Nl x2 (Rn 43 (21, [x0, x1, x2, some (.int (i + (1 : Int32)))], st, a, h)) := Rn_st1 (k := 3) (v := .int (i + (1 : Int32))) x2 c43_18 rfl rfl rfl rfl
theorem c43_21 : mcode 43 21 = some (.goto (-17), 3, 0, 0, 0) := rfl
theorem r43_21 : Rn 43 (21, [x0, x1, x2, x3], st, a, h) = Rn 43 (4, [x0, x1, x2, x3], st, a, h) := Rn_goto c43_21 rfl
theorem c43_24 : mcode 43 24 = some (.iload_n 2, 1, 0, 0, 0) := rfl
theorem r43_24 : Rn 43 (24, [x0, x1, some (.int i), x3], st, a, h) = Rn 43 (25, [x0, x1, some (.int i), x3], .int i :: st, a, h) := Rn_go c43_24 rfl
theorem c43_25 : mcode 43 25 = some (.ireturn, 1, 0, 0, 0) := rfl
theorem r43_25 : Rn 43 (25, [x0, x1, x2, x3], [.int i], a, h) = some (some (.int i), a, h) := Rn_ireti c43_25
theorem c44_0 : mcode 44 0 = some (.iconst 0, 1, 0, 0, 0) := rfl
theorem r44_0 : Rn 44 (0, [x0, x1, x2], st, a, h) = Rn 44 (1, [x0, x1, x2], .int (0 : Int32) :: st, a, h) := Rn_go c44_0 rfl
theorem c44_1 : mcode 44 1 = some (.istore_n 1, 1, 0, 0, 0) := rfl
theorem r44_1 : Rn 44 (1, [x0, x1, x2], .int i :: st, a, h) = Nl x0 (Rn 44 (2, [x0, some (.int i), x2], st, a, h)) := Rn_st1 (k := 1) (v := .int i) x0 c44_1 rfl rfl rfl rfl
theorem c44_2 : mcode 44 2 = some (.iconst 0, 1, 0, 0, 0) := rfl
theorem r44_2 : Rn 44 (2, [x0, x1, x2], st, a, h) = Rn 44 (3, [x0, x1, x2], .int (0 : Int32) :: st, a, h) := Rn_go c44_2 rfl
theorem c44_3 : mcode 44 3 = some (.istore_n 2, 1, 0, 0, 0) := rfl
theorem r44_3 : Rn 44 (3, [x0, x1, x2], .int i :: st, a, h) = Nl x1 (Rn 44 (4, [x0, x1, some (.int i)], st, a, h)) := Rn_st1 (k := 2) (v := .int i) x1 c44_3 rfl rfl rfl rfl
theorem c44_4 : mcode 44 4 = some (.iload_n 2, 1, 0, 0, 0) := rfl
theorem r44_4 : Rn 44 (4, [x0, x1, some (.int i)], st, a, h) = Rn 44 (5, [x0, x1, some (.int i)], .int i :: st, a, h) := Rn_go c44_4 rfl
theorem c44_5 : mcode 44 5 = some (.bipush 8, 2, 0, 0, 0) := rfl
theorem r44_5 : Rn 44 (5, [x0, x1, x2], st, a, h) = Rn 44 (7, [x0, x1, x2], .int (8 : Int32) :: st, a, h) := Rn_go c44_5 rfl
theorem c44_7 : mcode 44 7 = some (.if_icmp .ge 17, 3, 0, 0, 0) := rfl
theorem r44_7 : Rn 44 (7, [x0, x1, x2], .int j :: .int i :: st, a, h) = if i < j then Rn 44 (10, [x0, x1, x2], st, a, h) else Rn 44 (24, [x0, x1, x2], st, a, h) := Rn_icmpn c44_7 mc_ge rfl rfl
theorem c44_10 : mcode 44 10 = some (.iload_n 1, 1, 0, 0, 0) := rfl
theorem r44_10 : Rn 44 (10, [x0, some (.int i), x2], st, a, h) = Rn 44 (11, [x0, some (.int i), x2], .int i :: st, a, h) := Rn_go c44_10 rfl
theorem c44_11 : mcode 44 11 = some (.aload_n 0, 1, 0, 0, 0) := rfl
theorem r44_11 : Rn 44 (11, [some (.ref q), x1, x2], st, a, h) = Rn 44 (12, [some (.ref q), x1, x2], .ref q :: st, a, h) := Rn_go c44_11 rfl
theorem c44_12 : mcode 44 12 = some (.iload_n 2, 1, 0, 0, 0) := rfl
theorem r44_12 : Rn 44 (12, [x0, x1, some (.int i)], st, a, h) = Rn 44 (13, [x0, x1, some (.int i)], .int i :: st, a, h) := Rn_go c44_12 rfl
theorem c44_13 : mcode 44 13 = some (.invokevirtual 102, 3, 43, 1, 4) := rfl
theorem r44_13 : Rn 44 (13, [x0, x1, x2], [v0, .ref q, .int i0], a, h) = if mis h q 4 = true then Bk 44 16 [x0, x1, x2] [.int i0] (Ec 43 [.ref q, v0] a h) else none := Rn_call1 c44_13 rfl (Nat.le_of_ble_eq_true rfl) rfl rfl (Nat.le_of_ble_eq_true rfl)
theorem c44_16 : mcode 44 16 = some (.iadd, 1, 0, 0, 0) := rfl
theorem r44_16 : Rn 44 (16, [x0, x1, x2], .int j :: .int i :: st, a, h) = Rn 44 (17, [x0, x1, x2], .int (i + j) :: st, a, h) := Rn_go c44_16 rfl
theorem c44_17 : mcode 44 17 = some (.istore_n 1, 1, 0, 0, 0) := rfl
theorem r44_17 : Rn 44 (17, [x0, x1, x2], .int i :: st, a, h) = Nl x0 (Rn 44 (18, [x0, some (.int i), x2], st, a, h)) := Rn_st1 (k := 1) (v := .int i) x0 c44_17 rfl rfl rfl rfl
theorem c44_18 : mcode 44 18 = some (.iinc 2 1, 3, 0, 0, 0) := rfl
theorem r44_18 : Rn 44 (18, [x0, x1, some (.int i)], st, a, h) = Nl x1 (Rn 44 (21, [x0, x1, some (.int (i + (1 : Int32)))], st, a, h)) := Rn_st1 (k := 2) (v := .int (i + (1 : Int32))) x1 c44_18 rfl rfl rfl rfl
theorem c44_21 : mcode 44 21 = some (.goto (-17), 3, 0, 0, 0) := rfl
theorem r44_21 : Rn 44 (21, [x0, x1, x2], st, a, h) = Rn 44 (4, [x0, x1, x2], st, a, h) := Rn_goto c44_21 rfl
theorem c44_24 : mcode 44 24 = some (.iload_n 1, 1, 0, 0, 0) := rfl
theorem r44_24 : Rn 44 (24, [x0, some (.int i), x2], st, a, h) = Rn 44 (25, [x0, some (.int i), x2], .int i :: st, a, h) := Rn_go c44_24 rfl
theorem c44_25 : mcode 44 25 = some (.ireturn, 1, 0, 0, 0) := rfl
theorem r44_25 : Rn 44 (25, [x0, x1, x2], [.int i], a, h) = some (some (.int i), a, h) := Rn_ireti c44_25
theorem c45_0 : mcode 45 0 = some (.aload_n 0, 1, 0, 0, 0) := rfl
theorem r45_0 : Rn 45 (0, [some (.ref q), x1], st, a, h) = Rn 45 (1, [some (.ref q), x1], .ref q :: st, a, h) := Rn_go c45_0 rfl
theorem c45_1 : mcode 45 1 = some (.iload_n 1, 1, 0, 0, 0) := rfl
theorem r45_1 : Rn 45 (1, [x0, some (.int i)], st, a, h) = Rn 45 (2, [x0, some (.int i)], .int i :: st, a, h) := Rn_go c45_1 rfl
theorem c45_2 : mcode 45 2 = some (.invokevirtual 102, 3, 43, 1, 4) := rfl
theorem r45_2 : Rn 45 (2, [x0, x1], [v0, .ref q], a, h) = if mis h q 4 = true then Bk 45 5 [x0, x1] [] (Ec 43 [.ref q, v0] a h) else none := Rn_call1 c45_2 rfl (Nat.le_of_ble_eq_true rfl) rfl rfl (Nat.le_of_ble_eq_true rfl)
theorem c45_5 : mcode 45 5 = some (.bipush 9, 2, 0, 0, 0) := rfl
theorem r45_5 : Rn 45 (5, [x0, x1], st, a, h) = Rn 45 (7, [x0, x1], .int (9 : Int32) :: st, a, h) := Rn_go c45_5 rfl
theorem c45_7 : mcode 45 7 = some (.if_icmp .gt 7, 3, 0, 0, 0) := rfl
theorem r45_7 : Rn 45 (7, [x0, x1], .int j :: .int i :: st, a, h) = if j < i then Rn 45 (14, [x0, x1], st, a, h) else Rn 45 (10, [x0, x1], st, a, h) := Rn_icmp c45_7 mc_gt rfl rfl
theorem c45_10 : mcode 45 10 = some (.iconst 1, 1, 0, 0, 0) := rfl
theorem r45_10 : Rn 45 (10, [x0, x1], st, a, h) = Rn 45 (11, [x0, x1], .int (1 : Int32) :: st, a, h) := Rn_go c45_10 rfl
theorem c45_11 : mcode 45 11 = some (.goto 4, 3, 0, 0, 0) := rfl
theorem r45_11 : Rn 45 (11, [x0, x1], st, a, h) = Rn 45 (15, [x0, x1], st, a, h) := Rn_goto c45_11 rfl
theorem c45_14 : mcode 45 14 = some (.iconst 0, 1, 0, 0, 0) := rfl
theorem r45_14 : Rn 45 (14, [x0, x1], st, a, h) = Rn 45 (15, [x0, x1], .int (0 : Int32) :: st, a, h) := Rn_go c45_14 rfl
theorem c45_15 : mcode 45 15 = some (.ireturn, 1, 1, 0, 0) := rfl
theorem r45_15 : Rn 45 (15, [x0, x1], [.int i], a, h) = if mrt 1 i = true then some (some (.int i), a, h) else none := Rn_iretz c45_15
theorem c46_0 : mcode 46 0 = some (.iconst 0, 1, 0, 0, 0) := rfl
theorem r46_0 : Rn 46 (0, [x0, x1, x2], st, a, h) = Rn 46 (1, [x0, x1, x2], .int (0 : Int32) :: st, a, h) := Rn_go c46_0 rfl
theorem c46_1 : mcode 46 1 = some (.istore_n 1, 1, 0, 0, 0) := rfl
theorem r46_1 : Rn 46 (1, [x0, x1, x2], .int i :: st, a, h) = Nl x0 (Rn 46 (2, [x0, some (.int i), x2], st, a, h)) := Rn_st1 (k := 1) (v := .int i) x0 c46_1 rfl rfl rfl rfl
theorem c46_2 : mcode 46 2 = some (.iconst 0, 1, 0, 0, 0) := rfl
theorem r46_2 : Rn 46 (2, [x0, x1, x2], st, a, h) = Rn 46 (3, [x0, x1, x2], .int (0 : Int32) :: st, a, h) := Rn_go c46_2 rfl
theorem c46_3 : mcode 46 3 = some (.istore_n 2, 1, 0, 0, 0) := rfl
theorem r46_3 : Rn 46 (3, [x0, x1, x2], .int i :: st, a, h) = Nl x1 (Rn 46 (4, [x0, x1, some (.int i)], st, a, h)) := Rn_st1 (k := 2) (v := .int i) x1 c46_3 rfl rfl rfl rfl
theorem c46_4 : mcode 46 4 = some (.iload_n 2, 1, 0, 0, 0) := rfl
theorem r46_4 : Rn 46 (4, [x0, x1, some (.int i)], st, a, h) = Rn 46 (5, [x0, x1, some (.int i)], .int i :: st, a, h) := Rn_go c46_4 rfl
theorem c46_5 : mcode 46 5 = some (.bipush 8, 2, 0, 0, 0) := rfl
theorem r46_5 : Rn 46 (5, [x0, x1, x2], st, a, h) = Rn 46 (7, [x0, x1, x2], .int (8 : Int32) :: st, a, h) := Rn_go c46_5 rfl
theorem c46_7 : mcode 46 7 = some (.if_icmp .ge 23, 3, 0, 0, 0) := rfl
theorem r46_7 : Rn 46 (7, [x0, x1, x2], .int j :: .int i :: st, a, h) = if i < j then Rn 46 (10, [x0, x1, x2], st, a, h) else Rn 46 (30, [x0, x1, x2], st, a, h) := Rn_icmpn c46_7 mc_ge rfl rfl
theorem c46_10 : mcode 46 10 = some (.aload_n 0, 1, 0, 0, 0) := rfl
theorem r46_10 : Rn 46 (10, [some (.ref q), x1, x2], st, a, h) = Rn 46 (11, [some (.ref q), x1, x2], .ref q :: st, a, h) := Rn_go c46_10 rfl
theorem c46_11 : mcode 46 11 = some (.iload_n 2, 1, 0, 0, 0) := rfl
theorem r46_11 : Rn 46 (11, [x0, x1, some (.int i)], st, a, h) = Rn 46 (12, [x0, x1, some (.int i)], .int i :: st, a, h) := Rn_go c46_11 rfl
theorem c46_12 : mcode 46 12 = some (.invokevirtual 105, 3, 45, 1, 4) := rfl
theorem r46_12 : Rn 46 (12, [x0, x1, x2], [v0, .ref q], a, h) = if mis h q 4 = true then Bk 46 15 [x0, x1, x2] [] (Ec 45 [.ref q, v0] a h) else none := Rn_call1 c46_12 rfl (Nat.le_of_ble_eq_true rfl) rfl rfl (Nat.le_of_ble_eq_true rfl)
theorem c46_15 : mcode 46 15 = some (.ifCond .eq 9, 3, 0, 0, 0) := rfl
theorem r46_15 : Rn 46 (15, [x0, x1, x2], .int i :: st, a, h) = if i = 0 then Rn 46 (24, [x0, x1, x2], st, a, h) else Rn 46 (18, [x0, x1, x2], st, a, h) := Rn_ifc c46_15 mc_eq rfl rfl
theorem c46_18 : mcode 46 18 = some (.iload_n 1, 1, 0, 0, 0) := rfl
theorem r46_18 : Rn 46 (18, [x0, some (.int i), x2], st, a, h) = Rn 46 (19, [x0, some (.int i), x2], .int i :: st, a, h) := Rn_go c46_18 rfl
theorem c46_19 : mcode 46 19 = some (.iconst 1, 1, 0, 0, 0) := rfl
theorem r46_19 : Rn 46 (19, [x0, x1, x2], st, a, h) = Rn 46 (20, [x0, x1, x2], .int (1 : Int32) :: st, a, h) := Rn_go c46_19 rfl
theorem c46_20 : mcode 46 20 = some (.iload_n 2, 1, 0, 0, 0) := rfl
theorem r46_20 : Rn 46 (20, [x0, x1, some (.int i)], st, a, h) = Rn 46 (21, [x0, x1, some (.int i)], .int i :: st, a, h) := Rn_go c46_20 rfl
theorem c46_21 : mcode 46 21 = some (.ishl, 1, 0, 0, 0) := rfl
theorem r46_21 : Rn 46 (21, [x0, x1, x2], .int j :: .int i :: st, a, h) = Rn 46 (22, [x0, x1, x2], .int (i <<< (j &&& 31)) :: st, a, h) := Rn_go c46_21 rfl
theorem c46_22 : mcode 46 22 = some (.ior, 1, 0, 0, 0) := rfl
theorem r46_22 : Rn 46 (22, [x0, x1, x2], .int j :: .int i :: st, a, h) = Rn 46 (23, [x0, x1, x2], .int (i ||| j) :: st, a, h) := Rn_go c46_22 rfl
theorem c46_23 : mcode 46 23 = some (.istore_n 1, 1, 0, 0, 0) := rfl
theorem r46_23 : Rn 46 (23, [x0, x1, x2], .int i :: st, a, h) = Nl x0 (Rn 46 (24, [x0, some (.int i), x2], st, a, h)) := Rn_st1 (k := 1) (v := .int i) x0 c46_23 rfl rfl rfl rfl
theorem c46_24 : mcode 46 24 = some (.iinc 2 1, 3, 0, 0, 0) := rfl
theorem r46_24 : Rn 46 (24, [x0, x1, some (.int i)], st, a, h) = Nl x1 (Rn 46 (27, [x0, x1, some (.int (i + (1 : Int32)))], st, a, h)) := Rn_st1 (k := 2) (v := .int (i + (1 : Int32))) x1 c46_24 rfl rfl rfl rfl
theorem c46_27 : mcode 46 27 = some (.goto (-23), 3, 0, 0, 0) := rfl
theorem r46_27 : Rn 46 (27, [x0, x1, x2], st, a, h) = Rn 46 (4, [x0, x1, x2], st, a, h) := Rn_goto c46_27 rfl
theorem c46_30 : mcode 46 30 = some (.iload_n 1, 1, 0, 0, 0) := rfl
theorem r46_30 : Rn 46 (30, [x0, some (.int i), x2], st, a, h) = Rn 46 (31, [x0, some (.int i), x2], .int i :: st, a, h) := Rn_go c46_30 rfl
theorem c46_31 : mcode 46 31 = some (.ireturn, 1, 0, 0, 0) := rfl
theorem r46_31 : Rn 46 (31, [x0, x1, x2], [.int i], a, h) = some (some (.int i), a, h) := Rn_ireti c46_31
theorem c47_0 : mcode 47 0 = some (.iconst (-1), 1, 0, 0, 0) := rfl
theorem r47_0 : Rn 47 (0, [x0, x1, x2, x3, x4, x5], st, a, h) = Rn 47 (1, [x0, x1, x2, x3, x4, x5], .int (-1 : Int32) :: st, a, h) := Rn_go c47_0 rfl
theorem c47_1 : mcode 47 1 = some (.istore_n 3, 1, 0, 0, 0) := rfl
theorem r47_1 : Rn 47 (1, [x0, x1, x2, x3, x4, x5], .int i :: st, a, h) = Nl x2 (Rn 47 (2, [x0, x1, x2, some (.int i), x4, x5], st, a, h)) := Rn_st1 (k := 3) (v := .int i) x2 c47_1 rfl rfl rfl rfl
theorem c47_2 : mcode 47 2 = some (.iconst (-1), 1, 0, 0, 0) := rfl
theorem r47_2 : Rn 47 (2, [x0, x1, x2, x3, x4, x5], st, a, h) = Rn 47 (3, [x0, x1, x2, x3, x4, x5], .int (-1 : Int32) :: st, a, h) := Rn_go c47_2 rfl
theorem c47_3 : mcode 47 3 = some (.istore 4, 2, 0, 0, 0) := rfl
theorem r47_3 : Rn 47 (3, [x0, x1, x2, x3, x4, x5], .int i :: st, a, h) = Nl x3 (Rn 47 (5, [x0, x1, x2, x3, some (.int i), x5], st, a, h)) := Rn_st1 (k := 4) (v := .int i) x3 c47_3 rfl rfl rfl rfl
theorem c47_5 : mcode 47 5 = some (.iconst 0, 1, 0, 0, 0) := rfl
theorem r47_5 : Rn 47 (5, [x0, x1, x2, x3, x4, x5], st, a, h) = Rn 47 (6, [x0, x1, x2, x3, x4, x5], .int (0 : Int32) :: st, a, h) := Rn_go c47_5 rfl
theorem c47_6 : mcode 47 6 = some (.istore 5, 2, 0, 0, 0) := rfl
theorem r47_6 : Rn 47 (6, [x0, x1, x2, x3, x4, x5], .int i :: st, a, h) = Nl x4 (Rn 47 (8, [x0, x1, x2, x3, x4, some (.int i)], st, a, h)) := Rn_st1 (k := 5) (v := .int i) x4 c47_6 rfl rfl rfl rfl
theorem c47_8 : mcode 47 8 = some (.iload 5, 2, 0, 0, 0) := rfl
theorem r47_8 : Rn 47 (8, [x0, x1, x2, x3, x4, some (.int i)], st, a, h) = Rn 47 (10, [x0, x1, x2, x3, x4, some (.int i)], .int i :: st, a, h) := Rn_go c47_8 rfl
theorem c47_10 : mcode 47 10 = some (.iconst 3, 1, 0, 0, 0) := rfl
theorem r47_10 : Rn 47 (10, [x0, x1, x2, x3, x4, x5], st, a, h) = Rn 47 (11, [x0, x1, x2, x3, x4, x5], .int (3 : Int32) :: st, a, h) := Rn_go c47_10 rfl
theorem c47_11 : mcode 47 11 = some (.if_icmp .ge 39, 3, 0, 0, 0) := rfl
theorem r47_11 : Rn 47 (11, [x0, x1, x2, x3, x4, x5], .int j :: .int i :: st, a, h) = if i < j then Rn 47 (14, [x0, x1, x2, x3, x4, x5], st, a, h) else Rn 47 (50, [x0, x1, x2, x3, x4, x5], st, a, h) := Rn_icmpn c47_11 mc_ge rfl rfl
theorem c47_14 : mcode 47 14 = some (.iload 5, 2, 0, 0, 0) := rfl
theorem r47_14 : Rn 47 (14, [x0, x1, x2, x3, x4, some (.int i)], st, a, h) = Rn 47 (16, [x0, x1, x2, x3, x4, some (.int i)], .int i :: st, a, h) := Rn_go c47_14 rfl
theorem c47_16 : mcode 47 16 = some (.iload_n 2, 1, 0, 0, 0) := rfl
theorem r47_16 : Rn 47 (16, [x0, x1, some (.int i), x3, x4, x5], st, a, h) = Rn 47 (17, [x0, x1, some (.int i), x3, x4, x5], .int i :: st, a, h) := Rn_go c47_16 rfl
theorem c47_17 : mcode 47 17 = some (.if_icmp .eq 27, 3, 0, 0, 0) := rfl
theorem r47_17 : Rn 47 (17, [x0, x1, x2, x3, x4, x5], .int j :: .int i :: st, a, h) = if i = j then Rn 47 (44, [x0, x1, x2, x3, x4, x5], st, a, h) else Rn 47 (20, [x0, x1, x2, x3, x4, x5], st, a, h) := Rn_icmp c47_17 mc_eq rfl rfl
theorem c47_20 : mcode 47 20 = some (.aload_n 0, 1, 0, 0, 0) := rfl
theorem r47_20 : Rn 47 (20, [some (.ref q), x1, x2, x3, x4, x5], st, a, h) = Rn 47 (21, [some (.ref q), x1, x2, x3, x4, x5], .ref q :: st, a, h) := Rn_go c47_20 rfl
theorem c47_21 : mcode 47 21 = some (.iload_n 1, 1, 0, 0, 0) := rfl
theorem r47_21 : Rn 47 (21, [x0, some (.int i), x2, x3, x4, x5], st, a, h) = Rn 47 (22, [x0, some (.int i), x2, x3, x4, x5], .int i :: st, a, h) := Rn_go c47_21 rfl
theorem c47_22 : mcode 47 22 = some (.iload 5, 2, 0, 0, 0) := rfl
theorem r47_22 : Rn 47 (22, [x0, x1, x2, x3, x4, some (.int i)], st, a, h) = Rn 47 (24, [x0, x1, x2, x3, x4, some (.int i)], .int i :: st, a, h) := Rn_go c47_22 rfl
theorem c47_24 : mcode 47 24 = some (.invokevirtual 99, 3, 41, 2, 4) := rfl
theorem r47_24 : Rn 47 (24, [x0, x1, x2, x3, x4, x5], [v1, v0, .ref q], a, h) = if mis h q 4 = true then Bk 47 27 [x0, x1, x2, x3, x4, x5] [] (Ec 41 [.ref q, v0, v1] a h) else none := Rn_call1 c47_24 rfl (Nat.le_of_ble_eq_true rfl) rfl rfl (Nat.le_of_ble_eq_true rfl)
theorem c47_27 : mcode 47 27 = some (.iload 4, 2, 0, 0, 0) := rfl
theorem r47_27 : Rn 47 (27, [x0, x1, x2, x3, some (.int i), x5], st, a, h) = Rn 47 (29, [x0, x1, x2, x3, some (.int i), x5], .int i :: st, a, h) := Rn_go c47_27 rfl
theorem c47_29 : mcode 47 29 = some (.if_icmp .le 15, 3, 0, 0, 0) := rfl
theorem r47_29 : Rn 47 (29, [x0, x1, x2, x3, x4, x5], .int j :: .int i :: st, a, h) = if j < i then Rn 47 (32, [x0, x1, x2, x3, x4, x5], st, a, h) else Rn 47 (44, [x0, x1, x2, x3, x4, x5], st, a, h) := Rn_icmpn c47_29 mc_le rfl rfl
theorem c47_32 : mcode 47 32 = some (.aload_n 0, 1, 0, 0, 0) := rfl
theorem r47_32 : Rn 47 (32, [some (.ref q), x1, x2, x3, x4, x5], st, a, h) = Rn 47 (33, [some (.ref q), x1, x2, x3, x4, x5], .ref q :: st, a, h) := Rn_go c47_32 rfl
theorem c47_33 : mcode 47 33 = some (.iload_n 1, 1, 0, 0, 0) := rfl
theorem r47_33 : Rn 47 (33, [x0, some (.int i), x2, x3, x4, x5], st, a, h) = Rn 47 (34, [x0, some (.int i), x2, x3, x4, x5], .int i :: st, a, h) := Rn_go c47_33 rfl
theorem c47_34 : mcode 47 34 = some (.iload 5, 2, 0, 0, 0) := rfl
theorem r47_34 : Rn 47 (34, [x0, x1, x2, x3, x4, some (.int i)], st, a, h) = Rn 47 (36, [x0, x1, x2, x3, x4, some (.int i)], .int i :: st, a, h) := Rn_go c47_34 rfl
theorem c47_36 : mcode 47 36 = some (.invokevirtual 99, 3, 41, 2, 4) := rfl
theorem r47_36 : Rn 47 (36, [x0, x1, x2, x3, x4, x5], [v1, v0, .ref q], a, h) = if mis h q 4 = true then Bk 47 39 [x0, x1, x2, x3, x4, x5] [] (Ec 41 [.ref q, v0, v1] a h) else none := Rn_call1 c47_36 rfl (Nat.le_of_ble_eq_true rfl) rfl rfl (Nat.le_of_ble_eq_true rfl)
theorem c47_39 : mcode 47 39 = some (.istore 4, 2, 0, 0, 0) := rfl
theorem r47_39 : Rn 47 (39, [x0, x1, x2, x3, x4, x5], .int i :: st, a, h) = Nl x3 (Rn 47 (41, [x0, x1, x2, x3, some (.int i), x5], st, a, h)) := Rn_st1 (k := 4) (v := .int i) x3 c47_39 rfl rfl rfl rfl
theorem c47_41 : mcode 47 41 = some (.iload 5, 2, 0, 0, 0) := rfl
theorem r47_41 : Rn 47 (41, [x0, x1, x2, x3, x4, some (.int i)], st, a, h) = Rn 47 (43, [x0, x1, x2, x3, x4, some (.int i)], .int i :: st, a, h) := Rn_go c47_41 rfl
theorem c47_43 : mcode 47 43 = some (.istore_n 3, 1, 0, 0, 0) := rfl
theorem r47_43 : Rn 47 (43, [x0, x1, x2, x3, x4, x5], .int i :: st, a, h) = Nl x2 (Rn 47 (44, [x0, x1, x2, some (.int i), x4, x5], st, a, h)) := Rn_st1 (k := 3) (v := .int i) x2 c47_43 rfl rfl rfl rfl
theorem c47_44 : mcode 47 44 = some (.iinc 5 1, 3, 0, 0, 0) := rfl
theorem r47_44 : Rn 47 (44, [x0, x1, x2, x3, x4, some (.int i)], st, a, h) = Nl x4 (Rn 47 (47, [x0, x1, x2, x3, x4, some (.int (i + (1 : Int32)))], st, a, h)) := Rn_st1 (k := 5) (v := .int (i + (1 : Int32))) x4 c47_44 rfl rfl rfl rfl
theorem c47_47 : mcode 47 47 = some (.goto (-39), 3, 0, 0, 0) := rfl
theorem r47_47 : Rn 47 (47, [x0, x1, x2, x3, x4, x5], st, a, h) = Rn 47 (8, [x0, x1, x2, x3, x4, x5], st, a, h) := Rn_goto c47_47 rfl
theorem c47_50 : mcode 47 50 = some (.iload_n 3, 1, 0, 0, 0) := rfl
theorem r47_50 : Rn 47 (50, [x0, x1, x2, some (.int i), x4, x5], st, a, h) = Rn 47 (51, [x0, x1, x2, some (.int i), x4, x5], .int i :: st, a, h) := Rn_go c47_50 rfl
theorem c47_51 : mcode 47 51 = some (.ireturn, 1, 0, 0, 0) := rfl
theorem r47_51 : Rn 47 (51, [x0, x1, x2, x3, x4, x5], [.int i], a, h) = some (some (.int i), a, h) := Rn_ireti c47_51
theorem c48_0 : mcode 48 0 = some (.iconst 0, 1, 0, 0, 0) := rfl
theorem r48_0 : Rn 48 (0, [x0, x1, x2, x3], st, a, h) = Rn 48 (1, [x0, x1, x2, x3], .int (0 : Int32) :: st, a, h) := Rn_go c48_0 rfl
theorem c48_1 : mcode 48 1 = some (.istore_n 2, 1, 0, 0, 0) := rfl
theorem r48_1 : Rn 48 (1, [x0, x1, x2, x3], .int i :: st, a, h) = Nl x1 (Rn 48 (2, [x0, x1, some (.int i), x3], st, a, h)) := Rn_st1 (k := 2) (v := .int i) x1 c48_1 rfl rfl rfl rfl
theorem c48_2 : mcode 48 2 = some (.iconst 0, 1, 0, 0, 0) := rfl
theorem r48_2 : Rn 48 (2, [x0, x1, x2, x3], st, a, h) = Rn 48 (3, [x0, x1, x2, x3], .int (0 : Int32) :: st, a, h) := Rn_go c48_2 rfl
theorem c48_3 : mcode 48 3 = some (.istore_n 3, 1, 0, 0, 0) := rfl
theorem r48_3 : Rn 48 (3, [x0, x1, x2, x3], .int i :: st, a, h) = Nl x2 (Rn 48 (4, [x0, x1, x2, some (.int i)], st, a, h)) := Rn_st1 (k := 3) (v := .int i) x2 c48_3 rfl rfl rfl rfl
theorem c48_4 : mcode 48 4 = some (.iload_n 3, 1, 0, 0, 0) := rfl
theorem r48_4 : Rn 48 (4, [x0, x1, x2, some (.int i)], st, a, h) = Rn 48 (5, [x0, x1, x2, some (.int i)], .int i :: st, a, h) := Rn_go c48_4 rfl
theorem c48_5 : mcode 48 5 = some (.aload_n 0, 1, 0, 0, 0) := rfl
theorem r48_5 : Rn 48 (5, [some (.ref q), x1, x2, x3], st, a, h) = Rn 48 (6, [some (.ref q), x1, x2, x3], .ref q :: st, a, h) := Rn_go c48_5 rfl
theorem c48_6 : mcode 48 6 = some (.getfield 24, 3, 4, 3, 0) := rfl
theorem r48_6 : Rn 48 (6, [x0, x1, x2, x3], .ref q :: st, a, h) = Kv 48 9 [x0, x1, x2, x3] st a h (mgf h q 4 3) := Rn_getf c48_6 rfl
theorem c48_9 : mcode 48 9 = some (.if_icmp .ge 37, 3, 0, 0, 0) := rfl
theorem r48_9 : Rn 48 (9, [x0, x1, x2, x3], .int j :: .int i :: st, a, h) = if i < j then Rn 48 (12, [x0, x1, x2, x3], st, a, h) else Rn 48 (46, [x0, x1, x2, x3], st, a, h) := Rn_icmpn c48_9 mc_ge rfl rfl
theorem c48_12 : mcode 48 12 = some (.iload_n 3, 1, 0, 0, 0) := rfl
theorem r48_12 : Rn 48 (12, [x0, x1, x2, some (.int i)], st, a, h) = Rn 48 (13, [x0, x1, x2, some (.int i)], .int i :: st, a, h) := Rn_go c48_12 rfl
theorem c48_13 : mcode 48 13 = some (.aload_n 0, 1, 0, 0, 0) := rfl
theorem r48_13 : Rn 48 (13, [some (.ref q), x1, x2, x3], st, a, h) = Rn 48 (14, [some (.ref q), x1, x2, x3], .ref q :: st, a, h) := Rn_go c48_13 rfl
theorem c48_14 : mcode 48 14 = some (.getfield 17, 3, 4, 1, 0) := rfl
theorem r48_14 : Rn 48 (14, [x0, x1, x2, x3], .ref q :: st, a, h) = Kv 48 17 [x0, x1, x2, x3] st a h (mgf h q 4 1) := Rn_getf c48_14 rfl
theorem c48_17 : mcode 48 17 = some (.arraylength, 1, 0, 0, 0) := rfl
theorem r48_17 : Rn 48 (17, [x0, x1, x2, x3], .ref q :: st, a, h) = Ki 48 18 [x0, x1, x2, x3] st a h (mlen h q) := Rn_alen c48_17 rfl
theorem c48_18 : mcode 48 18 = some (.if_icmp .ge 28, 3, 0, 0, 0) := rfl
theorem r48_18 : Rn 48 (18, [x0, x1, x2, x3], .int j :: .int i :: st, a, h) = if i < j then Rn 48 (21, [x0, x1, x2, x3], st, a, h) else Rn 48 (46, [x0, x1, x2, x3], st, a, h) := Rn_icmpn c48_18 mc_ge rfl rfl
theorem c48_21 : mcode 48 21 = some (.aload_n 0, 1, 0, 0, 0) := rfl
theorem r48_21 : Rn 48 (21, [some (.ref q), x1, x2, x3], st, a, h) = Rn 48 (22, [some (.ref q), x1, x2, x3], .ref q :: st, a, h) := Rn_go c48_21 rfl
theorem c48_22 : mcode 48 22 = some (.getfield 17, 3, 4, 1, 0) := rfl
theorem r48_22 : Rn 48 (22, [x0, x1, x2, x3], .ref q :: st, a, h) = Kv 48 25 [x0, x1, x2, x3] st a h (mgf h q 4 1) := Rn_getf c48_22 rfl
theorem c48_25 : mcode 48 25 = some (.iload_n 3, 1, 0, 0, 0) := rfl
theorem r48_25 : Rn 48 (25, [x0, x1, x2, some (.int i)], st, a, h) = Rn 48 (26, [x0, x1, x2, some (.int i)], .int i :: st, a, h) := Rn_go c48_25 rfl
theorem c48_26 : mcode 48 26 = some (.aaload, 1, 0, 0, 0) := rfl
theorem r48_26 : Rn 48 (26, [x0, x1, x2, x3], .int i :: .ref q :: st, a, h) = Kv 48 27 [x0, x1, x2, x3] st a h (mald h q i) := Rn_aald c48_26 rfl
theorem c48_27 : mcode 48 27 = some (.getfield 62, 3, 3, 1, 0) := rfl
theorem r48_27 : Rn 48 (27, [x0, x1, x2, x3], .ref q :: st, a, h) = Kv 48 30 [x0, x1, x2, x3] st a h (mgf h q 3 1) := Rn_getf c48_27 rfl
theorem c48_30 : mcode 48 30 = some (.iload_n 1, 1, 0, 0, 0) := rfl
theorem r48_30 : Rn 48 (30, [x0, some (.int i), x2, x3], st, a, h) = Rn 48 (31, [x0, some (.int i), x2, x3], .int i :: st, a, h) := Rn_go c48_30 rfl
theorem c48_31 : mcode 48 31 = some (.if_icmp .ne 9, 3, 0, 0, 0) := rfl
theorem r48_31 : Rn 48 (31, [x0, x1, x2, x3], .int j :: .int i :: st, a, h) = if i = j then Rn 48 (34, [x0, x1, x2, x3], st, a, h) else Rn 48 (40, [x0, x1, x2, x3], st, a, h) := Rn_icmpn c48_31 mc_ne rfl rfl
theorem c48_34 : mcode 48 34 = some (.iload_n 2, 1, 0, 0, 0) := rfl
theorem r48_34 : Rn 48 (34, [x0, x1, some (.int i), x3], st, a, h) = Rn 48 (35, [x0, x1, some (.int i), x3], .int i :: st, a, h) := Rn_go c48_34 rfl
theorem c48_35 : mcode 48 35 = some (.iconst 1, 1, 0, 0, 0) := rfl
theorem r48_35 : Rn 48 (35, [x0, x1, x2, x3], st, a, h) = Rn 48 (36, [x0, x1, x2, x3], .int (1 : Int32) :: st, a, h) := Rn_go c48_35 rfl
theorem c48_36 : mcode 48 36 = some (.iload_n 3, 1, 0, 0, 0) := rfl
theorem r48_36 : Rn 48 (36, [x0, x1, x2, some (.int i)], st, a, h) = Rn 48 (37, [x0, x1, x2, some (.int i)], .int i :: st, a, h) := Rn_go c48_36 rfl
theorem c48_37 : mcode 48 37 = some (.ishl, 1, 0, 0, 0) := rfl
theorem r48_37 : Rn 48 (37, [x0, x1, x2, x3], .int j :: .int i :: st, a, h) = Rn 48 (38, [x0, x1, x2, x3], .int (i <<< (j &&& 31)) :: st, a, h) := Rn_go c48_37 rfl
theorem c48_38 : mcode 48 38 = some (.ior, 1, 0, 0, 0) := rfl
theorem r48_38 : Rn 48 (38, [x0, x1, x2, x3], .int j :: .int i :: st, a, h) = Rn 48 (39, [x0, x1, x2, x3], .int (i ||| j) :: st, a, h) := Rn_go c48_38 rfl
theorem c48_39 : mcode 48 39 = some (.istore_n 2, 1, 0, 0, 0) := rfl
theorem r48_39 : Rn 48 (39, [x0, x1, x2, x3], .int i :: st, a, h) = Nl x1 (Rn 48 (40, [x0, x1, some (.int i), x3], st, a, h)) := Rn_st1 (k := 2) (v := .int i) x1 c48_39 rfl rfl rfl rfl
theorem c48_40 : mcode 48 40 = some (.iinc 3 1, 3, 0, 0, 0) := rfl
theorem r48_40 : Rn 48 (40, [x0, x1, x2, some (.int i)], st, a, h) = Nl x2 (Rn 48 (43, [x0, x1, x2, some (.int (i + (1 : Int32)))], st, a, h)) := Rn_st1 (k := 3) (v := .int (i + (1 : Int32))) x2 c48_40 rfl rfl rfl rfl
theorem c48_43 : mcode 48 43 = some (.goto (-39), 3, 0, 0, 0) := rfl
theorem r48_43 : Rn 48 (43, [x0, x1, x2, x3], st, a, h) = Rn 48 (4, [x0, x1, x2, x3], st, a, h) := Rn_goto c48_43 rfl
theorem c48_46 : mcode 48 46 = some (.iload_n 2, 1, 0, 0, 0) := rfl
theorem r48_46 : Rn 48 (46, [x0, x1, some (.int i), x3], st, a, h) = Rn 48 (47, [x0, x1, some (.int i), x3], .int i :: st, a, h) := Rn_go c48_46 rfl
theorem c48_47 : mcode 48 47 = some (.ireturn, 1, 0, 0, 0) := rfl
theorem r48_47 : Rn 48 (47, [x0, x1, x2, x3], [.int i], a, h) = some (some (.int i), a, h) := Rn_ireti c48_47
theorem c49_0 : mcode 49 0 = some (.iconst 0, 1, 0, 0, 0) := rfl
theorem r49_0 : Rn 49 (0, [x0, x1, x2], st, a, h) = Rn 49 (1, [x0, x1, x2], .int (0 : Int32) :: st, a, h) := Rn_go c49_0 rfl
theorem c49_1 : mcode 49 1 = some (.istore_n 1, 1, 0, 0, 0) := rfl
theorem r49_1 : Rn 49 (1, [x0, x1, x2], .int i :: st, a, h) = Nl x0 (Rn 49 (2, [x0, some (.int i), x2], st, a, h)) := Rn_st1 (k := 1) (v := .int i) x0 c49_1 rfl rfl rfl rfl
theorem c49_2 : mcode 49 2 = some (.iconst 0, 1, 0, 0, 0) := rfl
theorem r49_2 : Rn 49 (2, [x0, x1, x2], st, a, h) = Rn 49 (3, [x0, x1, x2], .int (0 : Int32) :: st, a, h) := Rn_go c49_2 rfl
theorem c49_3 : mcode 49 3 = some (.istore_n 2, 1, 0, 0, 0) := rfl
theorem r49_3 : Rn 49 (3, [x0, x1, x2], .int i :: st, a, h) = Nl x1 (Rn 49 (4, [x0, x1, some (.int i)], st, a, h)) := Rn_st1 (k := 2) (v := .int i) x1 c49_3 rfl rfl rfl rfl
theorem c49_4 : mcode 49 4 = some (.iload_n 2, 1, 0, 0, 0) := rfl
theorem r49_4 : Rn 49 (4, [x0, x1, some (.int i)], st, a, h) = Rn 49 (5, [x0, x1, some (.int i)], .int i :: st, a, h) := Rn_go c49_4 rfl
theorem c49_5 : mcode 49 5 = some (.aload_n 0, 1, 0, 0, 0) := rfl
theorem r49_5 : Rn 49 (5, [some (.ref q), x1, x2], st, a, h) = Rn 49 (6, [some (.ref q), x1, x2], .ref q :: st, a, h) := Rn_go c49_5 rfl
theorem c49_6 : mcode 49 6 = some (.getfield 24, 3, 4, 3, 0) := rfl
theorem r49_6 : Rn 49 (6, [x0, x1, x2], .ref q :: st, a, h) = Kv 49 9 [x0, x1, x2] st a h (mgf h q 4 3) := Rn_getf c49_6 rfl
theorem c49_9 : mcode 49 9 = some (.if_icmp .ge 32, 3, 0, 0, 0) := rfl
theorem r49_9 : Rn 49 (9, [x0, x1, x2], .int j :: .int i :: st, a, h) = if i < j then Rn 49 (12, [x0, x1, x2], st, a, h) else Rn 49 (41, [x0, x1, x2], st, a, h) := Rn_icmpn c49_9 mc_ge rfl rfl
theorem c49_12 : mcode 49 12 = some (.iload_n 2, 1, 0, 0, 0) := rfl
theorem r49_12 : Rn 49 (12, [x0, x1, some (.int i)], st, a, h) = Rn 49 (13, [x0, x1, some (.int i)], .int i :: st, a, h) := Rn_go c49_12 rfl
theorem c49_13 : mcode 49 13 = some (.aload_n 0, 1, 0, 0, 0) := rfl
theorem r49_13 : Rn 49 (13, [some (.ref q), x1, x2], st, a, h) = Rn 49 (14, [some (.ref q), x1, x2], .ref q :: st, a, h) := Rn_go c49_13 rfl
theorem c49_14 : mcode 49 14 = some (.getfield 17, 3, 4, 1, 0) := rfl
theorem r49_14 : Rn 49 (14, [x0, x1, x2], .ref q :: st, a, h) = Kv 49 17 [x0, x1, x2] st a h (mgf h q 4 1) := Rn_getf c49_14 rfl
theorem c49_17 : mcode 49 17 = some (.arraylength, 1, 0, 0, 0) := rfl
theorem r49_17 : Rn 49 (17, [x0, x1, x2], .ref q :: st, a, h) = Ki 49 18 [x0, x1, x2] st a h (mlen h q) := Rn_alen c49_17 rfl
theorem c49_18 : mcode 49 18 = some (.if_icmp .ge 23, 3, 0, 0, 0) := rfl
theorem r49_18 : Rn 49 (18, [x0, x1, x2], .int j :: .int i :: st, a, h) = if i < j then Rn 49 (21, [x0, x1, x2], st, a, h) else Rn 49 (41, [x0, x1, x2], st, a, h) := Rn_icmpn c49_18 mc_ge rfl rfl
theorem c49_21 : mcode 49 21 = some (.iload_n 1, 1, 0, 0, 0) := rfl
theorem r49_21 : Rn 49 (21, [x0, some (.int i), x2], st, a, h) = Rn 49 (22, [x0, some (.int i), x2], .int i :: st, a, h) := Rn_go c49_21 rfl
theorem c49_22 : mcode 49 22 = some (.iconst 1, 1, 0, 0, 0) := rfl
theorem r49_22 : Rn 49 (22, [x0, x1, x2], st, a, h) = Rn 49 (23, [x0, x1, x2], .int (1 : Int32) :: st, a, h) := Rn_go c49_22 rfl
theorem c49_23 : mcode 49 23 = some (.aload_n 0, 1, 0, 0, 0) := rfl
theorem r49_23 : Rn 49 (23, [some (.ref q), x1, x2], st, a, h) = Rn 49 (24, [some (.ref q), x1, x2], .ref q :: st, a, h) := Rn_go c49_23 rfl
theorem c49_24 : mcode 49 24 = some (.getfield 17, 3, 4, 1, 0) := rfl
theorem r49_24 : Rn 49 (24, [x0, x1, x2], .ref q :: st, a, h) = Kv 49 27 [x0, x1, x2] st a h (mgf h q 4 1) := Rn_getf c49_24 rfl
theorem c49_27 : mcode 49 27 = some (.iload_n 2, 1, 0, 0, 0) := rfl
theorem r49_27 : Rn 49 (27, [x0, x1, some (.int i)], st, a, h) = Rn 49 (28, [x0, x1, some (.int i)], .int i :: st, a, h) := Rn_go c49_27 rfl
theorem c49_28 : mcode 49 28 = some (.aaload, 1, 0, 0, 0) := rfl
theorem r49_28 : Rn 49 (28, [x0, x1, x2], .int i :: .ref q :: st, a, h) = Kv 49 29 [x0, x1, x2] st a h (mald h q i) := Rn_aald c49_28 rfl
theorem c49_29 : mcode 49 29 = some (.getfield 65, 3, 3, 2, 0) := rfl
theorem r49_29 : Rn 49 (29, [x0, x1, x2], .ref q :: st, a, h) = Kv 49 32 [x0, x1, x2] st a h (mgf h q 3 2) := Rn_getf c49_29 rfl
theorem c49_32 : mcode 49 32 = some (.ishl, 1, 0, 0, 0) := rfl
theorem r49_32 : Rn 49 (32, [x0, x1, x2], .int j :: .int i :: st, a, h) = Rn 49 (33, [x0, x1, x2], .int (i <<< (j &&& 31)) :: st, a, h) := Rn_go c49_32 rfl
theorem c49_33 : mcode 49 33 = some (.ior, 1, 0, 0, 0) := rfl
theorem r49_33 : Rn 49 (33, [x0, x1, x2], .int j :: .int i :: st, a, h) = Rn 49 (34, [x0, x1, x2], .int (i ||| j) :: st, a, h) := Rn_go c49_33 rfl
theorem c49_34 : mcode 49 34 = some (.istore_n 1, 1, 0, 0, 0) := rfl
theorem r49_34 : Rn 49 (34, [x0, x1, x2], .int i :: st, a, h) = Nl x0 (Rn 49 (35, [x0, some (.int i), x2], st, a, h)) := Rn_st1 (k := 1) (v := .int i) x0 c49_34 rfl rfl rfl rfl
theorem c49_35 : mcode 49 35 = some (.iinc 2 1, 3, 0, 0, 0) := rfl
theorem r49_35 : Rn 49 (35, [x0, x1, some (.int i)], st, a, h) = Nl x1 (Rn 49 (38, [x0, x1, some (.int (i + (1 : Int32)))], st, a, h)) := Rn_st1 (k := 2) (v := .int (i + (1 : Int32))) x1 c49_35 rfl rfl rfl rfl
theorem c49_38 : mcode 49 38 = some (.goto (-34), 3, 0, 0, 0) := rfl
theorem r49_38 : Rn 49 (38, [x0, x1, x2], st, a, h) = Rn 49 (4, [x0, x1, x2], st, a, h) := Rn_goto c49_38 rfl
theorem c49_41 : mcode 49 41 = some (.iload_n 1, 1, 0, 0, 0) := rfl
theorem r49_41 : Rn 49 (41, [x0, some (.int i), x2], st, a, h) = Rn 49 (42, [x0, some (.int i), x2], .int i :: st, a, h) := Rn_go c49_41 rfl
theorem c49_42 : mcode 49 42 = some (.ireturn, 1, 0, 0, 0) := rfl
theorem r49_42 : Rn 49 (42, [x0, x1, x2], [.int i], a, h) = some (some (.int i), a, h) := Rn_ireti c49_42
theorem c50_0 : mcode 50 0 = some (.iconst 0, 1, 0, 0, 0) := rfl
theorem r50_0 : Rn 50 (0, [x0, x1, x2, x3], st, a, h) = Rn 50 (1, [x0, x1, x2, x3], .int (0 : Int32) :: st, a, h) := Rn_go c50_0 rfl
theorem c50_1 : mcode 50 1 = some (.istore_n 2, 1, 0, 0, 0) := rfl
theorem r50_1 : Rn 50 (1, [x0, x1, x2, x3], .int i :: st, a, h) = Nl x1 (Rn 50 (2, [x0, x1, some (.int i), x3], st, a, h)) := Rn_st1 (k := 2) (v := .int i) x1 c50_1 rfl rfl rfl rfl
theorem c50_2 : mcode 50 2 = some (.iconst 0, 1, 0, 0, 0) := rfl
theorem r50_2 : Rn 50 (2, [x0, x1, x2, x3], st, a, h) = Rn 50 (3, [x0, x1, x2, x3], .int (0 : Int32) :: st, a, h) := Rn_go c50_2 rfl
theorem c50_3 : mcode 50 3 = some (.istore_n 3, 1, 0, 0, 0) := rfl
theorem r50_3 : Rn 50 (3, [x0, x1, x2, x3], .int i :: st, a, h) = Nl x2 (Rn 50 (4, [x0, x1, x2, some (.int i)], st, a, h)) := Rn_st1 (k := 3) (v := .int i) x2 c50_3 rfl rfl rfl rfl
theorem c50_4 : mcode 50 4 = some (.iload_n 3, 1, 0, 0, 0) := rfl
theorem r50_4 : Rn 50 (4, [x0, x1, x2, some (.int i)], st, a, h) = Rn 50 (5, [x0, x1, x2, some (.int i)], .int i :: st, a, h) := Rn_go c50_4 rfl
theorem c50_5 : mcode 50 5 = some (.aload_n 0, 1, 0, 0, 0) := rfl
theorem r50_5 : Rn 50 (5, [some (.ref q), x1, x2, x3], st, a, h) = Rn 50 (6, [some (.ref q), x1, x2, x3], .ref q :: st, a, h) := Rn_go c50_5 rfl
theorem c50_6 : mcode 50 6 = some (.getfield 24, 3, 4, 3, 0) := rfl
theorem r50_6 : Rn 50 (6, [x0, x1, x2, x3], .ref q :: st, a, h) = Kv 50 9 [x0, x1, x2, x3] st a h (mgf h q 4 3) := Rn_getf c50_6 rfl
theorem c50_9 : mcode 50 9 = some (.if_icmp .ge 27, 3, 0, 0, 0) := rfl
theorem r50_9 : Rn 50 (9, [x0, x1, x2, x3], .int j :: .int i :: st, a, h) = if i < j then Rn 50 (12, [x0, x1, x2, x3], st, a, h) else Rn 50 (36, [x0, x1, x2, x3], st, a, h) := Rn_icmpn c50_9 mc_ge rfl rfl
theorem c50_12 : mcode 50 12 = some (.iload_n 3, 1, 0, 0, 0) := rfl
theorem r50_12 : Rn 50 (12, [x0, x1, x2, some (.int i)], st, a, h) = Rn 50 (13, [x0, x1, x2, some (.int i)], .int i :: st, a, h) := Rn_go c50_12 rfl
theorem c50_13 : mcode 50 13 = some (.aload_n 0, 1, 0, 0, 0) := rfl
theorem r50_13 : Rn 50 (13, [some (.ref q), x1, x2, x3], st, a, h) = Rn 50 (14, [some (.ref q), x1, x2, x3], .ref q :: st, a, h) := Rn_go c50_13 rfl
theorem c50_14 : mcode 50 14 = some (.getfield 17, 3, 4, 1, 0) := rfl
theorem r50_14 : Rn 50 (14, [x0, x1, x2, x3], .ref q :: st, a, h) = Kv 50 17 [x0, x1, x2, x3] st a h (mgf h q 4 1) := Rn_getf c50_14 rfl
theorem c50_17 : mcode 50 17 = some (.arraylength, 1, 0, 0, 0) := rfl
theorem r50_17 : Rn 50 (17, [x0, x1, x2, x3], .ref q :: st, a, h) = Ki 50 18 [x0, x1, x2, x3] st a h (mlen h q) := Rn_alen c50_17 rfl
theorem c50_18 : mcode 50 18 = some (.if_icmp .ge 18, 3, 0, 0, 0) := rfl
theorem r50_18 : Rn 50 (18, [x0, x1, x2, x3], .int j :: .int i :: st, a, h) = if i < j then Rn 50 (21, [x0, x1, x2, x3], st, a, h) else Rn 50 (36, [x0, x1, x2, x3], st, a, h) := Rn_icmpn c50_18 mc_ge rfl rfl
theorem c50_21 : mcode 50 21 = some (.iload_n 2, 1, 0, 0, 0) := rfl
theorem r50_21 : Rn 50 (21, [x0, x1, some (.int i), x3], st, a, h) = Rn 50 (22, [x0, x1, some (.int i), x3], .int i :: st, a, h) := Rn_go c50_21 rfl
theorem c50_22 : mcode 50 22 = some (.aload_n 0, 1, 0, 0, 0) := rfl
theorem r50_22 : Rn 50 (22, [some (.ref q), x1, x2, x3], st, a, h) = Rn 50 (23, [some (.ref q), x1, x2, x3], .ref q :: st, a, h) := Rn_go c50_22 rfl
theorem c50_23 : mcode 50 23 = some (.iload_n 3, 1, 0, 0, 0) := rfl
theorem r50_23 : Rn 50 (23, [x0, x1, x2, some (.int i)], st, a, h) = Rn 50 (24, [x0, x1, x2, some (.int i)], .int i :: st, a, h) := Rn_go c50_23 rfl
theorem c50_24 : mcode 50 24 = some (.iload_n 1, 1, 0, 0, 0) := rfl
theorem r50_24 : Rn 50 (24, [x0, some (.int i), x2, x3], st, a, h) = Rn 50 (25, [x0, some (.int i), x2, x3], .int i :: st, a, h) := Rn_go c50_24 rfl
theorem c50_25 : mcode 50 25 = some (.invokevirtual 108, 3, 39, 2, 4) := rfl
theorem r50_25 : Rn 50 (25, [x0, x1, x2, x3], [v1, v0, .ref q, .int i0], a, h) = if mis h q 4 = true then Bk 50 28 [x0, x1, x2, x3] [.int i0] (Ec 39 [.ref q, v0, v1] a h) else none := Rn_call1 c50_25 rfl (Nat.le_of_ble_eq_true rfl) rfl rfl (Nat.le_of_ble_eq_true rfl)
theorem c50_28 : mcode 50 28 = some (.iadd, 1, 0, 0, 0) := rfl
theorem r50_28 : Rn 50 (28, [x0, x1, x2, x3], .int j :: .int i :: st, a, h) = Rn 50 (29, [x0, x1, x2, x3], .int (i + j) :: st, a, h) := Rn_go c50_28 rfl
theorem c50_29 : mcode 50 29 = some (.istore_n 2, 1, 0, 0, 0) := rfl
theorem r50_29 : Rn 50 (29, [x0, x1, x2, x3], .int i :: st, a, h) = Nl x1 (Rn 50 (30, [x0, x1, some (.int i), x3], st, a, h)) := Rn_st1 (k := 2) (v := .int i) x1 c50_29 rfl rfl rfl rfl
theorem c50_30 : mcode 50 30 = some (.iinc 3 1, 3, 0, 0, 0) := rfl
theorem r50_30 : Rn 50 (30, [x0, x1, x2, some (.int i)], st, a, h) = Nl x2 (Rn 50 (33, [x0, x1, x2, some (.int (i + (1 : Int32)))], st, a, h)) := Rn_st1 (k := 3) (v := .int (i + (1 : Int32))) x2 c50_30 rfl rfl rfl rfl
theorem c50_33 : mcode 50 33 = some (.goto (-29), 3, 0, 0, 0) := rfl
theorem r50_33 : Rn 50 (33, [x0, x1, x2, x3], st, a, h) = Rn 50 (4, [x0, x1, x2, x3], st, a, h) := Rn_goto c50_33 rfl
theorem c50_36 : mcode 50 36 = some (.iload_n 2, 1, 0, 0, 0) := rfl
theorem r50_36 : Rn 50 (36, [x0, x1, some (.int i), x3], st, a, h) = Rn 50 (37, [x0, x1, some (.int i), x3], .int i :: st, a, h) := Rn_go c50_36 rfl
theorem c50_37 : mcode 50 37 = some (.ireturn, 1, 0, 0, 0) := rfl
theorem r50_37 : Rn 50 (37, [x0, x1, x2, x3], [.int i], a, h) = some (some (.int i), a, h) := Rn_ireti c50_37
theorem c51_0 : mcode 51 0 = some (.aload_n 0, 1, 0, 0, 0) := rfl
theorem r51_0 : Rn 51 (0, [some (.ref q), x1, x2, x3], st, a, h) = Rn 51 (1, [some (.ref q), x1, x2, x3], .ref q :: st, a, h) := Rn_go c51_0 rfl
theorem c51_1 : mcode 51 1 = some (.iload_n 1, 1, 0, 0, 0) := rfl
theorem r51_1 : Rn 51 (1, [x0, some (.int i), x2, x3], st, a, h) = Rn 51 (2, [x0, some (.int i), x2, x3], .int i :: st, a, h) := Rn_go c51_1 rfl
theorem c51_2 : mcode 51 2 = some (.iload_n 3, 1, 0, 0, 0) := rfl
theorem r51_2 : Rn 51 (2, [x0, x1, x2, some (.int i)], st, a, h) = Rn 51 (3, [x0, x1, x2, some (.int i)], .int i :: st, a, h) := Rn_go c51_2 rfl
theorem c51_3 : mcode 51 3 = some (.invokevirtual 108, 3, 39, 2, 4) := rfl
theorem r51_3 : Rn 51 (3, [x0, x1, x2, x3], [v1, v0, .ref q], a, h) = if mis h q 4 = true then Bk 51 6 [x0, x1, x2, x3] [] (Ec 39 [.ref q, v0, v1] a h) else none := Rn_call1 c51_3 rfl (Nat.le_of_ble_eq_true rfl) rfl rfl (Nat.le_of_ble_eq_true rfl)
theorem c51_6 : mcode 51 6 = some (.aload_n 0, 1, 0, 0, 0) := rfl
theorem r51_6 : Rn 51 (6, [some (.ref q), x1, x2, x3], st, a, h) = Rn 51 (7, [some (.ref q), x1, x2, x3], .ref q :: st, a, h) := Rn_go c51_6 rfl
theorem c51_7 : mcode 51 7 = some (.iload_n 2, 1, 0, 0, 0) := rfl
theorem r51_7 : Rn 51 (7, [x0, x1, some (.int i), x3], st, a, h) = Rn 51 (8, [x0, x1, some (.int i), x3], .int i :: st, a, h) := Rn_go c51_7 rfl
theorem c51_8 : mcode 51 8 = some (.iload_n 3, 1, 0, 0, 0) := rfl
theorem r51_8 : Rn 51 (8, [x0, x1, x2, some (.int i)], st, a, h) = Rn 51 (9, [x0, x1, x2, some (.int i)], .int i :: st, a, h) := Rn_go c51_8 rfl
theorem c51_9 : mcode 51 9 = some (.invokevirtual 108, 3, 39, 2, 4) := rfl
theorem r51_9 : Rn 51 (9, [x0, x1, x2, x3], [v1, v0, .ref q, .int i0], a, h) = if mis h q 4 = true then Bk 51 12 [x0, x1, x2, x3] [.int i0] (Ec 39 [.ref q, v0, v1] a h) else none := Rn_call1 c51_9 rfl (Nat.le_of_ble_eq_true rfl) rfl rfl (Nat.le_of_ble_eq_true rfl)
theorem c51_12 : mcode 51 12 = some (.if_icmp .ne 7, 3, 0, 0, 0) := rfl
theorem r51_12 : Rn 51 (12, [x0, x1, x2, x3], .int j :: .int i :: st, a, h) = if i = j then Rn 51 (15, [x0, x1, x2, x3], st, a, h) else Rn 51 (19, [x0, x1, x2, x3], st, a, h) := Rn_icmpn c51_12 mc_ne rfl rfl
theorem c51_15 : mcode 51 15 = some (.iconst 1, 1, 0, 0, 0) := rfl
theorem r51_15 : Rn 51 (15, [x0, x1, x2, x3], st, a, h) = Rn 51 (16, [x0, x1, x2, x3], .int (1 : Int32) :: st, a, h) := Rn_go c51_15 rfl
theorem c51_16 : mcode 51 16 = some (.goto 4, 3, 0, 0, 0) := rfl
theorem r51_16 : Rn 51 (16, [x0, x1, x2, x3], st, a, h) = Rn 51 (20, [x0, x1, x2, x3], st, a, h) := Rn_goto c51_16 rfl
theorem c51_19 : mcode 51 19 = some (.iconst 0, 1, 0, 0, 0) := rfl
theorem r51_19 : Rn 51 (19, [x0, x1, x2, x3], st, a, h) = Rn 51 (20, [x0, x1, x2, x3], .int (0 : Int32) :: st, a, h) := Rn_go c51_19 rfl
theorem c51_20 : mcode 51 20 = some (.ireturn, 1, 1, 0, 0) := rfl
theorem r51_20 : Rn 51 (20, [x0, x1, x2, x3], [.int i], a, h) = if mrt 1 i = true then some (some (.int i), a, h) else none := Rn_iretz c51_20
theorem c52_0 : mcode 52 0 = some (.iconst 0, 1, 0, 0, 0) := rfl
theorem r52_0 : Rn 52 (0, [x0, x1, x2, x3, x4], st, a, h) = Rn 52 (1, [x0, x1, x2, x3, x4], .int (0 : Int32) :: st, a, h) := Rn_go c52_0 rfl
theorem c52_1 : mcode 52 1 = some (.istore_n 3, 1, 0, 0, 0) := rfl
theorem r52_1 : Rn 52 (1, [x0, x1, x2, x3, x4], .int i :: st, a, h) = Nl x2 (Rn 52 (2, [x0, x1, x2, some (.int i), x4], st, a, h)) := Rn_st1 (k := 3) (v := .int i) x2 c52_1 rfl rfl rfl rfl
theorem c52_2 : mcode 52 2 = some (.iload_n 3, 1, 0, 0, 0) := rfl
theorem r52_2 : Rn 52 (2, [x0, x1, x2, some (.int i), x4], st, a, h) = Rn 52 (3, [x0, x1, x2, some (.int i), x4], .int i :: st, a, h) := Rn_go c52_2 rfl
theorem c52_3 : mcode 52 3 = some (.iconst 3, 1, 0, 0, 0) := rfl
theorem r52_3 : Rn 52 (3, [x0, x1, x2, x3, x4], st, a, h) = Rn 52 (4, [x0, x1, x2, x3, x4], .int (3 : Int32) :: st, a, h) := Rn_go c52_3 rfl
theorem c52_4 : mcode 52 4 = some (.if_icmp .ge 37, 3, 0, 0, 0) := rfl
theorem r52_4 : Rn 52 (4, [x0, x1, x2, x3, x4], .int j :: .int i :: st, a, h) = if i < j then Rn 52 (7, [x0, x1, x2, x3, x4], st, a, h) else Rn 52 (41, [x0, x1, x2, x3, x4], st, a, h) := Rn_icmpn c52_4 mc_ge rfl rfl
theorem c52_7 : mcode 52 7 = some (.aload_n 0, 1, 0, 0, 0) := rfl
theorem r52_7 : Rn 52 (7, [some (.ref q), x1, x2, x3, x4], st, a, h) = Rn 52 (8, [some (.ref q), x1, x2, x3, x4], .ref q :: st, a, h) := Rn_go c52_7 rfl
theorem c52_8 : mcode 52 8 = some (.iload_n 1, 1, 0, 0, 0) := rfl
theorem r52_8 : Rn 52 (8, [x0, some (.int i), x2, x3, x4], st, a, h) = Rn 52 (9, [x0, some (.int i), x2, x3, x4], .int i :: st, a, h) := Rn_go c52_8 rfl
theorem c52_9 : mcode 52 9 = some (.iload_n 3, 1, 0, 0, 0) := rfl
theorem r52_9 : Rn 52 (9, [x0, x1, x2, some (.int i), x4], st, a, h) = Rn 52 (10, [x0, x1, x2, some (.int i), x4], .int i :: st, a, h) := Rn_go c52_9 rfl
theorem c52_10 : mcode 52 10 = some (.invokevirtual 99, 3, 41, 2, 4) := rfl
theorem r52_10 : Rn 52 (10, [x0, x1, x2, x3, x4], [v1, v0, .ref q], a, h) = if mis h q 4 = true then Bk 52 13 [x0, x1, x2, x3, x4] [] (Ec 41 [.ref q, v0, v1] a h) else none := Rn_call1 c52_10 rfl (Nat.le_of_ble_eq_true rfl) rfl rfl (Nat.le_of_ble_eq_true rfl)
theorem c52_13 : mcode 52 13 = some (.istore 4, 2, 0, 0, 0) := rfl
theorem r52_13 : Rn 52 (13, [x0, x1, x2, x3, x4], .int i :: st, a, h) = Nl x3 (Rn 52 (15, [x0, x1, x2, x3, some (.int i)], st, a, h)) := Rn_st1 (k := 4) (v := .int i) x3 c52_13 rfl rfl rfl rfl
theorem c52_15 : mcode 52 15 = some (.aload_n 0, 1, 0, 0, 0) := rfl
theorem r52_15 : Rn 52 (15, [some (.ref q), x1, x2, x3, x4], st, a, h) = Rn 52 (16, [some (.ref q), x1, x2, x3, x4], .ref q :: st, a, h) := Rn_go c52_15 rfl
theorem c52_16 : mcode 52 16 = some (.iload_n 1, 1, 0, 0, 0) := rfl
theorem r52_16 : Rn 52 (16, [x0, some (.int i), x2, x3, x4], st, a, h) = Rn 52 (17, [x0, some (.int i), x2, x3, x4], .int i :: st, a, h) := Rn_go c52_16 rfl
theorem c52_17 : mcode 52 17 = some (.iload_n 3, 1, 0, 0, 0) := rfl
theorem r52_17 : Rn 52 (17, [x0, x1, x2, some (.int i), x4], st, a, h) = Rn 52 (18, [x0, x1, x2, some (.int i), x4], .int i :: st, a, h) := Rn_go c52_17 rfl
theorem c52_18 : mcode 52 18 = some (.aload_n 0, 1, 0, 0, 0) := rfl
theorem r52_18 : Rn 52 (18, [some (.ref q), x1, x2, x3, x4], st, a, h) = Rn 52 (19, [some (.ref q), x1, x2, x3, x4], .ref q :: st, a, h) := Rn_go c52_18 rfl
theorem c52_19 : mcode 52 19 = some (.iload_n 2, 1, 0, 0, 0) := rfl
theorem r52_19 : Rn 52 (19, [x0, x1, some (.int i), x3, x4], st, a, h) = Rn 52 (20, [x0, x1, some (.int i), x3, x4], .int i :: st, a, h) := Rn_go c52_19 rfl
theorem c52_20 : mcode 52 20 = some (.iload_n 3, 1, 0, 0, 0) := rfl
theorem r52_20 : Rn 52 (20, [x0, x1, x2, some (.int i), x4], st, a, h) = Rn 52 (21, [x0, x1, x2, some (.int i), x4], .int i :: st, a, h) := Rn_go c52_20 rfl
theorem c52_21 : mcode 52 21 = some (.invokevirtual 99, 3, 41, 2, 4) := rfl
theorem r52_21 : Rn 52 (21, [x0, x1, x2, x3, x4], [v1, v0, .ref q, .int i0, .int i1, .ref q2], a, h) = if mis h q 4 = true then Bk 52 24 [x0, x1, x2, x3, x4] [.int i0, .int i1, .ref q2] (Ec 41 [.ref q, v0, v1] a h) else none := Rn_call1 c52_21 rfl (Nat.le_of_ble_eq_true rfl) rfl rfl (Nat.le_of_ble_eq_true rfl)
theorem c52_24 : mcode 52 24 = some (.invokevirtual 111, 3, 42, 3, 4) := rfl
theorem r52_24 : Rn 52 (24, [x0, x1, x2, x3, x4], [v2, v1, v0, .ref q], a, h) = if mis h q 4 = true then Bk 52 27 [x0, x1, x2, x3, x4] [] (Ec 42 [.ref q, v0, v1, v2] a h) else none := Rn_call1 c52_24 rfl (Nat.le_of_ble_eq_true rfl) rfl rfl (Nat.le_of_ble_eq_true rfl)
theorem c52_27 : mcode 52 27 = some (.aload_n 0, 1, 0, 0, 0) := rfl
theorem r52_27 : Rn 52 (27, [some (.ref q), x1, x2, x3, x4], st, a, h) = Rn 52 (28, [some (.ref q), x1, x2, x3, x4], .ref q :: st, a, h) := Rn_go c52_27 rfl
theorem c52_28 : mcode 52 28 = some (.iload_n 2, 1, 0, 0, 0) := rfl
theorem r52_28 : Rn 52 (28, [x0, x1, some (.int i), x3, x4], st, a, h) = Rn 52 (29, [x0, x1, some (.int i), x3, x4], .int i :: st, a, h) := Rn_go c52_28 rfl
theorem c52_29 : mcode 52 29 = some (.iload_n 3, 1, 0, 0, 0) := rfl
theorem r52_29 : Rn 52 (29, [x0, x1, x2, some (.int i), x4], st, a, h) = Rn 52 (30, [x0, x1, x2, some (.int i), x4], .int i :: st, a, h) := Rn_go c52_29 rfl
theorem c52_30 : mcode 52 30 = some (.iload 4, 2, 0, 0, 0) := rfl
theorem r52_30 : Rn 52 (30, [x0, x1, x2, x3, some (.int i)], st, a, h) = Rn 52 (32, [x0, x1, x2, x3, some (.int i)], .int i :: st, a, h) := Rn_go c52_30 rfl
theorem c52_32 : mcode 52 32 = some (.invokevirtual 111, 3, 42, 3, 4) := rfl
theorem r52_32 : Rn 52 (32, [x0, x1, x2, x3, x4], [v2, v1, v0, .ref q], a, h) = if mis h q 4 = true then Bk 52 35 [x0, x1, x2, x3, x4] [] (Ec 42 [.ref q, v0, v1, v2] a h) else none := Rn_call1 c52_32 rfl (Nat.le_of_ble_eq_true rfl) rfl rfl (Nat.le_of_ble_eq_true rfl)
theorem c52_35 : mcode 52 35 = some (.iinc 3 1, 3, 0, 0, 0) := rfl
theorem r52_35 : Rn 52 (35, [x0, x1, x2, some (.int i), x4], st, a, h) = Nl x2 (Rn 52 (38, [x0, x1, x2, some (.int (i + (1 : Int32))), x4], st, a, h)) := Rn_st1 (k := 3) (v := .int (i + (1 : Int32))) x2 c52_35 rfl rfl rfl rfl
theorem c52_38 : mcode 52 38 = some (.goto (-36), 3, 0, 0, 0) := rfl
theorem r52_38 : Rn 52 (38, [x0, x1, x2, x3, x4], st, a, h) = Rn 52 (2, [x0, x1, x2, x3, x4], st, a, h) := Rn_goto c52_38 rfl
theorem c52_41 : mcode 52 41 = some (.iconst 0, 1, 0, 0, 0) := rfl
theorem r52_41 : Rn 52 (41, [x0, x1, x2, x3, x4], st, a, h) = Rn 52 (42, [x0, x1, x2, x3, x4], .int (0 : Int32) :: st, a, h) := Rn_go c52_41 rfl
theorem c52_42 : mcode 52 42 = some (.istore_n 3, 1, 0, 0, 0) := rfl
theorem r52_42 : Rn 52 (42, [x0, x1, x2, x3, x4], .int i :: st, a, h) = Nl x2 (Rn 52 (43, [x0, x1, x2, some (.int i), x4], st, a, h)) := Rn_st1 (k := 3) (v := .int i) x2 c52_42 rfl rfl rfl rfl
theorem c52_43 : mcode 52 43 = some (.iload_n 3, 1, 0, 0, 0) := rfl
theorem r52_43 : Rn 52 (43, [x0, x1, x2, some (.int i), x4], st, a, h) = Rn 52 (44, [x0, x1, x2, some (.int i), x4], .int i :: st, a, h) := Rn_go c52_43 rfl
theorem c52_44 : mcode 52 44 = some (.aload_n 0, 1, 0, 0, 0) := rfl
theorem r52_44 : Rn 52 (44, [some (.ref q), x1, x2, x3, x4], st, a, h) = Rn 52 (45, [some (.ref q), x1, x2, x3, x4], .ref q :: st, a, h) := Rn_go c52_44 rfl
theorem c52_45 : mcode 52 45 = some (.getfield 24, 3, 4, 3, 0) := rfl
theorem r52_45 : Rn 52 (45, [x0, x1, x2, x3, x4], .ref q :: st, a, h) = Kv 52 48 [x0, x1, x2, x3, x4] st a h (mgf h q 4 3) := Rn_getf c52_45 rfl
theorem c52_48 : mcode 52 48 = some (.if_icmp .ge 67, 3, 0, 0, 0) := rfl
theorem r52_48 : Rn 52 (48, [x0, x1, x2, x3, x4], .int j :: .int i :: st, a, h) = if i < j then Rn 52 (51, [x0, x1, x2, x3, x4], st, a, h) else Rn 52 (115, [x0, x1, x2, x3, x4], st, a, h) := Rn_icmpn c52_48 mc_ge rfl rfl
theorem c52_51 : mcode 52 51 = some (.iload_n 3, 1, 0, 0, 0) := rfl
theorem r52_51 : Rn 52 (51, [x0, x1, x2, some (.int i), x4], st, a, h) = Rn 52 (52, [x0, x1, x2, some (.int i), x4], .int i :: st, a, h) := Rn_go c52_51 rfl
theorem c52_52 : mcode 52 52 = some (.aload_n 0, 1, 0, 0, 0) := rfl
theorem r52_52 : Rn 52 (52, [some (.ref q), x1, x2, x3, x4], st, a, h) = Rn 52 (53, [some (.ref q), x1, x2, x3, x4], .ref q :: st, a, h) := Rn_go c52_52 rfl
theorem c52_53 : mcode 52 53 = some (.getfield 17, 3, 4, 1, 0) := rfl
theorem r52_53 : Rn 52 (53, [x0, x1, x2, x3, x4], .ref q :: st, a, h) = Kv 52 56 [x0, x1, x2, x3, x4] st a h (mgf h q 4 1) := Rn_getf c52_53 rfl
theorem c52_56 : mcode 52 56 = some (.arraylength, 1, 0, 0, 0) := rfl
theorem r52_56 : Rn 52 (56, [x0, x1, x2, x3, x4], .ref q :: st, a, h) = Ki 52 57 [x0, x1, x2, x3, x4] st a h (mlen h q) := Rn_alen c52_56 rfl
theorem c52_57 : mcode 52 57 = some (.if_icmp .ge 58, 3, 0, 0, 0) := rfl
theorem r52_57 : Rn 52 (57, [x0, x1, x2, x3, x4], .int j :: .int i :: st, a, h) = if i < j then Rn 52 (60, [x0, x1, x2, x3, x4], st, a, h) else Rn 52 (115, [x0, x1, x2, x3, x4], st, a, h) := Rn_icmpn c52_57 mc_ge rfl rfl
theorem c52_60 : mcode 52 60 = some (.aload_n 0, 1, 0, 0, 0) := rfl
theorem r52_60 : Rn 52 (60, [some (.ref q), x1, x2, x3, x4], st, a, h) = Rn 52 (61, [some (.ref q), x1, x2, x3, x4], .ref q :: st, a, h) := Rn_go c52_60 rfl
theorem c52_61 : mcode 52 61 = some (.getfield 17, 3, 4, 1, 0) := rfl
theorem r52_61 : Rn 52 (61, [x0, x1, x2, x3, x4], .ref q :: st, a, h) = Kv 52 64 [x0, x1, x2, x3, x4] st a h (mgf h q 4 1) := Rn_getf c52_61 rfl
theorem c52_64 : mcode 52 64 = some (.iload_n 3, 1, 0, 0, 0) := rfl
theorem r52_64 : Rn 52 (64, [x0, x1, x2, some (.int i), x4], st, a, h) = Rn 52 (65, [x0, x1, x2, some (.int i), x4], .int i :: st, a, h) := Rn_go c52_64 rfl
theorem c52_65 : mcode 52 65 = some (.aaload, 1, 0, 0, 0) := rfl
theorem r52_65 : Rn 52 (65, [x0, x1, x2, x3, x4], .int i :: .ref q :: st, a, h) = Kv 52 66 [x0, x1, x2, x3, x4] st a h (mald h q i) := Rn_aald c52_65 rfl
theorem c52_66 : mcode 52 66 = some (.getfield 62, 3, 3, 1, 0) := rfl
theorem r52_66 : Rn 52 (66, [x0, x1, x2, x3, x4], .ref q :: st, a, h) = Kv 52 69 [x0, x1, x2, x3, x4] st a h (mgf h q 3 1) := Rn_getf c52_66 rfl
theorem c52_69 : mcode 52 69 = some (.iload_n 1, 1, 0, 0, 0) := rfl
theorem r52_69 : Rn 52 (69, [x0, some (.int i), x2, x3, x4], st, a, h) = Rn 52 (70, [x0, some (.int i), x2, x3, x4], .int i :: st, a, h) := Rn_go c52_69 rfl
theorem c52_70 : mcode 52 70 = some (.if_icmp .ne 16, 3, 0, 0, 0) := rfl
theorem r52_70 : Rn 52 (70, [x0, x1, x2, x3, x4], .int j :: .int i :: st, a, h) = if i = j then Rn 52 (73, [x0, x1, x2, x3, x4], st, a, h) else Rn 52 (86, [x0, x1, x2, x3, x4], st, a, h) := Rn_icmpn c52_70 mc_ne rfl rfl
theorem c52_73 : mcode 52 73 = some (.aload_n 0, 1, 0, 0, 0) := rfl
theorem r52_73 : Rn 52 (73, [some (.ref q), x1, x2, x3, x4], st, a, h) = Rn 52 (74, [some (.ref q), x1, x2, x3, x4], .ref q :: st, a, h) := Rn_go c52_73 rfl
theorem c52_74 : mcode 52 74 = some (.getfield 17, 3, 4, 1, 0) := rfl
theorem r52_74 : Rn 52 (74, [x0, x1, x2, x3, x4], .ref q :: st, a, h) = Kv 52 77 [x0, x1, x2, x3, x4] st a h (mgf h q 4 1) := Rn_getf c52_74 rfl
theorem c52_77 : mcode 52 77 = some (.iload_n 3, 1, 0, 0, 0) := rfl
theorem r52_77 : Rn 52 (77, [x0, x1, x2, some (.int i), x4], st, a, h) = Rn 52 (78, [x0, x1, x2, some (.int i), x4], .int i :: st, a, h) := Rn_go c52_77 rfl
theorem c52_78 : mcode 52 78 = some (.aaload, 1, 0, 0, 0) := rfl
theorem r52_78 : Rn 52 (78, [x0, x1, x2, x3, x4], .int i :: .ref q :: st, a, h) = Kv 52 79 [x0, x1, x2, x3, x4] st a h (mald h q i) := Rn_aald c52_78 rfl
theorem c52_79 : mcode 52 79 = some (.iload_n 2, 1, 0, 0, 0) := rfl
theorem r52_79 : Rn 52 (79, [x0, x1, some (.int i), x3, x4], st, a, h) = Rn 52 (80, [x0, x1, some (.int i), x3, x4], .int i :: st, a, h) := Rn_go c52_79 rfl
theorem c52_80 : mcode 52 80 = some (.putfield 62, 3, 3, 1, 0) := rfl
theorem r52_80 : Rn 52 (80, [x0, x1, x2, x3, x4], .int i :: .ref q :: st, a, h) = Kh 52 83 [x0, x1, x2, x3, x4] st a (mpf h q 3 1 (.int i)) := Rn_putfi c52_80 rfl rfl
theorem c52_83 : mcode 52 83 = some (.goto 26, 3, 0, 0, 0) := rfl
theorem r52_83 : Rn 52 (83, [x0, x1, x2, x3, x4], st, a, h) = Rn 52 (109, [x0, x1, x2, x3, x4], st, a, h) := Rn_goto c52_83 rfl
theorem c52_86 : mcode 52 86 = some (.aload_n 0, 1, 0, 0, 0) := rfl
theorem r52_86 : Rn 52 (86, [some (.ref q), x1, x2, x3, x4], st, a, h) = Rn 52 (87, [some (.ref q), x1, x2, x3, x4], .ref q :: st, a, h) := Rn_go c52_86 rfl
theorem c52_87 : mcode 52 87 = some (.getfield 17, 3, 4, 1, 0) := rfl
theorem r52_87 : Rn 52 (87, [x0, x1, x2, x3, x4], .ref q :: st, a, h) = Kv 52 90 [x0, x1, x2, x3, x4] st a h (mgf h q 4 1) := Rn_getf c52_87 rfl
theorem c52_90 : mcode 52 90 = some (.iload_n 3, 1, 0, 0, 0) := rfl
theorem r52_90 : Rn 52 (90, [x0, x1, x2, some (.int i), x4], st, a, h) = Rn 52 (91, [x0, x1, x2, some (.int i), x4], .int i :: st, a, h) := Rn_go c52_90 rfl
theorem c52_91 : mcode 52 91 = some (.aaload, 1, 0, 0, 0) := rfl
theorem r52_91 : Rn 52 (91, [x0, x1, x2, x3, x4], .int i :: .ref q :: st, a, h) = Kv 52 92 [x0, x1, x2, x3, x4] st a h (mald h q i) := Rn_aald c52_91 rfl
theorem c52_92 : mcode 52 92 = some (.getfield 62, 3, 3, 1, 0) := rfl
theorem r52_92 : Rn 52 (92, [x0, x1, x2, x3, x4], .ref q :: st, a, h) = Kv 52 95 [x0, x1, x2, x3, x4] st a h (mgf h q 3 1) := Rn_getf c52_92 rfl
theorem c52_95 : mcode 52 95 = some (.iload_n 2, 1, 0, 0, 0) := rfl
theorem r52_95 : Rn 52 (95, [x0, x1, some (.int i), x3, x4], st, a, h) = Rn 52 (96, [x0, x1, some (.int i), x3, x4], .int i :: st, a, h) := Rn_go c52_95 rfl
theorem c52_96 : mcode 52 96 = some (.if_icmp .ne 13, 3, 0, 0, 0) := rfl
theorem r52_96 : Rn 52 (96, [x0, x1, x2, x3, x4], .int j :: .int i :: st, a, h) = if i = j then Rn 52 (99, [x0, x1, x2, x3, x4], st, a, h) else Rn 52 (109, [x0, x1, x2, x3, x4], st, a, h) := Rn_icmpn c52_96 mc_ne rfl rfl
theorem c52_99 : mcode 52 99 = some (.aload_n 0, 1, 0, 0, 0) := rfl
theorem r52_99 : Rn 52 (99, [some (.ref q), x1, x2, x3, x4], st, a, h) = Rn 52 (100, [some (.ref q), x1, x2, x3, x4], .ref q :: st, a, h) := Rn_go c52_99 rfl
theorem c52_100 : mcode 52 100 = some (.getfield 17, 3, 4, 1, 0) := rfl
theorem r52_100 : Rn 52 (100, [x0, x1, x2, x3, x4], .ref q :: st, a, h) = Kv 52 103 [x0, x1, x2, x3, x4] st a h (mgf h q 4 1) := Rn_getf c52_100 rfl
theorem c52_103 : mcode 52 103 = some (.iload_n 3, 1, 0, 0, 0) := rfl
theorem r52_103 : Rn 52 (103, [x0, x1, x2, some (.int i), x4], st, a, h) = Rn 52 (104, [x0, x1, x2, some (.int i), x4], .int i :: st, a, h) := Rn_go c52_103 rfl
theorem c52_104 : mcode 52 104 = some (.aaload, 1, 0, 0, 0) := rfl
theorem r52_104 : Rn 52 (104, [x0, x1, x2, x3, x4], .int i :: .ref q :: st, a, h) = Kv 52 105 [x0, x1, x2, x3, x4] st a h (mald h q i) := Rn_aald c52_104 rfl
theorem c52_105 : mcode 52 105 = some (.iload_n 1, 1, 0, 0, 0) := rfl
theorem r52_105 : Rn 52 (105, [x0, some (.int i), x2, x3, x4], st, a, h) = Rn 52 (106, [x0, some (.int i), x2, x3, x4], .int i :: st, a, h) := Rn_go c52_105 rfl
theorem c52_106 : mcode 52 106 = some (.putfield 62, 3, 3, 1, 0) := rfl
theorem r52_106 : Rn 52 (106, [x0, x1, x2, x3, x4], .int i :: .ref q :: st, a, h) = Kh 52 109 [x0, x1, x2, x3, x4] st a (mpf h q 3 1 (.int i)) := Rn_putfi c52_106 rfl rfl
theorem c52_109 : mcode 52 109 = some (.iinc 3 1, 3, 0, 0, 0) := rfl
theorem r52_109 : Rn 52 (109, [x0, x1, x2, some (.int i), x4], st, a, h) = Nl x2 (Rn 52 (112, [x0, x1, x2, some (.int (i + (1 : Int32))), x4], st, a, h)) := Rn_st1 (k := 3) (v := .int (i + (1 : Int32))) x2 c52_109 rfl rfl rfl rfl
theorem c52_112 : mcode 52 112 = some (.goto (-69), 3, 0, 0, 0) := rfl
theorem r52_112 : Rn 52 (112, [x0, x1, x2, x3, x4], st, a, h) = Rn 52 (43, [x0, x1, x2, x3, x4], st, a, h) := Rn_goto c52_112 rfl
theorem c52_115 : mcode 52 115 = some (.return_, 1, 0, 0, 0) := rfl
theorem r52_115 : Rn 52 (115, [x0, x1, x2, x3, x4], [], a, h) = some (none, a, h) := Rn_act c52_115
theorem c53_0 : mcode 53 0 = some (.iconst 0, 1, 0, 0, 0) := rfl
theorem r53_0 : Rn 53 (0, [x0, x1, x2], st, a, h) = Rn 53 (1, [x0, x1, x2], .int (0 : Int32) :: st, a, h) := Rn_go c53_0 rfl
theorem c53_1 : mcode 53 1 = some (.istore_n 2, 1, 0, 0, 0) := rfl
theorem r53_1 : Rn 53 (1, [x0, x1, x2], .int i :: st, a, h) = Nl x1 (Rn 53 (2, [x0, x1, some (.int i)], st, a, h)) := Rn_st1 (k := 2) (v := .int i) x1 c53_1 rfl rfl rfl rfl
theorem c53_2 : mcode 53 2 = some (.iload_n 2, 1, 0, 0, 0) := rfl
theorem r53_2 : Rn 53 (2, [x0, x1, some (.int i)], st, a, h) = Rn 53 (3, [x0, x1, some (.int i)], .int i :: st, a, h) := Rn_go c53_2 rfl
theorem c53_3 : mcode 53 3 = some (.iload_n 1, 1, 0, 0, 0) := rfl
theorem r53_3 : Rn 53 (3, [x0, some (.int i), x2], st, a, h) = Rn 53 (4, [x0, some (.int i), x2], .int i :: st, a, h) := Rn_go c53_3 rfl
theorem c53_4 : mcode 53 4 = some (.if_icmp .ge 40, 3, 0, 0, 0) := rfl
theorem r53_4 : Rn 53 (4, [x0, x1, x2], .int j :: .int i :: st, a, h) = if i < j then Rn 53 (7, [x0, x1, x2], st, a, h) else Rn 53 (44, [x0, x1, x2], st, a, h) := Rn_icmpn c53_4 mc_ge rfl rfl
theorem c53_7 : mcode 53 7 = some (.aload_n 0, 1, 0, 0, 0) := rfl
theorem r53_7 : Rn 53 (7, [some (.ref q), x1, x2], st, a, h) = Rn 53 (8, [some (.ref q), x1, x2], .ref q :: st, a, h) := Rn_go c53_7 rfl
theorem c53_8 : mcode 53 8 = some (.invokevirtual 115, 3, 54, 0, 4) := rfl
theorem r53_8 : Rn 53 (8, [x0, x1, x2], [.ref q], a, h) = if mis h q 4 = true then Bk 53 11 [x0, x1, x2] [] (Ec 54 [.ref q] a h) else none := Rn_call1 c53_8 rfl (Nat.le_of_ble_eq_true rfl) rfl rfl (Nat.le_of_ble_eq_true rfl)
theorem c53_11 : mcode 53 11 = some (.aload_n 0, 1, 0, 0, 0) := rfl
theorem r53_11 : Rn 53 (11, [some (.ref q), x1, x2], st, a, h) = Rn 53 (12, [some (.ref q), x1, x2], .ref q :: st, a, h) := Rn_go c53_11 rfl
theorem c53_12 : mcode 53 12 = some (.invokevirtual 118, 3, 55, 0, 4) := rfl
theorem r53_12 : Rn 53 (12, [x0, x1, x2], [.ref q], a, h) = if mis h q 4 = true then Bk 53 15 [x0, x1, x2] [] (Ec 55 [.ref q] a h) else none := Rn_call1 c53_12 rfl (Nat.le_of_ble_eq_true rfl) rfl rfl (Nat.le_of_ble_eq_true rfl)
theorem c53_15 : mcode 53 15 = some (.aload_n 0, 1, 0, 0, 0) := rfl
theorem r53_15 : Rn 53 (15, [some (.ref q), x1, x2], st, a, h) = Rn 53 (16, [some (.ref q), x1, x2], .ref q :: st, a, h) := Rn_go c53_15 rfl
theorem c53_16 : mcode 53 16 = some (.invokevirtual 121, 3, 56, 0, 4) := rfl
theorem r53_16 : Rn 53 (16, [x0, x1, x2], [.ref q], a, h) = if mis h q 4 = true then Bk 53 19 [x0, x1, x2] [] (Ec 56 [.ref q] a h) else none := Rn_call1 c53_16 rfl (Nat.le_of_ble_eq_true rfl) rfl rfl (Nat.le_of_ble_eq_true rfl)
theorem c53_19 : mcode 53 19 = some (.aload_n 0, 1, 0, 0, 0) := rfl
theorem r53_19 : Rn 53 (19, [some (.ref q), x1, x2], st, a, h) = Rn 53 (20, [some (.ref q), x1, x2], .ref q :: st, a, h) := Rn_go c53_19 rfl
theorem c53_20 : mcode 53 20 = some (.invokevirtual 124, 3, 57, 0, 4) := rfl
theorem r53_20 : Rn 53 (20, [x0, x1, x2], [.ref q], a, h) = if mis h q 4 = true then Bk 53 23 [x0, x1, x2] [] (Ec 57 [.ref q] a h) else none := Rn_call1 c53_20 rfl (Nat.le_of_ble_eq_true rfl) rfl rfl (Nat.le_of_ble_eq_true rfl)
theorem c53_23 : mcode 53 23 = some (.aload_n 0, 1, 0, 0, 0) := rfl
theorem r53_23 : Rn 53 (23, [some (.ref q), x1, x2], st, a, h) = Rn 53 (24, [some (.ref q), x1, x2], .ref q :: st, a, h) := Rn_go c53_23 rfl
theorem c53_24 : mcode 53 24 = some (.aload_n 0, 1, 0, 0, 0) := rfl
theorem r53_24 : Rn 53 (24, [some (.ref q), x1, x2], st, a, h) = Rn 53 (25, [some (.ref q), x1, x2], .ref q :: st, a, h) := Rn_go c53_24 rfl
theorem c53_25 : mcode 53 25 = some (.getfield 31, 3, 4, 5, 0) := rfl
theorem r53_25 : Rn 53 (25, [x0, x1, x2], .ref q :: st, a, h) = Kv 53 28 [x0, x1, x2] st a h (mgf h q 4 5) := Rn_getf c53_25 rfl
theorem c53_28 : mcode 53 28 = some (.iconst 1, 1, 0, 0, 0) := rfl
theorem r53_28 : Rn 53 (28, [x0, x1, x2], st, a, h) = Rn 53 (29, [x0, x1, x2], .int (1 : Int32) :: st, a, h) := Rn_go c53_28 rfl
theorem c53_29 : mcode 53 29 = some (.iadd, 1, 0, 0, 0) := rfl
theorem r53_29 : Rn 53 (29, [x0, x1, x2], .int j :: .int i :: st, a, h) = Rn 53 (30, [x0, x1, x2], .int (i + j) :: st, a, h) := Rn_go c53_29 rfl
theorem c53_30 : mcode 53 30 = some (.ldc 127, 2, 0, 0, 99999) := rfl
theorem r53_30 : Rn 53 (30, [x0, x1, x2], st, a, h) = Rn 53 (32, [x0, x1, x2], .int (99999 : Int32) :: st, a, h) := Rn_go c53_30 rfl
theorem c53_32 : mcode 53 32 = some (.invokestatic 93, 3, 228, 2, 0) := rfl
theorem r53_32 : Rn 53 (32, [x0, x1, x2], [v1, v0, .ref q0], a, h) = Bk 53 35 [x0, x1, x2] [.ref q0] (Ec 228 [v0, v1] a h) := Rn_call0 c53_32 (fun z => nomatch z) rfl (Nat.le_of_ble_eq_true rfl) rfl rfl (Nat.le_of_ble_eq_true rfl)
theorem c53_35 : mcode 53 35 = some (.putfield 31, 3, 4, 5, 0) := rfl
theorem r53_35 : Rn 53 (35, [x0, x1, x2], .int i :: .ref q :: st, a, h) = Kh 53 38 [x0, x1, x2] st a (mpf h q 4 5 (.int i)) := Rn_putfi c53_35 rfl rfl
theorem c53_38 : mcode 53 38 = some (.iinc 2 1, 3, 0, 0, 0) := rfl
theorem r53_38 : Rn 53 (38, [x0, x1, some (.int i)], st, a, h) = Nl x1 (Rn 53 (41, [x0, x1, some (.int (i + (1 : Int32)))], st, a, h)) := Rn_st1 (k := 2) (v := .int (i + (1 : Int32))) x1 c53_38 rfl rfl rfl rfl
theorem c53_41 : mcode 53 41 = some (.goto (-39), 3, 0, 0, 0) := rfl
theorem r53_41 : Rn 53 (41, [x0, x1, x2], st, a, h) = Rn 53 (2, [x0, x1, x2], st, a, h) := Rn_goto c53_41 rfl
theorem c53_44 : mcode 53 44 = some (.return_, 1, 0, 0, 0) := rfl
theorem r53_44 : Rn 53 (44, [x0, x1, x2], [], a, h) = some (none, a, h) := Rn_act c53_44
theorem c54_0 : mcode 54 0 = some (.iconst 0, 1, 0, 0, 0) := rfl
theorem r54_0 : Rn 54 (0, [x0, x1, x2, x3], st, a, h) = Rn 54 (1, [x0, x1, x2, x3], .int (0 : Int32) :: st, a, h) := Rn_go c54_0 rfl
theorem c54_1 : mcode 54 1 = some (.istore_n 1, 1, 0, 0, 0) := rfl
theorem r54_1 : Rn 54 (1, [x0, x1, x2, x3], .int i :: st, a, h) = Nl x0 (Rn 54 (2, [x0, some (.int i), x2, x3], st, a, h)) := Rn_st1 (k := 1) (v := .int i) x0 c54_1 rfl rfl rfl rfl
theorem c54_2 : mcode 54 2 = some (.iload_n 1, 1, 0, 0, 0) := rfl
theorem r54_2 : Rn 54 (2, [x0, some (.int i), x2, x3], st, a, h) = Rn 54 (3, [x0, some (.int i), x2, x3], .int i :: st, a, h) := Rn_go c54_2 rfl
theorem c54_3 : mcode 54 3 = some (.aload_n 0, 1, 0, 0, 0) := rfl
theorem r54_3 : Rn 54 (3, [some (.ref q), x1, x2, x3], st, a, h) = Rn 54 (4, [some (.ref q), x1, x2, x3], .ref q :: st, a, h) := Rn_go c54_3 rfl
theorem c54_4 : mcode 54 4 = some (.getfield 24, 3, 4, 3, 0) := rfl
theorem r54_4 : Rn 54 (4, [x0, x1, x2, x3], .ref q :: st, a, h) = Kv 54 7 [x0, x1, x2, x3] st a h (mgf h q 4 3) := Rn_getf c54_4 rfl
theorem c54_7 : mcode 54 7 = some (.if_icmp .ge 88, 3, 0, 0, 0) := rfl
theorem r54_7 : Rn 54 (7, [x0, x1, x2, x3], .int j :: .int i :: st, a, h) = if i < j then Rn 54 (10, [x0, x1, x2, x3], st, a, h) else Rn 54 (95, [x0, x1, x2, x3], st, a, h) := Rn_icmpn c54_7 mc_ge rfl rfl
theorem c54_10 : mcode 54 10 = some (.iload_n 1, 1, 0, 0, 0) := rfl
theorem r54_10 : Rn 54 (10, [x0, some (.int i), x2, x3], st, a, h) = Rn 54 (11, [x0, some (.int i), x2, x3], .int i :: st, a, h) := Rn_go c54_10 rfl
theorem c54_11 : mcode 54 11 = some (.aload_n 0, 1, 0, 0, 0) := rfl
theorem r54_11 : Rn 54 (11, [some (.ref q), x1, x2, x3], st, a, h) = Rn 54 (12, [some (.ref q), x1, x2, x3], .ref q :: st, a, h) := Rn_go c54_11 rfl
theorem c54_12 : mcode 54 12 = some (.getfield 17, 3, 4, 1, 0) := rfl
theorem r54_12 : Rn 54 (12, [x0, x1, x2, x3], .ref q :: st, a, h) = Kv 54 15 [x0, x1, x2, x3] st a h (mgf h q 4 1) := Rn_getf c54_12 rfl
theorem c54_15 : mcode 54 15 = some (.arraylength, 1, 0, 0, 0) := rfl
theorem r54_15 : Rn 54 (15, [x0, x1, x2, x3], .ref q :: st, a, h) = Ki 54 16 [x0, x1, x2, x3] st a h (mlen h q) := Rn_alen c54_15 rfl
theorem c54_16 : mcode 54 16 = some (.if_icmp .ge 79, 3, 0, 0, 0) := rfl
theorem r54_16 : Rn 54 (16, [x0, x1, x2, x3], .int j :: .int i :: st, a, h) = if i < j then Rn 54 (19, [x0, x1, x2, x3], st, a, h) else Rn 54 (95, [x0, x1, x2, x3], st, a, h) := Rn_icmpn c54_16 mc_ge rfl rfl
theorem c54_19 : mcode 54 19 = some (.aload_n 0, 1, 0, 0, 0) := rfl
theorem r54_19 : Rn 54 (19, [some (.ref q), x1, x2, x3], st, a, h) = Rn 54 (20, [some (.ref q), x1, x2, x3], .ref q :: st, a, h) := Rn_go c54_19 rfl
theorem c54_20 : mcode 54 20 = some (.getfield 37, 3, 4, 7, 0) := rfl
theorem r54_20 : Rn 54 (20, [x0, x1, x2, x3], .ref q :: st, a, h) = Kv 54 23 [x0, x1, x2, x3] st a h (mgf h q 4 7) := Rn_getf c54_20 rfl
theorem c54_23 : mcode 54 23 = some (.iload_n 1, 1, 0, 0, 0) := rfl
theorem r54_23 : Rn 54 (23, [x0, some (.int i), x2, x3], st, a, h) = Rn 54 (24, [x0, some (.int i), x2, x3], .int i :: st, a, h) := Rn_go c54_23 rfl
theorem c54_24 : mcode 54 24 = some (.ishr, 1, 0, 0, 0) := rfl
theorem r54_24 : Rn 54 (24, [x0, x1, x2, x3], .int j :: .int i :: st, a, h) = Rn 54 (25, [x0, x1, x2, x3], .int (i >>> (j &&& 31)) :: st, a, h) := Rn_go c54_24 rfl
theorem c54_25 : mcode 54 25 = some (.iconst 1, 1, 0, 0, 0) := rfl
theorem r54_25 : Rn 54 (25, [x0, x1, x2, x3], st, a, h) = Rn 54 (26, [x0, x1, x2, x3], .int (1 : Int32) :: st, a, h) := Rn_go c54_25 rfl
theorem c54_26 : mcode 54 26 = some (.iand, 1, 0, 0, 0) := rfl
theorem r54_26 : Rn 54 (26, [x0, x1, x2, x3], .int j :: .int i :: st, a, h) = Rn 54 (27, [x0, x1, x2, x3], .int (i &&& j) :: st, a, h) := Rn_go c54_26 rfl
theorem c54_27 : mcode 54 27 = some (.ifCond .ne 62, 3, 0, 0, 0) := rfl
theorem r54_27 : Rn 54 (27, [x0, x1, x2, x3], .int i :: st, a, h) = if i = 0 then Rn 54 (30, [x0, x1, x2, x3], st, a, h) else Rn 54 (89, [x0, x1, x2, x3], st, a, h) := Rn_ifcn c54_27 mc_ne rfl rfl
theorem c54_30 : mcode 54 30 = some (.aload_n 0, 1, 0, 0, 0) := rfl
theorem r54_30 : Rn 54 (30, [some (.ref q), x1, x2, x3], st, a, h) = Rn 54 (31, [some (.ref q), x1, x2, x3], .ref q :: st, a, h) := Rn_go c54_30 rfl
theorem c54_31 : mcode 54 31 = some (.getfield 17, 3, 4, 1, 0) := rfl
theorem r54_31 : Rn 54 (31, [x0, x1, x2, x3], .ref q :: st, a, h) = Kv 54 34 [x0, x1, x2, x3] st a h (mgf h q 4 1) := Rn_getf c54_31 rfl
theorem c54_34 : mcode 54 34 = some (.iload_n 1, 1, 0, 0, 0) := rfl
theorem r54_34 : Rn 54 (34, [x0, some (.int i), x2, x3], st, a, h) = Rn 54 (35, [x0, some (.int i), x2, x3], .int i :: st, a, h) := Rn_go c54_34 rfl
theorem c54_35 : mcode 54 35 = some (.aaload, 1, 0, 0, 0) := rfl
theorem r54_35 : Rn 54 (35, [x0, x1, x2, x3], .int i :: .ref q :: st, a, h) = Kv 54 36 [x0, x1, x2, x3] st a h (mald h q i) := Rn_aald c54_35 rfl
theorem c54_36 : mcode 54 36 = some (.astore_n 2, 1, 0, 0, 0) := rfl
theorem r54_36 : Rn 54 (36, [x0, x1, x2, x3], .ref q :: st, a, h) = Nl x1 (Rn 54 (37, [x0, x1, some (.ref q), x3], st, a, h)) := Rn_st1 (k := 2) (v := .ref q) x1 c54_36 rfl rfl rfl rfl
theorem c54_37 : mcode 54 37 = some (.aload_n 2, 1, 0, 0, 0) := rfl
theorem r54_37 : Rn 54 (37, [x0, x1, some (.ref q), x3], st, a, h) = Rn 54 (38, [x0, x1, some (.ref q), x3], .ref q :: st, a, h) := Rn_go c54_37 rfl
theorem c54_38 : mcode 54 38 = some (.getfield 68, 3, 3, 3, 0) := rfl
theorem r54_38 : Rn 54 (38, [x0, x1, x2, x3], .ref q :: st, a, h) = Kv 54 41 [x0, x1, x2, x3] st a h (mgf h q 3 3) := Rn_getf c54_38 rfl
theorem c54_41 : mcode 54 41 = some (.aload_n 2, 1, 0, 0, 0) := rfl
theorem r54_41 : Rn 54 (41, [x0, x1, some (.ref q), x3], st, a, h) = Rn 54 (42, [x0, x1, some (.ref q), x3], .ref q :: st, a, h) := Rn_go c54_41 rfl
theorem c54_42 : mcode 54 42 = some (.aload_n 0, 1, 0, 0, 0) := rfl
theorem r54_42 : Rn 54 (42, [some (.ref q), x1, x2, x3], st, a, h) = Rn 54 (43, [some (.ref q), x1, x2, x3], .ref q :: st, a, h) := Rn_go c54_42 rfl
theorem c54_43 : mcode 54 43 = some (.getfield 28, 3, 4, 4, 0) := rfl
theorem r54_43 : Rn 54 (43, [x0, x1, x2, x3], .ref q :: st, a, h) = Kv 54 46 [x0, x1, x2, x3] st a h (mgf h q 4 4) := Rn_getf c54_43 rfl
theorem c54_46 : mcode 54 46 = some (.invokevirtual 77, 3, 29, 1, 3) := rfl
theorem r54_46 : Rn 54 (46, [x0, x1, x2, x3], [v0, .ref q, .int i0], a, h) = if mis h q 3 = true then Bk 54 49 [x0, x1, x2, x3] [.int i0] (Ec 29 [.ref q, v0] a h) else none := Rn_call1 c54_46 rfl (Nat.le_of_ble_eq_true rfl) rfl rfl (Nat.le_of_ble_eq_true rfl)
theorem c54_49 : mcode 54 49 = some (.invokestatic 93, 3, 228, 2, 0) := rfl
theorem r54_49 : Rn 54 (49, [x0, x1, x2, x3], [v1, v0], a, h) = Bk 54 52 [x0, x1, x2, x3] [] (Ec 228 [v0, v1] a h) := Rn_call0 c54_49 (fun z => nomatch z) rfl (Nat.le_of_ble_eq_true rfl) rfl rfl (Nat.le_of_ble_eq_true rfl)
theorem c54_52 : mcode 54 52 = some (.istore_n 3, 1, 0, 0, 0) := rfl
theorem r54_52 : Rn 54 (52, [x0, x1, x2, x3], .int i :: st, a, h) = Nl x2 (Rn 54 (53, [x0, x1, x2, some (.int i)], st, a, h)) := Rn_st1 (k := 3) (v := .int i) x2 c54_52 rfl rfl rfl rfl
theorem c54_53 : mcode 54 53 = some (.aload_n 2, 1, 0, 0, 0) := rfl
theorem r54_53 : Rn 54 (53, [x0, x1, some (.ref q), x3], st, a, h) = Rn 54 (54, [x0, x1, some (.ref q), x3], .ref q :: st, a, h) := Rn_go c54_53 rfl
theorem c54_54 : mcode 54 54 = some (.dup, 1, 0, 0, 0) := rfl
theorem r54_54 : Rn 54 (54, [x0, x1, x2, x3], .ref q :: st, a, h) = Rn 54 (55, [x0, x1, x2, x3], .ref q :: .ref q :: st, a, h) := Rn_go c54_54 rfl
theorem c54_55 : mcode 54 55 = some (.getfield 68, 3, 3, 3, 0) := rfl
theorem r54_55 : Rn 54 (55, [x0, x1, x2, x3], .ref q :: st, a, h) = Kv 54 58 [x0, x1, x2, x3] st a h (mgf h q 3 3) := Rn_getf c54_55 rfl
theorem c54_58 : mcode 54 58 = some (.iload_n 3, 1, 0, 0, 0) := rfl
theorem r54_58 : Rn 54 (58, [x0, x1, x2, some (.int i)], st, a, h) = Rn 54 (59, [x0, x1, x2, some (.int i)], .int i :: st, a, h) := Rn_go c54_58 rfl
theorem c54_59 : mcode 54 59 = some (.isub, 1, 0, 0, 0) := rfl
theorem r54_59 : Rn 54 (59, [x0, x1, x2, x3], .int j :: .int i :: st, a, h) = Rn 54 (60, [x0, x1, x2, x3], .int (i - j) :: st, a, h) := Rn_go c54_59 rfl
theorem c54_60 : mcode 54 60 = some (.putfield 68, 3, 3, 3, 0) := rfl
theorem r54_60 : Rn 54 (60, [x0, x1, x2, x3], .int i :: .ref q :: st, a, h) = Kh 54 63 [x0, x1, x2, x3] st a (mpf h q 3 3 (.int i)) := Rn_putfi c54_60 rfl rfl
theorem c54_63 : mcode 54 63 = some (.aload_n 0, 1, 0, 0, 0) := rfl
theorem r54_63 : Rn 54 (63, [some (.ref q), x1, x2, x3], st, a, h) = Rn 54 (64, [some (.ref q), x1, x2, x3], .ref q :: st, a, h) := Rn_go c54_63 rfl
theorem c54_64 : mcode 54 64 = some (.aload_n 2, 1, 0, 0, 0) := rfl
theorem r54_64 : Rn 54 (64, [x0, x1, some (.ref q), x3], st, a, h) = Rn 54 (65, [x0, x1, some (.ref q), x3], .ref q :: st, a, h) := Rn_go c54_64 rfl
theorem c54_65 : mcode 54 65 = some (.getfield 62, 3, 3, 1, 0) := rfl
theorem r54_65 : Rn 54 (65, [x0, x1, x2, x3], .ref q :: st, a, h) = Kv 54 68 [x0, x1, x2, x3] st a h (mgf h q 3 1) := Rn_getf c54_65 rfl
theorem c54_68 : mcode 54 68 = some (.aload_n 2, 1, 0, 0, 0) := rfl
theorem r54_68 : Rn 54 (68, [x0, x1, some (.ref q), x3], st, a, h) = Rn 54 (69, [x0, x1, some (.ref q), x3], .ref q :: st, a, h) := Rn_go c54_68 rfl
theorem c54_69 : mcode 54 69 = some (.getfield 65, 3, 3, 2, 0) := rfl
theorem r54_69 : Rn 54 (69, [x0, x1, x2, x3], .ref q :: st, a, h) = Kv 54 72 [x0, x1, x2, x3] st a h (mgf h q 3 2) := Rn_getf c54_69 rfl
theorem c54_72 : mcode 54 72 = some (.aload_n 0, 1, 0, 0, 0) := rfl
theorem r54_72 : Rn 54 (72, [some (.ref q), x1, x2, x3], st, a, h) = Rn 54 (73, [some (.ref q), x1, x2, x3], .ref q :: st, a, h) := Rn_go c54_72 rfl
theorem c54_73 : mcode 54 73 = some (.aload_n 2, 1, 0, 0, 0) := rfl
theorem r54_73 : Rn 54 (73, [x0, x1, some (.ref q), x3], st, a, h) = Rn 54 (74, [x0, x1, some (.ref q), x3], .ref q :: st, a, h) := Rn_go c54_73 rfl
theorem c54_74 : mcode 54 74 = some (.getfield 62, 3, 3, 1, 0) := rfl
theorem r54_74 : Rn 54 (74, [x0, x1, x2, x3], .ref q :: st, a, h) = Kv 54 77 [x0, x1, x2, x3] st a h (mgf h q 3 1) := Rn_getf c54_74 rfl
theorem c54_77 : mcode 54 77 = some (.aload_n 2, 1, 0, 0, 0) := rfl
theorem r54_77 : Rn 54 (77, [x0, x1, some (.ref q), x3], st, a, h) = Rn 54 (78, [x0, x1, some (.ref q), x3], .ref q :: st, a, h) := Rn_go c54_77 rfl
theorem c54_78 : mcode 54 78 = some (.getfield 65, 3, 3, 2, 0) := rfl
theorem r54_78 : Rn 54 (78, [x0, x1, x2, x3], .ref q :: st, a, h) = Kv 54 81 [x0, x1, x2, x3] st a h (mgf h q 3 2) := Rn_getf c54_78 rfl
theorem c54_81 : mcode 54 81 = some (.invokevirtual 99, 3, 41, 2, 4) := rfl
theorem r54_81 : Rn 54 (81, [x0, x1, x2, x3], [v1, v0, .ref q, .int i0, .int i1, .ref q2], a, h) = if mis h q 4 = true then Bk 54 84 [x0, x1, x2, x3] [.int i0, .int i1, .ref q2] (Ec 41 [.ref q, v0, v1] a h) else none := Rn_call1 c54_81 rfl (Nat.le_of_ble_eq_true rfl) rfl rfl (Nat.le_of_ble_eq_true rfl)
theorem c54_84 : mcode 54 84 = some (.iload_n 3, 1, 0, 0, 0) := rfl
theorem r54_84 : Rn 54 (84, [x0, x1, x2, some (.int i)], st, a, h) = Rn 54 (85, [x0, x1, x2, some (.int i)], .int i :: st, a, h) := Rn_go c54_84 rfl
theorem c54_85 : mcode 54 85 = some (.iadd, 1, 0, 0, 0) := rfl
theorem r54_85 : Rn 54 (85, [x0, x1, x2, x3], .int j :: .int i :: st, a, h) = Rn 54 (86, [x0, x1, x2, x3], .int (i + j) :: st, a, h) := Rn_go c54_85 rfl
theorem c54_86 : mcode 54 86 = some (.invokevirtual 111, 3, 42, 3, 4) := rfl
theorem r54_86 : Rn 54 (86, [x0, x1, x2, x3], [v2, v1, v0, .ref q], a, h) = if mis h q 4 = true then Bk 54 89 [x0, x1, x2, x3] [] (Ec 42 [.ref q, v0, v1, v2] a h) else none := Rn_call1 c54_86 rfl (Nat.le_of_ble_eq_true rfl) rfl rfl (Nat.le_of_ble_eq_true rfl)
theorem c54_89 : mcode 54 89 = some (.iinc 1 1, 3, 0, 0, 0) := rfl
theorem r54_89 : Rn 54 (89, [x0, some (.int i), x2, x3], st, a, h) = Nl x0 (Rn 54 (92, [x0, some (.int (i + (1 : Int32))), x2, x3], st, a, h)) := Rn_st1 (k := 1) (v := .int (i + (1 : Int32))) x0 c54_89 rfl rfl rfl rfl
theorem c54_92 : mcode 54 92 = some (.goto (-90), 3, 0, 0, 0) := rfl
theorem r54_92 : Rn 54 (92, [x0, x1, x2, x3], st, a, h) = Rn 54 (2, [x0, x1, x2, x3], st, a, h) := Rn_goto c54_92 rfl
theorem c54_95 : mcode 54 95 = some (.return_, 1, 0, 0, 0) := rfl
theorem r54_95 : Rn 54 (95, [x0, x1, x2, x3], [], a, h) = some (none, a, h) := Rn_act c54_95
theorem c55_0 : mcode 55 0 = some (.aload_n 0, 1, 0, 0, 0) := rfl
theorem r55_0 : Rn 55 (0, [some (.ref q), x1, x2], st, a, h) = Rn 55 (1, [some (.ref q), x1, x2], .ref q :: st, a, h) := Rn_go c55_0 rfl
theorem c55_1 : mcode 55 1 = some (.getfield 9, 3, 4, 0, 0) := rfl
theorem r55_1 : Rn 55 (1, [x0, x1, x2], .ref q :: st, a, h) = Kv 55 4 [x0, x1, x2] st a h (mgf h q 4 0) := Rn_getf c55_1 rfl
theorem c55_4 : mcode 55 4 = some (.arraylength, 1, 0, 0, 0) := rfl
theorem r55_4 : Rn 55 (4, [x0, x1, x2], .ref q :: st, a, h) = Ki 55 5 [x0, x1, x2] st a h (mlen h q) := Rn_alen c55_4 rfl
theorem c55_5 : mcode 55 5 = some (.iconst 1, 1, 0, 0, 0) := rfl
theorem r55_5 : Rn 55 (5, [x0, x1, x2], st, a, h) = Rn 55 (6, [x0, x1, x2], .int (1 : Int32) :: st, a, h) := Rn_go c55_5 rfl
theorem c55_6 : mcode 55 6 = some (.isub, 1, 0, 0, 0) := rfl
theorem r55_6 : Rn 55 (6, [x0, x1, x2], .int j :: .int i :: st, a, h) = Rn 55 (7, [x0, x1, x2], .int (i - j) :: st, a, h) := Rn_go c55_6 rfl
theorem c55_7 : mcode 55 7 = some (.istore_n 1, 1, 0, 0, 0) := rfl
theorem r55_7 : Rn 55 (7, [x0, x1, x2], .int i :: st, a, h) = Nl x0 (Rn 55 (8, [x0, some (.int i), x2], st, a, h)) := Rn_st1 (k := 1) (v := .int i) x0 c55_7 rfl rfl rfl rfl
theorem c55_8 : mcode 55 8 = some (.iload_n 1, 1, 0, 0, 0) := rfl
theorem r55_8 : Rn 55 (8, [x0, some (.int i), x2], st, a, h) = Rn 55 (9, [x0, some (.int i), x2], .int i :: st, a, h) := Rn_go c55_8 rfl
theorem c55_9 : mcode 55 9 = some (.iconst 3, 1, 0, 0, 0) := rfl
theorem r55_9 : Rn 55 (9, [x0, x1, x2], st, a, h) = Rn 55 (10, [x0, x1, x2], .int (3 : Int32) :: st, a, h) := Rn_go c55_9 rfl
theorem c55_10 : mcode 55 10 = some (.if_icmp .lt 52, 3, 0, 0, 0) := rfl
theorem r55_10 : Rn 55 (10, [x0, x1, x2], .int j :: .int i :: st, a, h) = if i < j then Rn 55 (62, [x0, x1, x2], st, a, h) else Rn 55 (13, [x0, x1, x2], st, a, h) := Rn_icmp c55_10 mc_lt rfl rfl
theorem c55_13 : mcode 55 13 = some (.aload_n 0, 1, 0, 0, 0) := rfl
theorem r55_13 : Rn 55 (13, [some (.ref q), x1, x2], st, a, h) = Rn 55 (14, [some (.ref q), x1, x2], .ref q :: st, a, h) := Rn_go c55_13 rfl
theorem c55_14 : mcode 55 14 = some (.getfield 9, 3, 4, 0, 0) := rfl
theorem r55_14 : Rn 55 (14, [x0, x1, x2], .ref q :: st, a, h) = Kv 55 17 [x0, x1, x2] st a h (mgf h q 4 0) := Rn_getf c55_14 rfl
theorem c55_17 : mcode 55 17 = some (.iload_n 1, 1, 0, 0, 0) := rfl
theorem r55_17 : Rn 55 (17, [x0, some (.int i), x2], st, a, h) = Rn 55 (18, [x0, some (.int i), x2], .int i :: st, a, h) := Rn_go c55_17 rfl
theorem c55_18 : mcode 55 18 = some (.iconst 3, 1, 0, 0, 0) := rfl
theorem r55_18 : Rn 55 (18, [x0, x1, x2], st, a, h) = Rn 55 (19, [x0, x1, x2], .int (3 : Int32) :: st, a, h) := Rn_go c55_18 rfl
theorem c55_19 : mcode 55 19 = some (.isub, 1, 0, 0, 0) := rfl
theorem r55_19 : Rn 55 (19, [x0, x1, x2], .int j :: .int i :: st, a, h) = Rn 55 (20, [x0, x1, x2], .int (i - j) :: st, a, h) := Rn_go c55_19 rfl
theorem c55_20 : mcode 55 20 = some (.iaload, 1, 0, 0, 0) := rfl
theorem r55_20 : Rn 55 (20, [x0, x1, x2], .int i :: .ref q :: st, a, h) = Ki 55 21 [x0, x1, x2] st a h (mld h q i false) := Rn_iald c55_20 rfl
theorem c55_21 : mcode 55 21 = some (.iconst 4, 1, 0, 0, 0) := rfl
theorem r55_21 : Rn 55 (21, [x0, x1, x2], st, a, h) = Rn 55 (22, [x0, x1, x2], .int (4 : Int32) :: st, a, h) := Rn_go c55_21 rfl
theorem c55_22 : mcode 55 22 = some (.idiv, 1, 0, 0, 0) := rfl
theorem r55_22 : Rn 55 (22, [x0, x1, x2], .int j :: .int i :: st, a, h) = if j = 0 then none else Rn 55 (23, [x0, x1, x2], .int (i / j) :: st, a, h) := Rn_idiv c55_22 rfl
theorem c55_23 : mcode 55 23 = some (.istore_n 2, 1, 0, 0, 0) := rfl
theorem r55_23 : Rn 55 (23, [x0, x1, x2], .int i :: st, a, h) = Nl x1 (Rn 55 (24, [x0, x1, some (.int i)], st, a, h)) := Rn_st1 (k := 2) (v := .int i) x1 c55_23 rfl rfl rfl rfl
theorem c55_24 : mcode 55 24 = some (.aload_n 0, 1, 0, 0, 0) := rfl
theorem r55_24 : Rn 55 (24, [some (.ref q), x1, x2], st, a, h) = Rn 55 (25, [some (.ref q), x1, x2], .ref q :: st, a, h) := Rn_go c55_24 rfl
theorem c55_25 : mcode 55 25 = some (.getfield 9, 3, 4, 0, 0) := rfl
theorem r55_25 : Rn 55 (25, [x0, x1, x2], .ref q :: st, a, h) = Kv 55 28 [x0, x1, x2] st a h (mgf h q 4 0) := Rn_getf c55_25 rfl
theorem c55_28 : mcode 55 28 = some (.iload_n 1, 1, 0, 0, 0) := rfl
theorem r55_28 : Rn 55 (28, [x0, some (.int i), x2], st, a, h) = Rn 55 (29, [x0, some (.int i), x2], .int i :: st, a, h) := Rn_go c55_28 rfl
theorem c55_29 : mcode 55 29 = some (.aload_n 0, 1, 0, 0, 0) := rfl
theorem r55_29 : Rn 55 (29, [some (.ref q), x1, x2], st, a, h) = Rn 55 (30, [some (.ref q), x1, x2], .ref q :: st, a, h) := Rn_go c55_29 rfl
theorem c55_30 : mcode 55 30 = some (.getfield 9, 3, 4, 0, 0) := rfl
theorem r55_30 : Rn 55 (30, [x0, x1, x2], .ref q :: st, a, h) = Kv 55 33 [x0, x1, x2] st a h (mgf h q 4 0) := Rn_getf c55_30 rfl
theorem c55_33 : mcode 55 33 = some (.iload_n 1, 1, 0, 0, 0) := rfl
theorem r55_33 : Rn 55 (33, [x0, some (.int i), x2], st, a, h) = Rn 55 (34, [x0, some (.int i), x2], .int i :: st, a, h) := Rn_go c55_33 rfl
theorem c55_34 : mcode 55 34 = some (.iaload, 1, 0, 0, 0) := rfl
theorem r55_34 : Rn 55 (34, [x0, x1, x2], .int i :: .ref q :: st, a, h) = Ki 55 35 [x0, x1, x2] st a h (mld h q i false) := Rn_iald c55_34 rfl
theorem c55_35 : mcode 55 35 = some (.iload_n 2, 1, 0, 0, 0) := rfl
theorem r55_35 : Rn 55 (35, [x0, x1, some (.int i)], st, a, h) = Rn 55 (36, [x0, x1, some (.int i)], .int i :: st, a, h) := Rn_go c55_35 rfl
theorem c55_36 : mcode 55 36 = some (.iadd, 1, 0, 0, 0) := rfl
theorem r55_36 : Rn 55 (36, [x0, x1, x2], .int j :: .int i :: st, a, h) = Rn 55 (37, [x0, x1, x2], .int (i + j) :: st, a, h) := Rn_go c55_36 rfl
theorem c55_37 : mcode 55 37 = some (.sipush 999, 3, 0, 0, 0) := rfl
theorem r55_37 : Rn 55 (37, [x0, x1, x2], st, a, h) = Rn 55 (40, [x0, x1, x2], .int (999 : Int32) :: st, a, h) := Rn_go c55_37 rfl
theorem c55_40 : mcode 55 40 = some (.invokestatic 93, 3, 228, 2, 0) := rfl
theorem r55_40 : Rn 55 (40, [x0, x1, x2], [v1, v0, .int i0, .ref q1], a, h) = Bk 55 43 [x0, x1, x2] [.int i0, .ref q1] (Ec 228 [v0, v1] a h) := Rn_call0 c55_40 (fun z => nomatch z) rfl (Nat.le_of_ble_eq_true rfl) rfl rfl (Nat.le_of_ble_eq_true rfl)
theorem c55_43 : mcode 55 43 = some (.iastore, 1, 0, 0, 0) := rfl
theorem r55_43 : Rn 55 (43, [x0, x1, x2], .int j :: .int i :: .ref q :: st, a, h) = Kh 55 44 [x0, x1, x2] st a (mias h q i j) := Rn_iast c55_43 rfl
theorem c55_44 : mcode 55 44 = some (.aload_n 0, 1, 0, 0, 0) := rfl
theorem r55_44 : Rn 55 (44, [some (.ref q), x1, x2], st, a, h) = Rn 55 (45, [some (.ref q), x1, x2], .ref q :: st, a, h) := Rn_go c55_44 rfl
theorem c55_45 : mcode 55 45 = some (.getfield 9, 3, 4, 0, 0) := rfl
theorem r55_45 : Rn 55 (45, [x0, x1, x2], .ref q :: st, a, h) = Kv 55 48 [x0, x1, x2] st a h (mgf h q 4 0) := Rn_getf c55_45 rfl
theorem c55_48 : mcode 55 48 = some (.iload_n 1, 1, 0, 0, 0) := rfl
theorem r55_48 : Rn 55 (48, [x0, some (.int i), x2], st, a, h) = Rn 55 (49, [x0, some (.int i), x2], .int i :: st, a, h) := Rn_go c55_48 rfl
theorem c55_49 : mcode 55 49 = some (.iconst 3, 1, 0, 0, 0) := rfl
theorem r55_49 : Rn 55 (49, [x0, x1, x2], st, a, h) = Rn 55 (50, [x0, x1, x2], .int (3 : Int32) :: st, a, h) := Rn_go c55_49 rfl
theorem c55_50 : mcode 55 50 = some (.isub, 1, 0, 0, 0) := rfl
theorem r55_50 : Rn 55 (50, [x0, x1, x2], .int j :: .int i :: st, a, h) = Rn 55 (51, [x0, x1, x2], .int (i - j) :: st, a, h) := Rn_go c55_50 rfl
theorem c55_51 : mcode 55 51 = some (.dup2, 1, 0, 0, 0) := rfl
theorem r55_51 : Rn 55 (51, [x0, x1, x2], .int i :: .ref p :: st, a, h) = Rn 55 (52, [x0, x1, x2], .int i :: .ref p :: .int i :: .ref p :: st, a, h) := Rn_go c55_51 rfl
theorem c55_52 : mcode 55 52 = some (.iaload, 1, 0, 0, 0) := rfl
theorem r55_52 : Rn 55 (52, [x0, x1, x2], .int i :: .ref q :: st, a, h) = Ki 55 53 [x0, x1, x2] st a h (mld h q i false) := Rn_iald c55_52 rfl
theorem c55_53 : mcode 55 53 = some (.iload_n 2, 1, 0, 0, 0) := rfl
theorem r55_53 : Rn 55 (53, [x0, x1, some (.int i)], st, a, h) = Rn 55 (54, [x0, x1, some (.int i)], .int i :: st, a, h) := Rn_go c55_53 rfl
theorem c55_54 : mcode 55 54 = some (.isub, 1, 0, 0, 0) := rfl
theorem r55_54 : Rn 55 (54, [x0, x1, x2], .int j :: .int i :: st, a, h) = Rn 55 (55, [x0, x1, x2], .int (i - j) :: st, a, h) := Rn_go c55_54 rfl
theorem c55_55 : mcode 55 55 = some (.iastore, 1, 0, 0, 0) := rfl
theorem r55_55 : Rn 55 (55, [x0, x1, x2], .int j :: .int i :: .ref q :: st, a, h) = Kh 55 56 [x0, x1, x2] st a (mias h q i j) := Rn_iast c55_55 rfl
theorem c55_56 : mcode 55 56 = some (.iinc 1 (-1), 3, 0, 0, 0) := rfl
theorem r55_56 : Rn 55 (56, [x0, some (.int i), x2], st, a, h) = Nl x0 (Rn 55 (59, [x0, some (.int (i + (-1 : Int32))), x2], st, a, h)) := Rn_st1 (k := 1) (v := .int (i + (-1 : Int32))) x0 c55_56 rfl rfl rfl rfl
theorem c55_59 : mcode 55 59 = some (.goto (-51), 3, 0, 0, 0) := rfl
theorem r55_59 : Rn 55 (59, [x0, x1, x2], st, a, h) = Rn 55 (8, [x0, x1, x2], st, a, h) := Rn_goto c55_59 rfl
theorem c55_62 : mcode 55 62 = some (.return_, 1, 0, 0, 0) := rfl
theorem r55_62 : Rn 55 (62, [x0, x1, x2], [], a, h) = some (none, a, h) := Rn_act c55_62
theorem c56_0 : mcode 56 0 = some (.iconst 0, 1, 0, 0, 0) := rfl
theorem r56_0 : Rn 56 (0, [x0, x1, x2, x3, x4], st, a, h) = Rn 56 (1, [x0, x1, x2, x3, x4], .int (0 : Int32) :: st, a, h) := Rn_go c56_0 rfl
theorem c56_1 : mcode 56 1 = some (.istore_n 1, 1, 0, 0, 0) := rfl
theorem r56_1 : Rn 56 (1, [x0, x1, x2, x3, x4], .int i :: st, a, h) = Nl x0 (Rn 56 (2, [x0, some (.int i), x2, x3, x4], st, a, h)) := Rn_st1 (k := 1) (v := .int i) x0 c56_1 rfl rfl rfl rfl
theorem c56_2 : mcode 56 2 = some (.iload_n 1, 1, 0, 0, 0) := rfl
theorem r56_2 : Rn 56 (2, [x0, some (.int i), x2, x3, x4], st, a, h) = Rn 56 (3, [x0, some (.int i), x2, x3, x4], .int i :: st, a, h) := Rn_go c56_2 rfl
theorem c56_3 : mcode 56 3 = some (.aload_n 0, 1, 0, 0, 0) := rfl
theorem r56_3 : Rn 56 (3, [some (.ref q), x1, x2, x3, x4], st, a, h) = Rn 56 (4, [some (.ref q), x1, x2, x3, x4], .ref q :: st, a, h) := Rn_go c56_3 rfl
theorem c56_4 : mcode 56 4 = some (.getfield 24, 3, 4, 3, 0) := rfl
theorem r56_4 : Rn 56 (4, [x0, x1, x2, x3, x4], .ref q :: st, a, h) = Kv 56 7 [x0, x1, x2, x3, x4] st a h (mgf h q 4 3) := Rn_getf c56_4 rfl
theorem c56_7 : mcode 56 7 = some (.if_icmp .ge 84, 3, 0, 0, 0) := rfl
theorem r56_7 : Rn 56 (7, [x0, x1, x2, x3, x4], .int j :: .int i :: st, a, h) = if i < j then Rn 56 (10, [x0, x1, x2, x3, x4], st, a, h) else Rn 56 (91, [x0, x1, x2, x3, x4], st, a, h) := Rn_icmpn c56_7 mc_ge rfl rfl
theorem c56_10 : mcode 56 10 = some (.iload_n 1, 1, 0, 0, 0) := rfl
theorem r56_10 : Rn 56 (10, [x0, some (.int i), x2, x3, x4], st, a, h) = Rn 56 (11, [x0, some (.int i), x2, x3, x4], .int i :: st, a, h) := Rn_go c56_10 rfl
theorem c56_11 : mcode 56 11 = some (.aload_n 0, 1, 0, 0, 0) := rfl
theorem r56_11 : Rn 56 (11, [some (.ref q), x1, x2, x3, x4], st, a, h) = Rn 56 (12, [some (.ref q), x1, x2, x3, x4], .ref q :: st, a, h) := Rn_go c56_11 rfl
theorem c56_12 : mcode 56 12 = some (.getfield 17, 3, 4, 1, 0) := rfl
theorem r56_12 : Rn 56 (12, [x0, x1, x2, x3, x4], .ref q :: st, a, h) = Kv 56 15 [x0, x1, x2, x3, x4] st a h (mgf h q 4 1) := Rn_getf c56_12 rfl
theorem c56_15 : mcode 56 15 = some (.arraylength, 1, 0, 0, 0) := rfl
theorem r56_15 : Rn 56 (15, [x0, x1, x2, x3, x4], .ref q :: st, a, h) = Ki 56 16 [x0, x1, x2, x3, x4] st a h (mlen h q) := Rn_alen c56_15 rfl
theorem c56_16 : mcode 56 16 = some (.if_icmp .ge 75, 3, 0, 0, 0) := rfl
theorem r56_16 : Rn 56 (16, [x0, x1, x2, x3, x4], .int j :: .int i :: st, a, h) = if i < j then Rn 56 (19, [x0, x1, x2, x3, x4], st, a, h) else Rn 56 (91, [x0, x1, x2, x3, x4], st, a, h) := Rn_icmpn c56_16 mc_ge rfl rfl
theorem c56_19 : mcode 56 19 = some (.aload_n 0, 1, 0, 0, 0) := rfl
theorem r56_19 : Rn 56 (19, [some (.ref q), x1, x2, x3, x4], st, a, h) = Rn 56 (20, [some (.ref q), x1, x2, x3, x4], .ref q :: st, a, h) := Rn_go c56_19 rfl
theorem c56_20 : mcode 56 20 = some (.getfield 17, 3, 4, 1, 0) := rfl
theorem r56_20 : Rn 56 (20, [x0, x1, x2, x3, x4], .ref q :: st, a, h) = Kv 56 23 [x0, x1, x2, x3, x4] st a h (mgf h q 4 1) := Rn_getf c56_20 rfl
theorem c56_23 : mcode 56 23 = some (.iload_n 1, 1, 0, 0, 0) := rfl
theorem r56_23 : Rn 56 (23, [x0, some (.int i), x2, x3, x4], st, a, h) = Rn 56 (24, [x0, some (.int i), x2, x3, x4], .int i :: st, a, h) := Rn_go c56_23 rfl
theorem c56_24 : mcode 56 24 = some (.aaload, 1, 0, 0, 0) := rfl
theorem r56_24 : Rn 56 (24, [x0, x1, x2, x3, x4], .int i :: .ref q :: st, a, h) = Kv 56 25 [x0, x1, x2, x3, x4] st a h (mald h q i) := Rn_aald c56_24 rfl
theorem c56_25 : mcode 56 25 = some (.astore_n 2, 1, 0, 0, 0) := rfl
theorem r56_25 : Rn 56 (25, [x0, x1, x2, x3, x4], .ref q :: st, a, h) = Nl x1 (Rn 56 (26, [x0, x1, some (.ref q), x3, x4], st, a, h)) := Rn_st1 (k := 2) (v := .ref q) x1 c56_25 rfl rfl rfl rfl
theorem c56_26 : mcode 56 26 = some (.aload_n 0, 1, 0, 0, 0) := rfl
theorem r56_26 : Rn 56 (26, [some (.ref q), x1, x2, x3, x4], st, a, h) = Rn 56 (27, [some (.ref q), x1, x2, x3, x4], .ref q :: st, a, h) := Rn_go c56_26 rfl
theorem c56_27 : mcode 56 27 = some (.aload_n 2, 1, 0, 0, 0) := rfl
theorem r56_27 : Rn 56 (27, [x0, x1, some (.ref q), x3, x4], st, a, h) = Rn 56 (28, [x0, x1, some (.ref q), x3, x4], .ref q :: st, a, h) := Rn_go c56_27 rfl
theorem c56_28 : mcode 56 28 = some (.getfield 62, 3, 3, 1, 0) := rfl
theorem r56_28 : Rn 56 (28, [x0, x1, x2, x3, x4], .ref q :: st, a, h) = Kv 56 31 [x0, x1, x2, x3, x4] st a h (mgf h q 3 1) := Rn_getf c56_28 rfl
theorem c56_31 : mcode 56 31 = some (.aload_n 2, 1, 0, 0, 0) := rfl
theorem r56_31 : Rn 56 (31, [x0, x1, some (.ref q), x3, x4], st, a, h) = Rn 56 (32, [x0, x1, some (.ref q), x3, x4], .ref q :: st, a, h) := Rn_go c56_31 rfl
theorem c56_32 : mcode 56 32 = some (.getfield 65, 3, 3, 2, 0) := rfl
theorem r56_32 : Rn 56 (32, [x0, x1, x2, x3, x4], .ref q :: st, a, h) = Kv 56 35 [x0, x1, x2, x3, x4] st a h (mgf h q 3 2) := Rn_getf c56_32 rfl
theorem c56_35 : mcode 56 35 = some (.invokevirtual 128, 3, 47, 2, 4) := rfl
theorem r56_35 : Rn 56 (35, [x0, x1, x2, x3, x4], [v1, v0, .ref q], a, h) = if mis h q 4 = true then Bk 56 38 [x0, x1, x2, x3, x4] [] (Ec 47 [.ref q, v0, v1] a h) else none := Rn_call1 c56_35 rfl (Nat.le_of_ble_eq_true rfl) rfl rfl (Nat.le_of_ble_eq_true rfl)
theorem c56_38 : mcode 56 38 = some (.istore_n 3, 1, 0, 0, 0) := rfl
theorem r56_38 : Rn 56 (38, [x0, x1, x2, x3, x4], .int i :: st, a, h) = Nl x2 (Rn 56 (39, [x0, x1, x2, some (.int i), x4], st, a, h)) := Rn_st1 (k := 3) (v := .int i) x2 c56_38 rfl rfl rfl rfl
theorem c56_39 : mcode 56 39 = some (.aload_n 0, 1, 0, 0, 0) := rfl
theorem r56_39 : Rn 56 (39, [some (.ref q), x1, x2, x3, x4], st, a, h) = Rn 56 (40, [some (.ref q), x1, x2, x3, x4], .ref q :: st, a, h) := Rn_go c56_39 rfl
theorem c56_40 : mcode 56 40 = some (.aload_n 2, 1, 0, 0, 0) := rfl
theorem r56_40 : Rn 56 (40, [x0, x1, some (.ref q), x3, x4], st, a, h) = Rn 56 (41, [x0, x1, some (.ref q), x3, x4], .ref q :: st, a, h) := Rn_go c56_40 rfl
theorem c56_41 : mcode 56 41 = some (.getfield 62, 3, 3, 1, 0) := rfl
theorem r56_41 : Rn 56 (41, [x0, x1, x2, x3, x4], .ref q :: st, a, h) = Kv 56 44 [x0, x1, x2, x3, x4] st a h (mgf h q 3 1) := Rn_getf c56_41 rfl
theorem c56_44 : mcode 56 44 = some (.iload_n 3, 1, 0, 0, 0) := rfl
theorem r56_44 : Rn 56 (44, [x0, x1, x2, some (.int i), x4], st, a, h) = Rn 56 (45, [x0, x1, x2, some (.int i), x4], .int i :: st, a, h) := Rn_go c56_44 rfl
theorem c56_45 : mcode 56 45 = some (.invokevirtual 99, 3, 41, 2, 4) := rfl
theorem r56_45 : Rn 56 (45, [x0, x1, x2, x3, x4], [v1, v0, .ref q], a, h) = if mis h q 4 = true then Bk 56 48 [x0, x1, x2, x3, x4] [] (Ec 41 [.ref q, v0, v1] a h) else none := Rn_call1 c56_45 rfl (Nat.le_of_ble_eq_true rfl) rfl rfl (Nat.le_of_ble_eq_true rfl)
theorem c56_48 : mcode 56 48 = some (.istore 4, 2, 0, 0, 0) := rfl
theorem r56_48 : Rn 56 (48, [x0, x1, x2, x3, x4], .int i :: st, a, h) = Nl x3 (Rn 56 (50, [x0, x1, x2, x3, some (.int i)], st, a, h)) := Rn_st1 (k := 4) (v := .int i) x3 c56_48 rfl rfl rfl rfl
theorem c56_50 : mcode 56 50 = some (.iload 4, 2, 0, 0, 0) := rfl
theorem r56_50 : Rn 56 (50, [x0, x1, x2, x3, some (.int i)], st, a, h) = Rn 56 (52, [x0, x1, x2, x3, some (.int i)], .int i :: st, a, h) := Rn_go c56_50 rfl
theorem c56_52 : mcode 56 52 = some (.aload_n 2, 1, 0, 0, 0) := rfl
theorem r56_52 : Rn 56 (52, [x0, x1, some (.ref q), x3, x4], st, a, h) = Rn 56 (53, [x0, x1, some (.ref q), x3, x4], .ref q :: st, a, h) := Rn_go c56_52 rfl
theorem c56_53 : mcode 56 53 = some (.aload_n 0, 1, 0, 0, 0) := rfl
theorem r56_53 : Rn 56 (53, [some (.ref q), x1, x2, x3, x4], st, a, h) = Rn 56 (54, [some (.ref q), x1, x2, x3, x4], .ref q :: st, a, h) := Rn_go c56_53 rfl
theorem c56_54 : mcode 56 54 = some (.getfield 28, 3, 4, 4, 0) := rfl
theorem r56_54 : Rn 56 (54, [x0, x1, x2, x3, x4], .ref q :: st, a, h) = Kv 56 57 [x0, x1, x2, x3, x4] st a h (mgf h q 4 4) := Rn_getf c56_54 rfl
theorem c56_57 : mcode 56 57 = some (.invokevirtual 84, 3, 31, 1, 3) := rfl
theorem r56_57 : Rn 56 (57, [x0, x1, x2, x3, x4], [v0, .ref q, .int i0], a, h) = if mis h q 3 = true then Bk 56 60 [x0, x1, x2, x3, x4] [.int i0] (Ec 31 [.ref q, v0] a h) else none := Rn_call1 c56_57 rfl (Nat.le_of_ble_eq_true rfl) rfl rfl (Nat.le_of_ble_eq_true rfl)
theorem c56_60 : mcode 56 60 = some (.if_icmp .le 25, 3, 0, 0, 0) := rfl
theorem r56_60 : Rn 56 (60, [x0, x1, x2, x3, x4], .int j :: .int i :: st, a, h) = if j < i then Rn 56 (63, [x0, x1, x2, x3, x4], st, a, h) else Rn 56 (85, [x0, x1, x2, x3, x4], st, a, h) := Rn_icmpn c56_60 mc_le rfl rfl
theorem c56_63 : mcode 56 63 = some (.iload 4, 2, 0, 0, 0) := rfl
theorem r56_63 : Rn 56 (63, [x0, x1, x2, x3, some (.int i)], st, a, h) = Rn 56 (65, [x0, x1, x2, x3, some (.int i)], .int i :: st, a, h) := Rn_go c56_63 rfl
theorem c56_65 : mcode 56 65 = some (.aload_n 0, 1, 0, 0, 0) := rfl
theorem r56_65 : Rn 56 (65, [some (.ref q), x1, x2, x3, x4], st, a, h) = Rn 56 (66, [some (.ref q), x1, x2, x3, x4], .ref q :: st, a, h) := Rn_go c56_65 rfl
theorem c56_66 : mcode 56 66 = some (.aload_n 2, 1, 0, 0, 0) := rfl
theorem r56_66 : Rn 56 (66, [x0, x1, some (.ref q), x3, x4], st, a, h) = Rn 56 (67, [x0, x1, some (.ref q), x3, x4], .ref q :: st, a, h) := Rn_go c56_66 rfl
theorem c56_67 : mcode 56 67 = some (.getfield 62, 3, 3, 1, 0) := rfl
theorem r56_67 : Rn 56 (67, [x0, x1, x2, x3, x4], .ref q :: st, a, h) = Kv 56 70 [x0, x1, x2, x3, x4] st a h (mgf h q 3 1) := Rn_getf c56_67 rfl
theorem c56_70 : mcode 56 70 = some (.aload_n 2, 1, 0, 0, 0) := rfl
theorem r56_70 : Rn 56 (70, [x0, x1, some (.ref q), x3, x4], st, a, h) = Rn 56 (71, [x0, x1, some (.ref q), x3, x4], .ref q :: st, a, h) := Rn_go c56_70 rfl
theorem c56_71 : mcode 56 71 = some (.getfield 65, 3, 3, 2, 0) := rfl
theorem r56_71 : Rn 56 (71, [x0, x1, x2, x3, x4], .ref q :: st, a, h) = Kv 56 74 [x0, x1, x2, x3, x4] st a h (mgf h q 3 2) := Rn_getf c56_71 rfl
theorem c56_74 : mcode 56 74 = some (.invokevirtual 99, 3, 41, 2, 4) := rfl
theorem r56_74 : Rn 56 (74, [x0, x1, x2, x3, x4], [v1, v0, .ref q, .int i0], a, h) = if mis h q 4 = true then Bk 56 77 [x0, x1, x2, x3, x4] [.int i0] (Ec 41 [.ref q, v0, v1] a h) else none := Rn_call1 c56_74 rfl (Nat.le_of_ble_eq_true rfl) rfl rfl (Nat.le_of_ble_eq_true rfl)
theorem c56_77 : mcode 56 77 = some (.if_icmp .le 8, 3, 0, 0, 0) := rfl
theorem r56_77 : Rn 56 (77, [x0, x1, x2, x3, x4], .int j :: .int i :: st, a, h) = if j < i then Rn 56 (80, [x0, x1, x2, x3, x4], st, a, h) else Rn 56 (85, [x0, x1, x2, x3, x4], st, a, h) := Rn_icmpn c56_77 mc_le rfl rfl
theorem c56_80 : mcode 56 80 = some (.aload_n 2, 1, 0, 0, 0) := rfl
theorem r56_80 : Rn 56 (80, [x0, x1, some (.ref q), x3, x4], st, a, h) = Rn 56 (81, [x0, x1, some (.ref q), x3, x4], .ref q :: st, a, h) := Rn_go c56_80 rfl
theorem c56_81 : mcode 56 81 = some (.iload_n 3, 1, 0, 0, 0) := rfl
theorem r56_81 : Rn 56 (81, [x0, x1, x2, some (.int i), x4], st, a, h) = Rn 56 (82, [x0, x1, x2, some (.int i), x4], .int i :: st, a, h) := Rn_go c56_81 rfl
theorem c56_82 : mcode 56 82 = some (.invokevirtual 131, 3, 32, 1, 3) := rfl
theorem r56_82 : Rn 56 (82, [x0, x1, x2, x3, x4], [v0, .ref q], a, h) = if mis h q 3 = true then Bk 56 85 [x0, x1, x2, x3, x4] [] (Ec 32 [.ref q, v0] a h) else none := Rn_call1 c56_82 rfl (Nat.le_of_ble_eq_true rfl) rfl rfl (Nat.le_of_ble_eq_true rfl)
theorem c56_85 : mcode 56 85 = some (.iinc 1 1, 3, 0, 0, 0) := rfl
theorem r56_85 : Rn 56 (85, [x0, some (.int i), x2, x3, x4], st, a, h) = Nl x0 (Rn 56 (88, [x0, some (.int (i + (1 : Int32))), x2, x3, x4], st, a, h)) := Rn_st1 (k := 1) (v := .int (i + (1 : Int32))) x0 c56_85 rfl rfl rfl rfl
theorem c56_88 : mcode 56 88 = some (.goto (-86), 3, 0, 0, 0) := rfl
theorem r56_88 : Rn 56 (88, [x0, x1, x2, x3, x4], st, a, h) = Rn 56 (2, [x0, x1, x2, x3, x4], st, a, h) := Rn_goto c56_88 rfl
theorem c56_91 : mcode 56 91 = some (.return_, 1, 0, 0, 0) := rfl
theorem r56_91 : Rn 56 (91, [x0, x1, x2, x3, x4], [], a, h) = some (none, a, h) := Rn_act c56_91
theorem c57_0 : mcode 57 0 = some (.iconst 0, 1, 0, 0, 0) := rfl
theorem r57_0 : Rn 57 (0, [x0, x1], st, a, h) = Rn 57 (1, [x0, x1], .int (0 : Int32) :: st, a, h) := Rn_go c57_0 rfl
theorem c57_1 : mcode 57 1 = some (.istore_n 1, 1, 0, 0, 0) := rfl
theorem r57_1 : Rn 57 (1, [x0, x1], .int i :: st, a, h) = Nl x0 (Rn 57 (2, [x0, some (.int i)], st, a, h)) := Rn_st1 (k := 1) (v := .int i) x0 c57_1 rfl rfl rfl rfl
theorem c57_2 : mcode 57 2 = some (.iload_n 1, 1, 0, 0, 0) := rfl
theorem r57_2 : Rn 57 (2, [x0, some (.int i)], st, a, h) = Rn 57 (3, [x0, some (.int i)], .int i :: st, a, h) := Rn_go c57_2 rfl
theorem c57_3 : mcode 57 3 = some (.aload_n 0, 1, 0, 0, 0) := rfl
theorem r57_3 : Rn 57 (3, [some (.ref q), x1], st, a, h) = Rn 57 (4, [some (.ref q), x1], .ref q :: st, a, h) := Rn_go c57_3 rfl
theorem c57_4 : mcode 57 4 = some (.getfield 24, 3, 4, 3, 0) := rfl
theorem r57_4 : Rn 57 (4, [x0, x1], .ref q :: st, a, h) = Kv 57 7 [x0, x1] st a h (mgf h q 4 3) := Rn_getf c57_4 rfl
theorem c57_7 : mcode 57 7 = some (.if_icmp .ge 31, 3, 0, 0, 0) := rfl
theorem r57_7 : Rn 57 (7, [x0, x1], .int j :: .int i :: st, a, h) = if i < j then Rn 57 (10, [x0, x1], st, a, h) else Rn 57 (38, [x0, x1], st, a, h) := Rn_icmpn c57_7 mc_ge rfl rfl
theorem c57_10 : mcode 57 10 = some (.iload_n 1, 1, 0, 0, 0) := rfl
theorem r57_10 : Rn 57 (10, [x0, some (.int i)], st, a, h) = Rn 57 (11, [x0, some (.int i)], .int i :: st, a, h) := Rn_go c57_10 rfl
theorem c57_11 : mcode 57 11 = some (.aload_n 0, 1, 0, 0, 0) := rfl
theorem r57_11 : Rn 57 (11, [some (.ref q), x1], st, a, h) = Rn 57 (12, [some (.ref q), x1], .ref q :: st, a, h) := Rn_go c57_11 rfl
theorem c57_12 : mcode 57 12 = some (.getfield 17, 3, 4, 1, 0) := rfl
theorem r57_12 : Rn 57 (12, [x0, x1], .ref q :: st, a, h) = Kv 57 15 [x0, x1] st a h (mgf h q 4 1) := Rn_getf c57_12 rfl
theorem c57_15 : mcode 57 15 = some (.arraylength, 1, 0, 0, 0) := rfl
theorem r57_15 : Rn 57 (15, [x0, x1], .ref q :: st, a, h) = Ki 57 16 [x0, x1] st a h (mlen h q) := Rn_alen c57_15 rfl
theorem c57_16 : mcode 57 16 = some (.if_icmp .ge 22, 3, 0, 0, 0) := rfl
theorem r57_16 : Rn 57 (16, [x0, x1], .int j :: .int i :: st, a, h) = if i < j then Rn 57 (19, [x0, x1], st, a, h) else Rn 57 (38, [x0, x1], st, a, h) := Rn_icmpn c57_16 mc_ge rfl rfl
theorem c57_19 : mcode 57 19 = some (.aload_n 0, 1, 0, 0, 0) := rfl
theorem r57_19 : Rn 57 (19, [some (.ref q), x1], st, a, h) = Rn 57 (20, [some (.ref q), x1], .ref q :: st, a, h) := Rn_go c57_19 rfl
theorem c57_20 : mcode 57 20 = some (.getfield 17, 3, 4, 1, 0) := rfl
theorem r57_20 : Rn 57 (20, [x0, x1], .ref q :: st, a, h) = Kv 57 23 [x0, x1] st a h (mgf h q 4 1) := Rn_getf c57_20 rfl
theorem c57_23 : mcode 57 23 = some (.iload_n 1, 1, 0, 0, 0) := rfl
theorem r57_23 : Rn 57 (23, [x0, some (.int i)], st, a, h) = Rn 57 (24, [x0, some (.int i)], .int i :: st, a, h) := Rn_go c57_23 rfl
theorem c57_24 : mcode 57 24 = some (.aaload, 1, 0, 0, 0) := rfl
theorem r57_24 : Rn 57 (24, [x0, x1], .int i :: .ref q :: st, a, h) = Kv 57 25 [x0, x1] st a h (mald h q i) := Rn_aald c57_24 rfl
theorem c57_25 : mcode 57 25 = some (.aload_n 0, 1, 0, 0, 0) := rfl
theorem r57_25 : Rn 57 (25, [some (.ref q), x1], st, a, h) = Rn 57 (26, [some (.ref q), x1], .ref q :: st, a, h) := Rn_go c57_25 rfl
theorem c57_26 : mcode 57 26 = some (.getfield 31, 3, 4, 5, 0) := rfl
theorem r57_26 : Rn 57 (26, [x0, x1], .ref q :: st, a, h) = Kv 57 29 [x0, x1] st a h (mgf h q 4 5) := Rn_getf c57_26 rfl
theorem c57_29 : mcode 57 29 = some (.invokevirtual 135, 3, 33, 1, 3) := rfl
theorem r57_29 : Rn 57 (29, [x0, x1], [v0, .ref q], a, h) = if mis h q 3 = true then Bk 57 32 [x0, x1] [] (Ec 33 [.ref q, v0] a h) else none := Rn_call1 c57_29 rfl (Nat.le_of_ble_eq_true rfl) rfl rfl (Nat.le_of_ble_eq_true rfl)
theorem c57_32 : mcode 57 32 = some (.iinc 1 1, 3, 0, 0, 0) := rfl
theorem r57_32 : Rn 57 (32, [x0, some (.int i)], st, a, h) = Nl x0 (Rn 57 (35, [x0, some (.int (i + (1 : Int32)))], st, a, h)) := Rn_st1 (k := 1) (v := .int (i + (1 : Int32))) x0 c57_32 rfl rfl rfl rfl
theorem c57_35 : mcode 57 35 = some (.goto (-33), 3, 0, 0, 0) := rfl
theorem r57_35 : Rn 57 (35, [x0, x1], st, a, h) = Rn 57 (2, [x0, x1], st, a, h) := Rn_goto c57_35 rfl
theorem c57_38 : mcode 57 38 = some (.return_, 1, 0, 0, 0) := rfl
theorem r57_38 : Rn 57 (38, [x0, x1], [], a, h) = some (none, a, h) := Rn_act c57_38
theorem c58_0 : mcode 58 0 = some (.aload_n 0, 1, 0, 0, 0) := rfl
theorem r58_0 : Rn 58 (0, [some (.ref q)], st, a, h) = Rn 58 (1, [some (.ref q)], .ref q :: st, a, h) := Rn_go c58_0 rfl
theorem c58_1 : mcode 58 1 = some (.aload_n 0, 1, 0, 0, 0) := rfl
theorem r58_1 : Rn 58 (1, [some (.ref q)], st, a, h) = Rn 58 (2, [some (.ref q)], .ref q :: st, a, h) := Rn_go c58_1 rfl
theorem c58_2 : mcode 58 2 = some (.getfield 34, 3, 4, 6, 0) := rfl
theorem r58_2 : Rn 58 (2, [x0], .ref q :: st, a, h) = Kv 58 5 [x0] st a h (mgf h q 4 6) := Rn_getf c58_2 rfl
theorem c58_5 : mcode 58 5 = some (.ldc 137, 2, 0, 0, 1103515245) := rfl
theorem r58_5 : Rn 58 (5, [x0], st, a, h) = Rn 58 (7, [x0], .int (1103515245 : Int32) :: st, a, h) := Rn_go c58_5 rfl
theorem c58_7 : mcode 58 7 = some (.imul, 1, 0, 0, 0) := rfl
theorem r58_7 : Rn 58 (7, [x0], .int j :: .int i :: st, a, h) = Rn 58 (8, [x0], .int (i * j) :: st, a, h) := Rn_go c58_7 rfl
theorem c58_8 : mcode 58 8 = some (.sipush 12345, 3, 0, 0, 0) := rfl
theorem r58_8 : Rn 58 (8, [x0], st, a, h) = Rn 58 (11, [x0], .int (12345 : Int32) :: st, a, h) := Rn_go c58_8 rfl
theorem c58_11 : mcode 58 11 = some (.iadd, 1, 0, 0, 0) := rfl
theorem r58_11 : Rn 58 (11, [x0], .int j :: .int i :: st, a, h) = Rn 58 (12, [x0], .int (i + j) :: st, a, h) := Rn_go c58_11 rfl
theorem c58_12 : mcode 58 12 = some (.putfield 34, 3, 4, 6, 0) := rfl
theorem r58_12 : Rn 58 (12, [x0], .int i :: .ref q :: st, a, h) = Kh 58 15 [x0] st a (mpf h q 4 6 (.int i)) := Rn_putfi c58_12 rfl rfl
theorem c58_15 : mcode 58 15 = some (.aload_n 0, 1, 0, 0, 0) := rfl
theorem r58_15 : Rn 58 (15, [some (.ref q)], st, a, h) = Rn 58 (16, [some (.ref q)], .ref q :: st, a, h) := Rn_go c58_15 rfl
theorem c58_16 : mcode 58 16 = some (.getfield 34, 3, 4, 6, 0) := rfl
theorem r58_16 : Rn 58 (16, [x0], .ref q :: st, a, h) = Kv 58 19 [x0] st a h (mgf h q 4 6) := Rn_getf c58_16 rfl
theorem c58_19 : mcode 58 19 = some (.bipush 8, 2, 0, 0, 0) := rfl
theorem r58_19 : Rn 58 (19, [x0], st, a, h) = Rn 58 (21, [x0], .int (8 : Int32) :: st, a, h) := Rn_go c58_19 rfl
theorem c58_21 : mcode 58 21 = some (.iushr, 1, 0, 0, 0) := rfl
theorem r58_21 : Rn 58 (21, [x0], .int j :: .int i :: st, a, h) = Rn 58 (22, [x0], .int ((i.toUInt32 >>> (j.toUInt32 &&& Int32.toUInt32 31)).toInt32) :: st, a, h) := Rn_go c58_21 rfl
theorem c58_22 : mcode 58 22 = some (.ireturn, 1, 0, 0, 0) := rfl
theorem r58_22 : Rn 58 (22, [x0], [.int i], a, h) = some (some (.int i), a, h) := Rn_ireti c58_22
theorem c59_0 : mcode 59 0 = some (.iload_n 1, 1, 0, 0, 0) := rfl
theorem r59_0 : Rn 59 (0, [x0, some (.int i), x2], st, a, h) = Rn 59 (1, [x0, some (.int i), x2], .int i :: st, a, h) := Rn_go c59_0 rfl
theorem c59_1 : mcode 59 1 = some (.ifCond .lt 19, 3, 0, 0, 0) := rfl
theorem r59_1 : Rn 59 (1, [x0, x1, x2], .int i :: st, a, h) = if i < 0 then Rn 59 (20, [x0, x1, x2], st, a, h) else Rn 59 (4, [x0, x1, x2], st, a, h) := Rn_ifc c59_1 mc_lt rfl rfl
theorem c59_4 : mcode 59 4 = some (.iload_n 1, 1, 0, 0, 0) := rfl
theorem r59_4 : Rn 59 (4, [x0, some (.int i), x2], st, a, h) = Rn 59 (5, [x0, some (.int i), x2], .int i :: st, a, h) := Rn_go c59_4 rfl
theorem c59_5 : mcode 59 5 = some (.aload_n 0, 1, 0, 0, 0) := rfl
theorem r59_5 : Rn 59 (5, [some (.ref q), x1, x2], st, a, h) = Rn 59 (6, [some (.ref q), x1, x2], .ref q :: st, a, h) := Rn_go c59_5 rfl
theorem c59_6 : mcode 59 6 = some (.getfield 21, 3, 4, 2, 0) := rfl
theorem r59_6 : Rn 59 (6, [x0, x1, x2], .ref q :: st, a, h) = Kv 59 9 [x0, x1, x2] st a h (mgf h q 4 2) := Rn_getf c59_6 rfl
theorem c59_9 : mcode 59 9 = some (.arraylength, 1, 0, 0, 0) := rfl
theorem r59_9 : Rn 59 (9, [x0, x1, x2], .ref q :: st, a, h) = Ki 59 10 [x0, x1, x2] st a h (mlen h q) := Rn_alen c59_9 rfl
theorem c59_10 : mcode 59 10 = some (.if_icmp .ge 10, 3, 0, 0, 0) := rfl
theorem r59_10 : Rn 59 (10, [x0, x1, x2], .int j :: .int i :: st, a, h) = if i < j then Rn 59 (13, [x0, x1, x2], st, a, h) else Rn 59 (20, [x0, x1, x2], st, a, h) := Rn_icmpn c59_10 mc_ge rfl rfl
theorem c59_13 : mcode 59 13 = some (.aload_n 0, 1, 0, 0, 0) := rfl
theorem r59_13 : Rn 59 (13, [some (.ref q), x1, x2], st, a, h) = Rn 59 (14, [some (.ref q), x1, x2], .ref q :: st, a, h) := Rn_go c59_13 rfl
theorem c59_14 : mcode 59 14 = some (.getfield 21, 3, 4, 2, 0) := rfl
theorem r59_14 : Rn 59 (14, [x0, x1, x2], .ref q :: st, a, h) = Kv 59 17 [x0, x1, x2] st a h (mgf h q 4 2) := Rn_getf c59_14 rfl
theorem c59_17 : mcode 59 17 = some (.iload_n 1, 1, 0, 0, 0) := rfl
theorem r59_17 : Rn 59 (17, [x0, some (.int i), x2], st, a, h) = Rn 59 (18, [x0, some (.int i), x2], .int i :: st, a, h) := Rn_go c59_17 rfl
theorem c59_18 : mcode 59 18 = some (.iload_n 2, 1, 0, 0, 0) := rfl
theorem r59_18 : Rn 59 (18, [x0, x1, some (.int i)], st, a, h) = Rn 59 (19, [x0, x1, some (.int i)], .int i :: st, a, h) := Rn_go c59_18 rfl
theorem c59_19 : mcode 59 19 = some (.iastore, 1, 0, 0, 0) := rfl
theorem r59_19 : Rn 59 (19, [x0, x1, x2], .int j :: .int i :: .ref q :: st, a, h) = Kh 59 20 [x0, x1, x2] st a (mias h q i j) := Rn_iast c59_19 rfl
theorem c59_20 : mcode 59 20 = some (.return_, 1, 0, 0, 0) := rfl
theorem r59_20 : Rn 59 (20, [x0, x1, x2], [], a, h) = some (none, a, h) := Rn_act c59_20
theorem c60_0 : mcode 60 0 = some (.iload_n 1, 1, 0, 0, 0) := rfl
theorem r60_0 : Rn 60 (0, [x0, some (.int i)], st, a, h) = Rn 60 (1, [x0, some (.int i)], .int i :: st, a, h) := Rn_go c60_0 rfl
theorem c60_1 : mcode 60 1 = some (.ifCond .lt 21, 3, 0, 0, 0) := rfl
theorem r60_1 : Rn 60 (1, [x0, x1], .int i :: st, a, h) = if i < 0 then Rn 60 (22, [x0, x1], st, a, h) else Rn 60 (4, [x0, x1], st, a, h) := Rn_ifc c60_1 mc_lt rfl rfl
theorem c60_4 : mcode 60 4 = some (.iload_n 1, 1, 0, 0, 0) := rfl
theorem r60_4 : Rn 60 (4, [x0, some (.int i)], st, a, h) = Rn 60 (5, [x0, some (.int i)], .int i :: st, a, h) := Rn_go c60_4 rfl
theorem c60_5 : mcode 60 5 = some (.aload_n 0, 1, 0, 0, 0) := rfl
theorem r60_5 : Rn 60 (5, [some (.ref q), x1], st, a, h) = Rn 60 (6, [some (.ref q), x1], .ref q :: st, a, h) := Rn_go c60_5 rfl
theorem c60_6 : mcode 60 6 = some (.getfield 21, 3, 4, 2, 0) := rfl
theorem r60_6 : Rn 60 (6, [x0, x1], .ref q :: st, a, h) = Kv 60 9 [x0, x1] st a h (mgf h q 4 2) := Rn_getf c60_6 rfl
theorem c60_9 : mcode 60 9 = some (.arraylength, 1, 0, 0, 0) := rfl
theorem r60_9 : Rn 60 (9, [x0, x1], .ref q :: st, a, h) = Ki 60 10 [x0, x1] st a h (mlen h q) := Rn_alen c60_9 rfl
theorem c60_10 : mcode 60 10 = some (.if_icmp .ge 12, 3, 0, 0, 0) := rfl
theorem r60_10 : Rn 60 (10, [x0, x1], .int j :: .int i :: st, a, h) = if i < j then Rn 60 (13, [x0, x1], st, a, h) else Rn 60 (22, [x0, x1], st, a, h) := Rn_icmpn c60_10 mc_ge rfl rfl
theorem c60_13 : mcode 60 13 = some (.aload_n 0, 1, 0, 0, 0) := rfl
theorem r60_13 : Rn 60 (13, [some (.ref q), x1], st, a, h) = Rn 60 (14, [some (.ref q), x1], .ref q :: st, a, h) := Rn_go c60_13 rfl
theorem c60_14 : mcode 60 14 = some (.getfield 21, 3, 4, 2, 0) := rfl
theorem r60_14 : Rn 60 (14, [x0, x1], .ref q :: st, a, h) = Kv 60 17 [x0, x1] st a h (mgf h q 4 2) := Rn_getf c60_14 rfl
theorem c60_17 : mcode 60 17 = some (.iload_n 1, 1, 0, 0, 0) := rfl
theorem r60_17 : Rn 60 (17, [x0, some (.int i)], st, a, h) = Rn 60 (18, [x0, some (.int i)], .int i :: st, a, h) := Rn_go c60_17 rfl
theorem c60_18 : mcode 60 18 = some (.iaload, 1, 0, 0, 0) := rfl
theorem r60_18 : Rn 60 (18, [x0, x1], .int i :: .ref q :: st, a, h) = Ki 60 19 [x0, x1] st a h (mld h q i false) := Rn_iald c60_18 rfl
theorem c60_19 : mcode 60 19 = some (.goto 4, 3, 0, 0, 0) := rfl
theorem r60_19 : Rn 60 (19, [x0, x1], st, a, h) = Rn 60 (23, [x0, x1], st, a, h) := Rn_goto c60_19 rfl
theorem c60_22 : mcode 60 22 = some (.iconst (-1), 1, 0, 0, 0) := rfl
theorem r60_22 : Rn 60 (22, [x0, x1], st, a, h) = Rn 60 (23, [x0, x1], .int (-1 : Int32) :: st, a, h) := Rn_go c60_22 rfl
theorem c60_23 : mcode 60 23 = some (.ireturn, 1, 0, 0, 0) := rfl
theorem r60_23 : Rn 60 (23, [x0, x1], [.int i], a, h) = some (some (.int i), a, h) := Rn_ireti c60_23
theorem c61_0 : mcode 61 0 = some (.iconst 0, 1, 0, 0, 0) := rfl
theorem r61_0 : Rn 61 (0, [x0, x1, x2], st, a, h) = Rn 61 (1, [x0, x1, x2], .int (0 : Int32) :: st, a, h) := Rn_go c61_0 rfl
theorem c61_1 : mcode 61 1 = some (.istore_n 1, 1, 0, 0, 0) := rfl
theorem r61_1 : Rn 61 (1, [x0, x1, x2], .int i :: st, a, h) = Nl x0 (Rn 61 (2, [x0, some (.int i), x2], st, a, h)) := Rn_st1 (k := 1) (v := .int i) x0 c61_1 rfl rfl rfl rfl
theorem c61_2 : mcode 61 2 = some (.iconst 0, 1, 0, 0, 0) := rfl
theorem r61_2 : Rn 61 (2, [x0, x1, x2], st, a, h) = Rn 61 (3, [x0, x1, x2], .int (0 : Int32) :: st, a, h) := Rn_go c61_2 rfl
theorem c61_3 : mcode 61 3 = some (.istore_n 2, 1, 0, 0, 0) := rfl
theorem r61_3 : Rn 61 (3, [x0, x1, x2], .int i :: st, a, h) = Nl x1 (Rn 61 (4, [x0, x1, some (.int i)], st, a, h)) := Rn_st1 (k := 2) (v := .int i) x1 c61_3 rfl rfl rfl rfl
theorem c61_4 : mcode 61 4 = some (.iload_n 2, 1, 0, 0, 0) := rfl
theorem r61_4 : Rn 61 (4, [x0, x1, some (.int i)], st, a, h) = Rn 61 (5, [x0, x1, some (.int i)], .int i :: st, a, h) := Rn_go c61_4 rfl
theorem c61_5 : mcode 61 5 = some (.aload_n 0, 1, 0, 0, 0) := rfl
theorem r61_5 : Rn 61 (5, [some (.ref q), x1, x2], st, a, h) = Rn 61 (6, [some (.ref q), x1, x2], .ref q :: st, a, h) := Rn_go c61_5 rfl
theorem c61_6 : mcode 61 6 = some (.getfield 21, 3, 4, 2, 0) := rfl
theorem r61_6 : Rn 61 (6, [x0, x1, x2], .ref q :: st, a, h) = Kv 61 9 [x0, x1, x2] st a h (mgf h q 4 2) := Rn_getf c61_6 rfl
theorem c61_9 : mcode 61 9 = some (.arraylength, 1, 0, 0, 0) := rfl
theorem r61_9 : Rn 61 (9, [x0, x1, x2], .ref q :: st, a, h) = Ki 61 10 [x0, x1, x2] st a h (mlen h q) := Rn_alen c61_9 rfl
theorem c61_10 : mcode 61 10 = some (.if_icmp .ge 22, 3, 0, 0, 0) := rfl
theorem r61_10 : Rn 61 (10, [x0, x1, x2], .int j :: .int i :: st, a, h) = if i < j then Rn 61 (13, [x0, x1, x2], st, a, h) else Rn 61 (32, [x0, x1, x2], st, a, h) := Rn_icmpn c61_10 mc_ge rfl rfl
theorem c61_13 : mcode 61 13 = some (.aload_n 0, 1, 0, 0, 0) := rfl
theorem r61_13 : Rn 61 (13, [some (.ref q), x1, x2], st, a, h) = Rn 61 (14, [some (.ref q), x1, x2], .ref q :: st, a, h) := Rn_go c61_13 rfl
theorem c61_14 : mcode 61 14 = some (.getfield 21, 3, 4, 2, 0) := rfl
theorem r61_14 : Rn 61 (14, [x0, x1, x2], .ref q :: st, a, h) = Kv 61 17 [x0, x1, x2] st a h (mgf h q 4 2) := Rn_getf c61_14 rfl
theorem c61_17 : mcode 61 17 = some (.iload_n 2, 1, 0, 0, 0) := rfl
theorem r61_17 : Rn 61 (17, [x0, x1, some (.int i)], st, a, h) = Rn 61 (18, [x0, x1, some (.int i)], .int i :: st, a, h) := Rn_go c61_17 rfl
theorem c61_18 : mcode 61 18 = some (.iaload, 1, 0, 0, 0) := rfl
theorem r61_18 : Rn 61 (18, [x0, x1, x2], .int i :: .ref q :: st, a, h) = Ki 61 19 [x0, x1, x2] st a h (mld h q i false) := Rn_iald c61_18 rfl
theorem c61_19 : mcode 61 19 = some (.iconst (-1), 1, 0, 0, 0) := rfl
theorem r61_19 : Rn 61 (19, [x0, x1, x2], st, a, h) = Rn 61 (20, [x0, x1, x2], .int (-1 : Int32) :: st, a, h) := Rn_go c61_19 rfl
theorem c61_20 : mcode 61 20 = some (.if_icmp .eq 6, 3, 0, 0, 0) := rfl
theorem r61_20 : Rn 61 (20, [x0, x1, x2], .int j :: .int i :: st, a, h) = if i = j then Rn 61 (26, [x0, x1, x2], st, a, h) else Rn 61 (23, [x0, x1, x2], st, a, h) := Rn_icmp c61_20 mc_eq rfl rfl
theorem c61_23 : mcode 61 23 = some (.iinc 1 1, 3, 0, 0, 0) := rfl
theorem r61_23 : Rn 61 (23, [x0, some (.int i), x2], st, a, h) = Nl x0 (Rn 61 (26, [x0, some (.int (i + (1 : Int32))), x2], st, a, h)) := Rn_st1 (k := 1) (v := .int (i + (1 : Int32))) x0 c61_23 rfl rfl rfl rfl
theorem c61_26 : mcode 61 26 = some (.iinc 2 1, 3, 0, 0, 0) := rfl
theorem r61_26 : Rn 61 (26, [x0, x1, some (.int i)], st, a, h) = Nl x1 (Rn 61 (29, [x0, x1, some (.int (i + (1 : Int32)))], st, a, h)) := Rn_st1 (k := 2) (v := .int (i + (1 : Int32))) x1 c61_26 rfl rfl rfl rfl
theorem c61_29 : mcode 61 29 = some (.goto (-25), 3, 0, 0, 0) := rfl
theorem r61_29 : Rn 61 (29, [x0, x1, x2], st, a, h) = Rn 61 (4, [x0, x1, x2], st, a, h) := Rn_goto c61_29 rfl
theorem c61_32 : mcode 61 32 = some (.iload_n 1, 1, 0, 0, 0) := rfl
theorem r61_32 : Rn 61 (32, [x0, some (.int i), x2], st, a, h) = Rn 61 (33, [x0, some (.int i), x2], .int i :: st, a, h) := Rn_go c61_32 rfl
theorem c61_33 : mcode 61 33 = some (.ireturn, 1, 0, 0, 0) := rfl
theorem r61_33 : Rn 61 (33, [x0, x1, x2], [.int i], a, h) = some (some (.int i), a, h) := Rn_ireti c61_33
theorem c226_0 : mcode 226 0 = some (.iload_n 0, 1, 0, 0, 0) := rfl
theorem r226_0 : Rn 226 (0, [some (.int i)], st, a, h) = Rn 226 (1, [some (.int i)], .int i :: st, a, h) := Rn_go c226_0 rfl
theorem c226_1 : mcode 226 1 = some (.iload_n 0, 1, 0, 0, 0) := rfl
theorem r226_1 : Rn 226 (1, [some (.int i)], st, a, h) = Rn 226 (2, [some (.int i)], .int i :: st, a, h) := Rn_go c226_1 rfl
theorem c226_2 : mcode 226 2 = some (.iconst 1, 1, 0, 0, 0) := rfl
theorem r226_2 : Rn 226 (2, [x0], st, a, h) = Rn 226 (3, [x0], .int (1 : Int32) :: st, a, h) := Rn_go c226_2 rfl
theorem c226_3 : mcode 226 3 = some (.iushr, 1, 0, 0, 0) := rfl
theorem r226_3 : Rn 226 (3, [x0], .int j :: .int i :: st, a, h) = Rn 226 (4, [x0], .int ((i.toUInt32 >>> (j.toUInt32 &&& Int32.toUInt32 31)).toInt32) :: st, a, h) := Rn_go c226_3 rfl
theorem c226_4 : mcode 226 4 = some (.ldc_w 265, 3, 0, 0, 1431655765) := rfl
theorem r226_4 : Rn 226 (4, [x0], st, a, h) = Rn 226 (7, [x0], .int (1431655765 : Int32) :: st, a, h) := Rn_go c226_4 rfl
theorem c226_7 : mcode 226 7 = some (.iand, 1, 0, 0, 0) := rfl
theorem r226_7 : Rn 226 (7, [x0], .int j :: .int i :: st, a, h) = Rn 226 (8, [x0], .int (i &&& j) :: st, a, h) := Rn_go c226_7 rfl
theorem c226_8 : mcode 226 8 = some (.isub, 1, 0, 0, 0) := rfl
theorem r226_8 : Rn 226 (8, [x0], .int j :: .int i :: st, a, h) = Rn 226 (9, [x0], .int (i - j) :: st, a, h) := Rn_go c226_8 rfl
theorem c226_9 : mcode 226 9 = some (.istore_n 0, 1, 0, 0, 0) := rfl
theorem r226_9 : Rn 226 (9, [x0], .int i :: st, a, h) = Nl none (Rn 226 (10, [some (.int i)], st, a, h)) := Rn_st1 (k := 0) (v := .int i) none c226_9 rfl rfl rfl rfl
theorem c226_10 : mcode 226 10 = some (.iload_n 0, 1, 0, 0, 0) := rfl
theorem r226_10 : Rn 226 (10, [some (.int i)], st, a, h) = Rn 226 (11, [some (.int i)], .int i :: st, a, h) := Rn_go c226_10 rfl
theorem c226_11 : mcode 226 11 = some (.ldc_w 266, 3, 0, 0, 858993459) := rfl
theorem r226_11 : Rn 226 (11, [x0], st, a, h) = Rn 226 (14, [x0], .int (858993459 : Int32) :: st, a, h) := Rn_go c226_11 rfl
theorem c226_14 : mcode 226 14 = some (.iand, 1, 0, 0, 0) := rfl
theorem r226_14 : Rn 226 (14, [x0], .int j :: .int i :: st, a, h) = Rn 226 (15, [x0], .int (i &&& j) :: st, a, h) := Rn_go c226_14 rfl
theorem c226_15 : mcode 226 15 = some (.iload_n 0, 1, 0, 0, 0) := rfl
theorem r226_15 : Rn 226 (15, [some (.int i)], st, a, h) = Rn 226 (16, [some (.int i)], .int i :: st, a, h) := Rn_go c226_15 rfl
theorem c226_16 : mcode 226 16 = some (.iconst 2, 1, 0, 0, 0) := rfl
theorem r226_16 : Rn 226 (16, [x0], st, a, h) = Rn 226 (17, [x0], .int (2 : Int32) :: st, a, h) := Rn_go c226_16 rfl
theorem c226_17 : mcode 226 17 = some (.iushr, 1, 0, 0, 0) := rfl
theorem r226_17 : Rn 226 (17, [x0], .int j :: .int i :: st, a, h) = Rn 226 (18, [x0], .int ((i.toUInt32 >>> (j.toUInt32 &&& Int32.toUInt32 31)).toInt32) :: st, a, h) := Rn_go c226_17 rfl
theorem c226_18 : mcode 226 18 = some (.ldc_w 266, 3, 0, 0, 858993459) := rfl
theorem r226_18 : Rn 226 (18, [x0], st, a, h) = Rn 226 (21, [x0], .int (858993459 : Int32) :: st, a, h) := Rn_go c226_18 rfl
theorem c226_21 : mcode 226 21 = some (.iand, 1, 0, 0, 0) := rfl
theorem r226_21 : Rn 226 (21, [x0], .int j :: .int i :: st, a, h) = Rn 226 (22, [x0], .int (i &&& j) :: st, a, h) := Rn_go c226_21 rfl
theorem c226_22 : mcode 226 22 = some (.iadd, 1, 0, 0, 0) := rfl
theorem r226_22 : Rn 226 (22, [x0], .int j :: .int i :: st, a, h) = Rn 226 (23, [x0], .int (i + j) :: st, a, h) := Rn_go c226_22 rfl
theorem c226_23 : mcode 226 23 = some (.istore_n 0, 1, 0, 0, 0) := rfl
theorem r226_23 : Rn 226 (23, [x0], .int i :: st, a, h) = Nl none (Rn 226 (24, [some (.int i)], st, a, h)) := Rn_st1 (k := 0) (v := .int i) none c226_23 rfl rfl rfl rfl
theorem c226_24 : mcode 226 24 = some (.iload_n 0, 1, 0, 0, 0) := rfl
theorem r226_24 : Rn 226 (24, [some (.int i)], st, a, h) = Rn 226 (25, [some (.int i)], .int i :: st, a, h) := Rn_go c226_24 rfl
theorem c226_25 : mcode 226 25 = some (.iload_n 0, 1, 0, 0, 0) := rfl
theorem r226_25 : Rn 226 (25, [some (.int i)], st, a, h) = Rn 226 (26, [some (.int i)], .int i :: st, a, h) := Rn_go c226_25 rfl
theorem c226_26 : mcode 226 26 = some (.iconst 4, 1, 0, 0, 0) := rfl
theorem r226_26 : Rn 226 (26, [x0], st, a, h) = Rn 226 (27, [x0], .int (4 : Int32) :: st, a, h) := Rn_go c226_26 rfl
theorem c226_27 : mcode 226 27 = some (.iushr, 1, 0, 0, 0) := rfl
theorem r226_27 : Rn 226 (27, [x0], .int j :: .int i :: st, a, h) = Rn 226 (28, [x0], .int ((i.toUInt32 >>> (j.toUInt32 &&& Int32.toUInt32 31)).toInt32) :: st, a, h) := Rn_go c226_27 rfl
theorem c226_28 : mcode 226 28 = some (.iadd, 1, 0, 0, 0) := rfl
theorem r226_28 : Rn 226 (28, [x0], .int j :: .int i :: st, a, h) = Rn 226 (29, [x0], .int (i + j) :: st, a, h) := Rn_go c226_28 rfl
theorem c226_29 : mcode 226 29 = some (.ldc_w 267, 3, 0, 0, 252645135) := rfl
theorem r226_29 : Rn 226 (29, [x0], st, a, h) = Rn 226 (32, [x0], .int (252645135 : Int32) :: st, a, h) := Rn_go c226_29 rfl
theorem c226_32 : mcode 226 32 = some (.iand, 1, 0, 0, 0) := rfl
theorem r226_32 : Rn 226 (32, [x0], .int j :: .int i :: st, a, h) = Rn 226 (33, [x0], .int (i &&& j) :: st, a, h) := Rn_go c226_32 rfl
theorem c226_33 : mcode 226 33 = some (.istore_n 0, 1, 0, 0, 0) := rfl
theorem r226_33 : Rn 226 (33, [x0], .int i :: st, a, h) = Nl none (Rn 226 (34, [some (.int i)], st, a, h)) := Rn_st1 (k := 0) (v := .int i) none c226_33 rfl rfl rfl rfl
theorem c226_34 : mcode 226 34 = some (.iload_n 0, 1, 0, 0, 0) := rfl
theorem r226_34 : Rn 226 (34, [some (.int i)], st, a, h) = Rn 226 (35, [some (.int i)], .int i :: st, a, h) := Rn_go c226_34 rfl
theorem c226_35 : mcode 226 35 = some (.iload_n 0, 1, 0, 0, 0) := rfl
theorem r226_35 : Rn 226 (35, [some (.int i)], st, a, h) = Rn 226 (36, [some (.int i)], .int i :: st, a, h) := Rn_go c226_35 rfl
theorem c226_36 : mcode 226 36 = some (.bipush 8, 2, 0, 0, 0) := rfl
theorem r226_36 : Rn 226 (36, [x0], st, a, h) = Rn 226 (38, [x0], .int (8 : Int32) :: st, a, h) := Rn_go c226_36 rfl
theorem c226_38 : mcode 226 38 = some (.iushr, 1, 0, 0, 0) := rfl
theorem r226_38 : Rn 226 (38, [x0], .int j :: .int i :: st, a, h) = Rn 226 (39, [x0], .int ((i.toUInt32 >>> (j.toUInt32 &&& Int32.toUInt32 31)).toInt32) :: st, a, h) := Rn_go c226_38 rfl
theorem c226_39 : mcode 226 39 = some (.iadd, 1, 0, 0, 0) := rfl
theorem r226_39 : Rn 226 (39, [x0], .int j :: .int i :: st, a, h) = Rn 226 (40, [x0], .int (i + j) :: st, a, h) := Rn_go c226_39 rfl
theorem c226_40 : mcode 226 40 = some (.istore_n 0, 1, 0, 0, 0) := rfl
theorem r226_40 : Rn 226 (40, [x0], .int i :: st, a, h) = Nl none (Rn 226 (41, [some (.int i)], st, a, h)) := Rn_st1 (k := 0) (v := .int i) none c226_40 rfl rfl rfl rfl
theorem c226_41 : mcode 226 41 = some (.iload_n 0, 1, 0, 0, 0) := rfl
theorem r226_41 : Rn 226 (41, [some (.int i)], st, a, h) = Rn 226 (42, [some (.int i)], .int i :: st, a, h) := Rn_go c226_41 rfl
theorem c226_42 : mcode 226 42 = some (.iload_n 0, 1, 0, 0, 0) := rfl
theorem r226_42 : Rn 226 (42, [some (.int i)], st, a, h) = Rn 226 (43, [some (.int i)], .int i :: st, a, h) := Rn_go c226_42 rfl
theorem c226_43 : mcode 226 43 = some (.bipush 16, 2, 0, 0, 0) := rfl
theorem r226_43 : Rn 226 (43, [x0], st, a, h) = Rn 226 (45, [x0], .int (16 : Int32) :: st, a, h) := Rn_go c226_43 rfl
theorem c226_45 : mcode 226 45 = some (.iushr, 1, 0, 0, 0) := rfl
theorem r226_45 : Rn 226 (45, [x0], .int j :: .int i :: st, a, h) = Rn 226 (46, [x0], .int ((i.toUInt32 >>> (j.toUInt32 &&& Int32.toUInt32 31)).toInt32) :: st, a, h) := Rn_go c226_45 rfl
theorem c226_46 : mcode 226 46 = some (.iadd, 1, 0, 0, 0) := rfl
theorem r226_46 : Rn 226 (46, [x0], .int j :: .int i :: st, a, h) = Rn 226 (47, [x0], .int (i + j) :: st, a, h) := Rn_go c226_46 rfl
theorem c226_47 : mcode 226 47 = some (.istore_n 0, 1, 0, 0, 0) := rfl
theorem r226_47 : Rn 226 (47, [x0], .int i :: st, a, h) = Nl none (Rn 226 (48, [some (.int i)], st, a, h)) := Rn_st1 (k := 0) (v := .int i) none c226_47 rfl rfl rfl rfl
theorem c226_48 : mcode 226 48 = some (.iload_n 0, 1, 0, 0, 0) := rfl
theorem r226_48 : Rn 226 (48, [some (.int i)], st, a, h) = Rn 226 (49, [some (.int i)], .int i :: st, a, h) := Rn_go c226_48 rfl
theorem c226_49 : mcode 226 49 = some (.bipush 63, 2, 0, 0, 0) := rfl
theorem r226_49 : Rn 226 (49, [x0], st, a, h) = Rn 226 (51, [x0], .int (63 : Int32) :: st, a, h) := Rn_go c226_49 rfl
theorem c226_51 : mcode 226 51 = some (.iand, 1, 0, 0, 0) := rfl
theorem r226_51 : Rn 226 (51, [x0], .int j :: .int i :: st, a, h) = Rn 226 (52, [x0], .int (i &&& j) :: st, a, h) := Rn_go c226_51 rfl
theorem c226_52 : mcode 226 52 = some (.ireturn, 1, 0, 0, 0) := rfl
theorem r226_52 : Rn 226 (52, [x0], [.int i], a, h) = some (some (.int i), a, h) := Rn_ireti c226_52
theorem c227_0 : mcode 227 0 = some (.iload_n 0, 1, 0, 0, 0) := rfl
theorem r227_0 : Rn 227 (0, [some (.int i), x1], st, a, h) = Rn 227 (1, [some (.int i), x1], .int i :: st, a, h) := Rn_go c227_0 rfl
theorem c227_1 : mcode 227 1 = some (.iload_n 1, 1, 0, 0, 0) := rfl
theorem r227_1 : Rn 227 (1, [x0, some (.int i)], st, a, h) = Rn 227 (2, [x0, some (.int i)], .int i :: st, a, h) := Rn_go c227_1 rfl
theorem c227_2 : mcode 227 2 = some (.if_icmp .lt 7, 3, 0, 0, 0) := rfl
theorem r227_2 : Rn 227 (2, [x0, x1], .int j :: .int i :: st, a, h) = if i < j then Rn 227 (9, [x0, x1], st, a, h) else Rn 227 (5, [x0, x1], st, a, h) := Rn_icmp c227_2 mc_lt rfl rfl
theorem c227_5 : mcode 227 5 = some (.iload_n 0, 1, 0, 0, 0) := rfl
theorem r227_5 : Rn 227 (5, [some (.int i), x1], st, a, h) = Rn 227 (6, [some (.int i), x1], .int i :: st, a, h) := Rn_go c227_5 rfl
theorem c227_6 : mcode 227 6 = some (.goto 4, 3, 0, 0, 0) := rfl
theorem r227_6 : Rn 227 (6, [x0, x1], st, a, h) = Rn 227 (10, [x0, x1], st, a, h) := Rn_goto c227_6 rfl
theorem c227_9 : mcode 227 9 = some (.iload_n 1, 1, 0, 0, 0) := rfl
theorem r227_9 : Rn 227 (9, [x0, some (.int i)], st, a, h) = Rn 227 (10, [x0, some (.int i)], .int i :: st, a, h) := Rn_go c227_9 rfl
theorem c227_10 : mcode 227 10 = some (.ireturn, 1, 0, 0, 0) := rfl
theorem r227_10 : Rn 227 (10, [x0, x1], [.int i], a, h) = some (some (.int i), a, h) := Rn_ireti c227_10
theorem c228_0 : mcode 228 0 = some (.iload_n 0, 1, 0, 0, 0) := rfl
theorem r228_0 : Rn 228 (0, [some (.int i), x1], st, a, h) = Rn 228 (1, [some (.int i), x1], .int i :: st, a, h) := Rn_go c228_0 rfl
theorem c228_1 : mcode 228 1 = some (.iload_n 1, 1, 0, 0, 0) := rfl
theorem r228_1 : Rn 228 (1, [x0, some (.int i)], st, a, h) = Rn 228 (2, [x0, some (.int i)], .int i :: st, a, h) := Rn_go c228_1 rfl
theorem c228_2 : mcode 228 2 = some (.if_icmp .gt 7, 3, 0, 0, 0) := rfl
theorem r228_2 : Rn 228 (2, [x0, x1], .int j :: .int i :: st, a, h) = if j < i then Rn 228 (9, [x0, x1], st, a, h) else Rn 228 (5, [x0, x1], st, a, h) := Rn_icmp c228_2 mc_gt rfl rfl
theorem c228_5 : mcode 228 5 = some (.iload_n 0, 1, 0, 0, 0) := rfl
theorem r228_5 : Rn 228 (5, [some (.int i), x1], st, a, h) = Rn 228 (6, [some (.int i), x1], .int i :: st, a, h) := Rn_go c228_5 rfl
theorem c228_6 : mcode 228 6 = some (.goto 4, 3, 0, 0, 0) := rfl
theorem r228_6 : Rn 228 (6, [x0, x1], st, a, h) = Rn 228 (10, [x0, x1], st, a, h) := Rn_goto c228_6 rfl
theorem c228_9 : mcode 228 9 = some (.iload_n 1, 1, 0, 0, 0) := rfl
theorem r228_9 : Rn 228 (9, [x0, some (.int i)], st, a, h) = Rn 228 (10, [x0, some (.int i)], .int i :: st, a, h) := Rn_go c228_9 rfl
theorem c228_10 : mcode 228 10 = some (.ireturn, 1, 0, 0, 0) := rfl
theorem r228_10 : Rn 228 (10, [x0, x1], [.int i], a, h) = some (some (.int i), a, h) := Rn_ireti c228_10
theorem c229_0 : mcode 229 0 = some (.aload_n 0, 1, 0, 0, 0) := rfl
theorem r229_0 : Rn 229 (0, [some (.ref q)], st, a, h) = Rn 229 (1, [some (.ref q)], .ref q :: st, a, h) := Rn_go c229_0 rfl
theorem c229_1 : mcode 229 1 = some (.getfield 9, 3, 7, 1, 0) := rfl
theorem r229_1 : Rn 229 (1, [x0], .ref q :: st, a, h) = Kv 229 4 [x0] st a h (mgf h q 7 1) := Rn_getf c229_1 rfl
theorem c229_4 : mcode 229 4 = some (.arraylength, 1, 0, 0, 0) := rfl
theorem r229_4 : Rn 229 (4, [x0], .ref q :: st, a, h) = Ki 229 5 [x0] st a h (mlen h q) := Rn_alen c229_4 rfl
theorem c229_5 : mcode 229 5 = some (.aload_n 0, 1, 0, 0, 0) := rfl
theorem r229_5 : Rn 229 (5, [some (.ref q)], st, a, h) = Rn 229 (6, [some (.ref q)], .ref q :: st, a, h) := Rn_go c229_5 rfl
theorem c229_6 : mcode 229 6 = some (.invokevirtual 335, 3, 231, 0, 7) := rfl
theorem r229_6 : Rn 229 (6, [x0], [.ref q, .int i0], a, h) = if mis h q 7 = true then Bk 229 9 [x0] [.int i0] (Ec 231 [.ref q] a h) else none := Rn_call1 c229_6 rfl (Nat.le_of_ble_eq_true rfl) rfl rfl (Nat.le_of_ble_eq_true rfl)
theorem c229_9 : mcode 229 9 = some (.ishr, 1, 0, 0, 0) := rfl
theorem r229_9 : Rn 229 (9, [x0], .int j :: .int i :: st, a, h) = Rn 229 (10, [x0], .int (i >>> (j &&& 31)) :: st, a, h) := Rn_go c229_9 rfl
theorem c229_10 : mcode 229 10 = some (.ireturn, 1, 0, 0, 0) := rfl
theorem r229_10 : Rn 229 (10, [x0], [.int i], a, h) = some (some (.int i), a, h) := Rn_ireti c229_10
theorem c230_0 : mcode 230 0 = some (.aload_n 0, 1, 0, 0, 0) := rfl
theorem r230_0 : Rn 230 (0, [some (.ref q), x1], st, a, h) = Rn 230 (1, [some (.ref q), x1], .ref q :: st, a, h) := Rn_go c230_0 rfl
theorem c230_1 : mcode 230 1 = some (.invokevirtual 492, 3, 232, 0, 7) := rfl
theorem r230_1 : Rn 230 (1, [x0, x1], [.ref q], a, h) = if mis h q 7 = true then Bk 230 4 [x0, x1] [] (Ec 232 [.ref q] a h) else none := Rn_call1 c230_1 rfl (Nat.le_of_ble_eq_true rfl) rfl rfl (Nat.le_of_ble_eq_true rfl)
theorem c230_4 : mcode 230 4 = some (.ifCond .eq 12, 3, 0, 0, 0) := rfl
theorem r230_4 : Rn 230 (4, [x0, x1], .int i :: st, a, h) = if i = 0 then Rn 230 (16, [x0, x1], st, a, h) else Rn 230 (7, [x0, x1], st, a, h) := Rn_ifc c230_4 mc_eq rfl rfl
theorem c230_7 : mcode 230 7 = some (.aload_n 0, 1, 0, 0, 0) := rfl
theorem r230_7 : Rn 230 (7, [some (.ref q), x1], st, a, h) = Rn 230 (8, [some (.ref q), x1], .ref q :: st, a, h) := Rn_go c230_7 rfl
theorem c230_8 : mcode 230 8 = some (.getfield 9, 3, 7, 1, 0) := rfl
theorem r230_8 : Rn 230 (8, [x0, x1], .ref q :: st, a, h) = Kv 230 11 [x0, x1] st a h (mgf h q 7 1) := Rn_getf c230_8 rfl
theorem c230_11 : mcode 230 11 = some (.iload_n 1, 1, 0, 0, 0) := rfl
theorem r230_11 : Rn 230 (11, [x0, some (.int i)], st, a, h) = Rn 230 (12, [x0, some (.int i)], .int i :: st, a, h) := Rn_go c230_11 rfl
theorem c230_12 : mcode 230 12 = some (.invokestatic 495, 3, 234, 2, 0) := rfl
theorem r230_12 : Rn 230 (12, [x0, x1], [v1, v0], a, h) = Bk 230 15 [x0, x1] [] (Ec 234 [v0, v1] a h) := Rn_call0 c230_12 (fun z => nomatch z) rfl (Nat.le_of_ble_eq_true rfl) rfl rfl (Nat.le_of_ble_eq_true rfl)
theorem c230_15 : mcode 230 15 = some (.ireturn, 1, 2, 0, 0) := rfl
theorem r230_15 : Rn 230 (15, [x0, x1], [.int i], a, h) = if mrt 2 i = true then some (some (.int i), a, h) else none := Rn_iretz c230_15
theorem c230_16 : mcode 230 16 = some (.aload_n 0, 1, 0, 0, 0) := rfl
theorem r230_16 : Rn 230 (16, [some (.ref q), x1], st, a, h) = Rn 230 (17, [some (.ref q), x1], .ref q :: st, a, h) := Rn_go c230_16 rfl
theorem c230_17 : mcode 230 17 = some (.getfield 9, 3, 7, 1, 0) := rfl
theorem r230_17 : Rn 230 (17, [x0, x1], .ref q :: st, a, h) = Kv 230 20 [x0, x1] st a h (mgf h q 7 1) := Rn_getf c230_17 rfl
theorem c230_20 : mcode 230 20 = some (.iload_n 1, 1, 0, 0, 0) := rfl
theorem r230_20 : Rn 230 (20, [x0, some (.int i)], st, a, h) = Rn 230 (21, [x0, some (.int i)], .int i :: st, a, h) := Rn_go c230_20 rfl
theorem c231_0 : mcode 231 0 = some (.getstatic 38, 3, 1, 0, 0) := rfl
theorem r231_0 : Rn 231 (0, [x0], st, a, h) = Rn 231 (3, [x0], .int 1 :: st, a, h) := Rn_go c231_0 rfl
theorem c231_3 : mcode 231 3 = some (.ifCond .eq 10, 3, 0, 0, 0) := rfl
theorem r231_3 : Rn 231 (3, [x0], .int i :: st, a, h) = if i = 0 then Rn 231 (13, [x0], st, a, h) else Rn 231 (6, [x0], st, a, h) := Rn_ifc c231_3 mc_eq rfl rfl
theorem c231_6 : mcode 231 6 = some (.aload_n 0, 1, 0, 0, 0) := rfl
theorem r231_6 : Rn 231 (6, [some (.ref q)], st, a, h) = Rn 231 (7, [some (.ref q)], .ref q :: st, a, h) := Rn_go c231_6 rfl
theorem c231_7 : mcode 231 7 = some (.getfield 15, 3, 7, 0, 0) := rfl
theorem r231_7 : Rn 231 (7, [x0], .ref q :: st, a, h) = Kv 231 10 [x0] st a h (mgf h q 7 0) := Rn_getf c231_7 rfl
theorem c231_10 : mcode 231 10 = some (.goto 4, 3, 0, 0, 0) := rfl
theorem r231_10 : Rn 231 (10, [x0], st, a, h) = Rn 231 (14, [x0], st, a, h) := Rn_goto c231_10 rfl
theorem c231_13 : mcode 231 13 = some (.iconst 1, 1, 0, 0, 0) := rfl
theorem r231_13 : Rn 231 (13, [x0], st, a, h) = Rn 231 (14, [x0], .int (1 : Int32) :: st, a, h) := Rn_go c231_13 rfl
theorem c231_14 : mcode 231 14 = some (.ireturn, 1, 3, 0, 0) := rfl
theorem r231_14 : Rn 231 (14, [x0], [.int i], a, h) = if mrt 3 i = true then some (some (.int i), a, h) else none := Rn_iretz c231_14
theorem c232_0 : mcode 232 0 = some (.getstatic 38, 3, 1, 0, 0) := rfl
theorem r232_0 : Rn 232 (0, [x0], st, a, h) = Rn 232 (3, [x0], .int 1 :: st, a, h) := Rn_go c232_0 rfl
theorem c232_3 : mcode 232 3 = some (.ifCond .eq 14, 3, 0, 0, 0) := rfl
theorem r232_3 : Rn 232 (3, [x0], .int i :: st, a, h) = if i = 0 then Rn 232 (17, [x0], st, a, h) else Rn 232 (6, [x0], st, a, h) := Rn_ifc c232_3 mc_eq rfl rfl
theorem c232_6 : mcode 232 6 = some (.aload_n 0, 1, 0, 0, 0) := rfl
theorem r232_6 : Rn 232 (6, [some (.ref q)], st, a, h) = Rn 232 (7, [some (.ref q)], .ref q :: st, a, h) := Rn_go c232_6 rfl
theorem c232_7 : mcode 232 7 = some (.getfield 15, 3, 7, 0, 0) := rfl
theorem r232_7 : Rn 232 (7, [x0], .ref q :: st, a, h) = Kv 232 10 [x0] st a h (mgf h q 7 0) := Rn_getf c232_7 rfl
theorem c232_10 : mcode 232 10 = some (.ifCond .ne 7, 3, 0, 0, 0) := rfl
theorem r232_10 : Rn 232 (10, [x0], .int i :: st, a, h) = if i = 0 then Rn 232 (13, [x0], st, a, h) else Rn 232 (17, [x0], st, a, h) := Rn_ifcn c232_10 mc_ne rfl rfl
theorem c232_13 : mcode 232 13 = some (.iconst 1, 1, 0, 0, 0) := rfl
theorem r232_13 : Rn 232 (13, [x0], st, a, h) = Rn 232 (14, [x0], .int (1 : Int32) :: st, a, h) := Rn_go c232_13 rfl
theorem c232_14 : mcode 232 14 = some (.goto 4, 3, 0, 0, 0) := rfl
theorem r232_14 : Rn 232 (14, [x0], st, a, h) = Rn 232 (18, [x0], st, a, h) := Rn_goto c232_14 rfl
theorem c232_17 : mcode 232 17 = some (.iconst 0, 1, 0, 0, 0) := rfl
theorem r232_17 : Rn 232 (17, [x0], st, a, h) = Rn 232 (18, [x0], .int (0 : Int32) :: st, a, h) := Rn_go c232_17 rfl
theorem c232_18 : mcode 232 18 = some (.ireturn, 1, 1, 0, 0) := rfl
theorem r232_18 : Rn 232 (18, [x0], [.int i], a, h) = if mrt 1 i = true then some (some (.int i), a, h) else none := Rn_iretz c232_18
theorem c233_0 : mcode 233 0 = some (.iload_n 0, 1, 0, 0, 0) := rfl
theorem r233_0 : Rn 233 (0, [some (.int i), x1], st, a, h) = Rn 233 (1, [some (.int i), x1], .int i :: st, a, h) := Rn_go c233_0 rfl
theorem c233_1 : mcode 233 1 = some (.iload_n 1, 1, 0, 0, 0) := rfl
theorem r233_1 : Rn 233 (1, [x0, some (.int i)], st, a, h) = Rn 233 (2, [x0, some (.int i)], .int i :: st, a, h) := Rn_go c233_1 rfl
theorem c233_2 : mcode 233 2 = some (.getstatic 1053, 3, 2, 0, 0) := rfl
theorem r233_2 : Rn 233 (2, [x0, x1], st, a, h) = Rn 233 (5, [x0, x1], .retAddr 0 :: st, a, h) := Rn_go c233_2 rfl
theorem c233_5 : mcode 233 5 = some (.invokestatic 1059, 3, 235, 3, 0) := rfl
theorem r233_5 : Rn 233 (5, [x0, x1], [v2, v1, v0], a, h) = Bk 233 8 [x0, x1] [] (Ec 235 [v0, v1, v2] a h) := Rn_call0 c233_5 (fun z => nomatch z) rfl (Nat.le_of_ble_eq_true rfl) rfl rfl (Nat.le_of_ble_eq_true rfl)
theorem c233_8 : mcode 233 8 = some (.pop, 1, 0, 0, 0) := rfl
theorem r233_8 : Rn 233 (8, [x0, x1], .int i :: st, a, h) = Rn 233 (9, [x0, x1], st, a, h) := Rn_go c233_8 rfl
theorem c233_9 : mcode 233 9 = some (.return_, 1, 0, 0, 0) := rfl
theorem r233_9 : Rn 233 (9, [x0, x1], [], a, h) = some (none, a, h) := Rn_act c233_9
theorem c234_0 : mcode 234 0 = some (.iload_n 1, 1, 0, 0, 0) := rfl
theorem r234_0 : Rn 234 (0, [x0, some (.int i)], st, a, h) = Rn 234 (1, [x0, some (.int i)], .int i :: st, a, h) := Rn_go c234_0 rfl
theorem c234_1 : mcode 234 1 = some (.aload_n 0, 1, 0, 0, 0) := rfl
theorem r234_1 : Rn 234 (1, [some (.ref q), x1], st, a, h) = Rn 234 (2, [some (.ref q), x1], .ref q :: st, a, h) := Rn_go c234_1 rfl
theorem c234_2 : mcode 234 2 = some (.arraylength, 1, 0, 0, 0) := rfl
theorem r234_2 : Rn 234 (2, [x0, x1], .ref q :: st, a, h) = Ki 234 3 [x0, x1] st a h (mlen h q) := Rn_alen c234_2 rfl
theorem c234_3 : mcode 234 3 = some (.invokestatic 9, 3, 233, 2, 0) := rfl
theorem r234_3 : Rn 234 (3, [x0, x1], [v1, v0], a, h) = Bk 234 6 [x0, x1] [] (Ec 233 [v0, v1] a h) := Rn_call0 c234_3 (fun z => nomatch z) rfl (Nat.le_of_ble_eq_true rfl) rfl rfl (Nat.le_of_ble_eq_true rfl)
theorem c234_6 : mcode 234 6 = some (.aload_n 0, 1, 0, 0, 0) := rfl
theorem r234_6 : Rn 234 (6, [some (.ref q), x1], st, a, h) = Rn 234 (7, [some (.ref q), x1], .ref q :: st, a, h) := Rn_go c234_6 rfl
theorem c234_7 : mcode 234 7 = some (.iload_n 1, 1, 0, 0, 0) := rfl
theorem r234_7 : Rn 234 (7, [x0, some (.int i)], st, a, h) = Rn 234 (8, [x0, some (.int i)], .int i :: st, a, h) := Rn_go c234_7 rfl
theorem c234_8 : mcode 234 8 = some (.baload, 1, 0, 0, 0) := rfl
theorem r234_8 : Rn 234 (8, [x0, x1], .int i :: .ref q :: st, a, h) = Ki 234 9 [x0, x1] st a h (mld h q i true) := Rn_bald c234_8 rfl
theorem c234_9 : mcode 234 9 = some (.sipush 255, 3, 0, 0, 0) := rfl
theorem r234_9 : Rn 234 (9, [x0, x1], st, a, h) = Rn 234 (12, [x0, x1], .int (255 : Int32) :: st, a, h) := Rn_go c234_9 rfl
theorem c234_12 : mcode 234 12 = some (.iand, 1, 0, 0, 0) := rfl
theorem r234_12 : Rn 234 (12, [x0, x1], .int j :: .int i :: st, a, h) = Rn 234 (13, [x0, x1], .int (i &&& j) :: st, a, h) := Rn_go c234_12 rfl
theorem c234_13 : mcode 234 13 = some (.i2c, 1, 0, 0, 0) := rfl
theorem r234_13 : Rn 234 (13, [x0, x1], .int i :: st, a, h) = Rn 234 (14, [x0, x1], .int (i.toUInt32 % 65536).toInt32 :: st, a, h) := Rn_go c234_13 rfl
theorem c234_14 : mcode 234 14 = some (.ireturn, 1, 2, 0, 0) := rfl
theorem r234_14 : Rn 234 (14, [x0, x1], [.int i], a, h) = if mrt 2 i = true then some (some (.int i), a, h) else none := Rn_iretz c234_14
theorem c235_0 : mcode 235 0 = some (.iload_n 0, 1, 0, 0, 0) := rfl
theorem r235_0 : Rn 235 (0, [some (.int i), x1, x2], st, a, h) = Rn 235 (1, [some (.int i), x1, x2], .int i :: st, a, h) := Rn_go c235_0 rfl
theorem c235_1 : mcode 235 1 = some (.ifCond .lt 8, 3, 0, 0, 0) := rfl
theorem r235_1 : Rn 235 (1, [x0, x1, x2], .int i :: st, a, h) = if i < 0 then Rn 235 (9, [x0, x1, x2], st, a, h) else Rn 235 (4, [x0, x1, x2], st, a, h) := Rn_ifc c235_1 mc_lt rfl rfl
theorem c235_4 : mcode 235 4 = some (.iload_n 0, 1, 0, 0, 0) := rfl
theorem r235_4 : Rn 235 (4, [some (.int i), x1, x2], st, a, h) = Rn 235 (5, [some (.int i), x1, x2], .int i :: st, a, h) := Rn_go c235_4 rfl
theorem c235_5 : mcode 235 5 = some (.iload_n 1, 1, 0, 0, 0) := rfl
theorem r235_5 : Rn 235 (5, [x0, some (.int i), x2], st, a, h) = Rn 235 (6, [x0, some (.int i), x2], .int i :: st, a, h) := Rn_go c235_5 rfl
theorem c235_6 : mcode 235 6 = some (.if_icmp .lt 10, 3, 0, 0, 0) := rfl
theorem r235_6 : Rn 235 (6, [x0, x1, x2], .int j :: .int i :: st, a, h) = if i < j then Rn 235 (16, [x0, x1, x2], st, a, h) else Rn 235 (9, [x0, x1, x2], st, a, h) := Rn_icmp c235_6 mc_lt rfl rfl
theorem c235_9 : mcode 235 9 = some (.aload_n 2, 1, 0, 0, 0) := rfl
theorem r235_9 : Rn 235 (9, [x0, x1, some (.ref q)], st, a, h) = Rn 235 (10, [x0, x1, some (.ref q)], .ref q :: st, a, h) := Rn_go c235_9 rfl
theorem c235_10 : mcode 235 10 = some (.iload_n 0, 1, 0, 0, 0) := rfl
theorem r235_10 : Rn 235 (10, [some (.int i), x1, x2], st, a, h) = Rn 235 (11, [some (.int i), x1, x2], .int i :: st, a, h) := Rn_go c235_10 rfl
theorem c235_11 : mcode 235 11 = some (.iload_n 1, 1, 0, 0, 0) := rfl
theorem r235_11 : Rn 235 (11, [x0, some (.int i), x2], st, a, h) = Rn 235 (12, [x0, some (.int i), x2], .int i :: st, a, h) := Rn_go c235_11 rfl
theorem c235_16 : mcode 235 16 = some (.iload_n 0, 1, 0, 0, 0) := rfl
theorem r235_16 : Rn 235 (16, [some (.int i), x1, x2], st, a, h) = Rn 235 (17, [some (.int i), x1, x2], .int i :: st, a, h) := Rn_go c235_16 rfl
theorem c235_17 : mcode 235 17 = some (.ireturn, 1, 0, 0, 0) := rfl
theorem r235_17 : Rn 235 (17, [x0, x1, x2], [.int i], a, h) = some (some (.int i), a, h) := Rn_ireti c235_17
end
