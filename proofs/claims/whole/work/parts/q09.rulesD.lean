section
variable {x0 x1 x2 x3 x4 x5 x6 x7 x8 x9 : Option Value} {i j k i0 i1 i2 i3 i4 i5 i6 : Int32} {p q q0 q1 q2 q3 q4 q5 : Nat} {l m l0 l1 l2 : Int64} {u v w v0 v1 v2 v3 v4 v5 : Value} {st : List Value} {a : MA} {h : MH}
theorem c236_0 : mcode 236 0 = some (.new 7, 3, 5, 0, 0) := rfl
theorem r236_0 {b c d : Nat} (hb : b < 999) : Rn 236 (0, [x0, x1, x2, x3], st, (b, c, d), h) = Rn 236 (3, [x0, x1, x2, x3], .ref b :: st, (b + 1, c + 1, d + 8), mup h b (.inr (.inr (5, mdf 5)))) := Rn_new c236_0 rfl hb
theorem c236_3 : mcode 236 3 = some (.dup, 1, 0, 0, 0) := rfl
theorem r236_3 : Rn 236 (3, [x0, x1, x2, x3], .ref q :: st, a, h) = Rn 236 (4, [x0, x1, x2, x3], .ref q :: .ref q :: st, a, h) := Rn_go c236_3 rfl
theorem c236_4 : mcode 236 4 = some (.invokespecial 9, 3, 62, 0, 0) := rfl
theorem r236_4 : Rn 236 (4, [x0, x1, x2, x3], [.ref q, .ref q0], a, h) = Bk 236 7 [x0, x1, x2, x3] [.ref q0] (Ec 62 [.ref q] a h) := Rn_call2 c236_4 (fun z => nomatch z) rfl (Nat.le_of_ble_eq_true rfl) rfl rfl (Nat.le_of_ble_eq_true rfl)
theorem c236_7 : mcode 236 7 = some (.astore_n 1, 1, 0, 0, 0) := rfl
theorem r236_7 : Rn 236 (7, [x0, x1, x2, x3], .ref q :: st, a, h) = Nl x0 (Rn 236 (8, [x0, some (.ref q), x2, x3], st, a, h)) := Rn_st1 (k := 1) (v := .ref q) x0 c236_7 rfl rfl rfl rfl
theorem c236_8 : mcode 236 8 = some (.new 10, 3, 6, 0, 0) := rfl
theorem r236_8 {b c d : Nat} (hb : b < 999) : Rn 236 (8, [x0, x1, x2, x3], st, (b, c, d), h) = Rn 236 (11, [x0, x1, x2, x3], .ref b :: st, (b + 1, c + 1, d + 18), mup h b (.inr (.inr (6, mdf 6)))) := Rn_new c236_8 rfl hb
theorem c236_11 : mcode 236 11 = some (.dup, 1, 0, 0, 0) := rfl
theorem r236_11 : Rn 236 (11, [x0, x1, x2, x3], .ref q :: st, a, h) = Rn 236 (12, [x0, x1, x2, x3], .ref q :: .ref q :: st, a, h) := Rn_go c236_11 rfl
theorem c236_12 : mcode 236 12 = some (.invokespecial 12, 3, 122, 0, 0) := rfl
theorem r236_12 : Rn 236 (12, [x0, x1, x2, x3], [.ref q, .ref q0], a, h) = Bk 236 15 [x0, x1, x2, x3] [.ref q0] (Ec 122 [.ref q] a h) := Rn_call2 c236_12 (fun z => nomatch z) rfl (Nat.le_of_ble_eq_true rfl) rfl rfl (Nat.le_of_ble_eq_true rfl)
theorem c236_15 : mcode 236 15 = some (.astore_n 2, 1, 0, 0, 0) := rfl
theorem r236_15 : Rn 236 (15, [x0, x1, x2, x3], .ref q :: st, a, h) = Nl x1 (Rn 236 (16, [x0, x1, some (.ref q), x3], st, a, h)) := Rn_st1 (k := 2) (v := .ref q) x1 c236_15 rfl rfl rfl rfl
theorem c236_16 : mcode 236 16 = some (.iconst 0, 1, 0, 0, 0) := rfl
theorem r236_16 : Rn 236 (16, [x0, x1, x2, x3], st, a, h) = Rn 236 (17, [x0, x1, x2, x3], .int (0 : Int32) :: st, a, h) := Rn_go c236_16 rfl
theorem c236_17 : mcode 236 17 = some (.istore_n 3, 1, 0, 0, 0) := rfl
theorem r236_17 : Rn 236 (17, [x0, x1, x2, x3], .int i :: st, a, h) = Nl x2 (Rn 236 (18, [x0, x1, x2, some (.int i)], st, a, h)) := Rn_st1 (k := 3) (v := .int i) x2 c236_17 rfl rfl rfl rfl
theorem c236_18 : mcode 236 18 = some (.iload_n 3, 1, 0, 0, 0) := rfl
theorem r236_18 : Rn 236 (18, [x0, x1, x2, some (.int i)], st, a, h) = Rn 236 (19, [x0, x1, x2, some (.int i)], .int i :: st, a, h) := Rn_go c236_18 rfl
theorem c236_19 : mcode 236 19 = some (.aload_n 0, 1, 0, 0, 0) := rfl
theorem r236_19 : Rn 236 (19, [some (.ref q), x1, x2, x3], st, a, h) = Rn 236 (20, [some (.ref q), x1, x2, x3], .ref q :: st, a, h) := Rn_go c236_19 rfl
theorem c236_20 : mcode 236 20 = some (.arraylength, 1, 0, 0, 0) := rfl
theorem r236_20 : Rn 236 (20, [x0, x1, x2, x3], .ref q :: st, a, h) = Ki 236 21 [x0, x1, x2, x3] st a h (mlen h q) := Rn_alen c236_20 rfl
theorem c236_21 : mcode 236 21 = some (.bipush 6, 2, 0, 0, 0) := rfl
theorem r236_21 : Rn 236 (21, [x0, x1, x2, x3], st, a, h) = Rn 236 (23, [x0, x1, x2, x3], .int (6 : Int32) :: st, a, h) := Rn_go c236_21 rfl
theorem c236_23 : mcode 236 23 = some (.isub, 1, 0, 0, 0) := rfl
theorem r236_23 : Rn 236 (23, [x0, x1, x2, x3], .int j :: .int i :: st, a, h) = Rn 236 (24, [x0, x1, x2, x3], .int (i - j) :: st, a, h) := Rn_go c236_23 rfl
theorem c236_24 : mcode 236 24 = some (.if_icmp .gt 1485, 3, 0, 0, 0) := rfl
theorem r236_24 : Rn 236 (24, [x0, x1, x2, x3], .int j :: .int i :: st, a, h) = if j < i then Rn 236 (1509, [x0, x1, x2, x3], st, a, h) else Rn 236 (27, [x0, x1, x2, x3], st, a, h) := Rn_icmp c236_24 mc_gt rfl rfl
theorem c236_27 : mcode 236 27 = some (.aload_n 0, 1, 0, 0, 0) := rfl
theorem r236_27 : Rn 236 (27, [some (.ref q), x1, x2, x3], st, a, h) = Rn 236 (28, [some (.ref q), x1, x2, x3], .ref q :: st, a, h) := Rn_go c236_27 rfl
theorem c236_28 : mcode 236 28 = some (.iload_n 3, 1, 0, 0, 0) := rfl
theorem r236_28 : Rn 236 (28, [x0, x1, x2, some (.int i)], st, a, h) = Rn 236 (29, [x0, x1, x2, some (.int i)], .int i :: st, a, h) := Rn_go c236_28 rfl
theorem c236_29 : mcode 236 29 = some (.iaload, 1, 0, 0, 0) := rfl
theorem r236_29 : Rn 236 (29, [x0, x1, x2, x3], .int i :: .ref q :: st, a, h) = Ki 236 30 [x0, x1, x2, x3] st a h (mld h q i false) := Rn_iald c236_29 rfl
theorem c236_30 : mcode 236 30 = some (.bipush 63, 2, 0, 0, 0) := rfl
theorem r236_30 : Rn 236 (30, [x0, x1, x2, x3], st, a, h) = Rn 236 (32, [x0, x1, x2, x3], .int (63 : Int32) :: st, a, h) := Rn_go c236_30 rfl
theorem c236_32 : mcode 236 32 = some (.iand, 1, 0, 0, 0) := rfl
theorem r236_32 : Rn 236 (32, [x0, x1, x2, x3], .int j :: .int i :: st, a, h) = Rn 236 (33, [x0, x1, x2, x3], .int (i &&& j) :: st, a, h) := Rn_go c236_32 rfl
theorem c236_33 : mcode 236 33 = some (.tableswitch 1470 0 41 #[183, 226, 259, 282, 315, 348, 381, 424, 447, 470, 513, 556, 579, 612, 635, 668, 701, 734, 767, 800, 833, 866, 909, 952, 985, 1008, 1042, 1065, 1098, 1111, 1124, 1157, 1190, 1233, 1276, 1339, 1362, 1385, 1398, 1411, 1424, 1447], 183, 0, 0, 0) := rfl
theorem r236_33_0 : Rn 236 (33, [x0, x1, x2, x3], .int (0 : Int32) :: st, a, h) = Rn 236 (216, [x0, x1, x2, x3], st, a, h) := Rn_swAt c236_33 rfl rfl
theorem r236_33_1 : Rn 236 (33, [x0, x1, x2, x3], .int (1 : Int32) :: st, a, h) = Rn 236 (259, [x0, x1, x2, x3], st, a, h) := Rn_swAt c236_33 rfl rfl
theorem r236_33_2 : Rn 236 (33, [x0, x1, x2, x3], .int (2 : Int32) :: st, a, h) = Rn 236 (292, [x0, x1, x2, x3], st, a, h) := Rn_swAt c236_33 rfl rfl
theorem r236_33_3 : Rn 236 (33, [x0, x1, x2, x3], .int (3 : Int32) :: st, a, h) = Rn 236 (315, [x0, x1, x2, x3], st, a, h) := Rn_swAt c236_33 rfl rfl
theorem r236_33_4 : Rn 236 (33, [x0, x1, x2, x3], .int (4 : Int32) :: st, a, h) = Rn 236 (348, [x0, x1, x2, x3], st, a, h) := Rn_swAt c236_33 rfl rfl
theorem r236_33_5 : Rn 236 (33, [x0, x1, x2, x3], .int (5 : Int32) :: st, a, h) = Rn 236 (381, [x0, x1, x2, x3], st, a, h) := Rn_swAt c236_33 rfl rfl
theorem r236_33_6 : Rn 236 (33, [x0, x1, x2, x3], .int (6 : Int32) :: st, a, h) = Rn 236 (414, [x0, x1, x2, x3], st, a, h) := Rn_swAt c236_33 rfl rfl
theorem r236_33_7 : Rn 236 (33, [x0, x1, x2, x3], .int (7 : Int32) :: st, a, h) = Rn 236 (457, [x0, x1, x2, x3], st, a, h) := Rn_swAt c236_33 rfl rfl
theorem r236_33_8 : Rn 236 (33, [x0, x1, x2, x3], .int (8 : Int32) :: st, a, h) = Rn 236 (480, [x0, x1, x2, x3], st, a, h) := Rn_swAt c236_33 rfl rfl
theorem r236_33_9 : Rn 236 (33, [x0, x1, x2, x3], .int (9 : Int32) :: st, a, h) = Rn 236 (503, [x0, x1, x2, x3], st, a, h) := Rn_swAt c236_33 rfl rfl
theorem r236_33_10 : Rn 236 (33, [x0, x1, x2, x3], .int (10 : Int32) :: st, a, h) = Rn 236 (546, [x0, x1, x2, x3], st, a, h) := Rn_swAt c236_33 rfl rfl
theorem r236_33_11 : Rn 236 (33, [x0, x1, x2, x3], .int (11 : Int32) :: st, a, h) = Rn 236 (589, [x0, x1, x2, x3], st, a, h) := Rn_swAt c236_33 rfl rfl
theorem r236_33_12 : Rn 236 (33, [x0, x1, x2, x3], .int (12 : Int32) :: st, a, h) = Rn 236 (612, [x0, x1, x2, x3], st, a, h) := Rn_swAt c236_33 rfl rfl
theorem r236_33_13 : Rn 236 (33, [x0, x1, x2, x3], .int (13 : Int32) :: st, a, h) = Rn 236 (645, [x0, x1, x2, x3], st, a, h) := Rn_swAt c236_33 rfl rfl
theorem r236_33_14 : Rn 236 (33, [x0, x1, x2, x3], .int (14 : Int32) :: st, a, h) = Rn 236 (668, [x0, x1, x2, x3], st, a, h) := Rn_swAt c236_33 rfl rfl
theorem r236_33_15 : Rn 236 (33, [x0, x1, x2, x3], .int (15 : Int32) :: st, a, h) = Rn 236 (701, [x0, x1, x2, x3], st, a, h) := Rn_swAt c236_33 rfl rfl
theorem r236_33_16 : Rn 236 (33, [x0, x1, x2, x3], .int (16 : Int32) :: st, a, h) = Rn 236 (734, [x0, x1, x2, x3], st, a, h) := Rn_swAt c236_33 rfl rfl
theorem r236_33_17 : Rn 236 (33, [x0, x1, x2, x3], .int (17 : Int32) :: st, a, h) = Rn 236 (767, [x0, x1, x2, x3], st, a, h) := Rn_swAt c236_33 rfl rfl
theorem r236_33_18 : Rn 236 (33, [x0, x1, x2, x3], .int (18 : Int32) :: st, a, h) = Rn 236 (800, [x0, x1, x2, x3], st, a, h) := Rn_swAt c236_33 rfl rfl
theorem r236_33_19 : Rn 236 (33, [x0, x1, x2, x3], .int (19 : Int32) :: st, a, h) = Rn 236 (833, [x0, x1, x2, x3], st, a, h) := Rn_swAt c236_33 rfl rfl
theorem r236_33_20 : Rn 236 (33, [x0, x1, x2, x3], .int (20 : Int32) :: st, a, h) = Rn 236 (866, [x0, x1, x2, x3], st, a, h) := Rn_swAt c236_33 rfl rfl
theorem r236_33_21 : Rn 236 (33, [x0, x1, x2, x3], .int (21 : Int32) :: st, a, h) = Rn 236 (899, [x0, x1, x2, x3], st, a, h) := Rn_swAt c236_33 rfl rfl
theorem r236_33_22 : Rn 236 (33, [x0, x1, x2, x3], .int (22 : Int32) :: st, a, h) = Rn 236 (942, [x0, x1, x2, x3], st, a, h) := Rn_swAt c236_33 rfl rfl
theorem r236_33_23 : Rn 236 (33, [x0, x1, x2, x3], .int (23 : Int32) :: st, a, h) = Rn 236 (985, [x0, x1, x2, x3], st, a, h) := Rn_swAt c236_33 rfl rfl
theorem r236_33_24 : Rn 236 (33, [x0, x1, x2, x3], .int (24 : Int32) :: st, a, h) = Rn 236 (1018, [x0, x1, x2, x3], st, a, h) := Rn_swAt c236_33 rfl rfl
theorem r236_33_25 : Rn 236 (33, [x0, x1, x2, x3], .int (25 : Int32) :: st, a, h) = Rn 236 (1041, [x0, x1, x2, x3], st, a, h) := Rn_swAt c236_33 rfl rfl
theorem r236_33_26 : Rn 236 (33, [x0, x1, x2, x3], .int (26 : Int32) :: st, a, h) = Rn 236 (1075, [x0, x1, x2, x3], st, a, h) := Rn_swAt c236_33 rfl rfl
theorem r236_33_27 : Rn 236 (33, [x0, x1, x2, x3], .int (27 : Int32) :: st, a, h) = Rn 236 (1098, [x0, x1, x2, x3], st, a, h) := Rn_swAt c236_33 rfl rfl
theorem r236_33_28 : Rn 236 (33, [x0, x1, x2, x3], .int (28 : Int32) :: st, a, h) = Rn 236 (1131, [x0, x1, x2, x3], st, a, h) := Rn_swAt c236_33 rfl rfl
theorem r236_33_29 : Rn 236 (33, [x0, x1, x2, x3], .int (29 : Int32) :: st, a, h) = Rn 236 (1144, [x0, x1, x2, x3], st, a, h) := Rn_swAt c236_33 rfl rfl
theorem r236_33_30 : Rn 236 (33, [x0, x1, x2, x3], .int (30 : Int32) :: st, a, h) = Rn 236 (1157, [x0, x1, x2, x3], st, a, h) := Rn_swAt c236_33 rfl rfl
theorem r236_33_31 : Rn 236 (33, [x0, x1, x2, x3], .int (31 : Int32) :: st, a, h) = Rn 236 (1190, [x0, x1, x2, x3], st, a, h) := Rn_swAt c236_33 rfl rfl
theorem r236_33_32 : Rn 236 (33, [x0, x1, x2, x3], .int (32 : Int32) :: st, a, h) = Rn 236 (1223, [x0, x1, x2, x3], st, a, h) := Rn_swAt c236_33 rfl rfl
theorem r236_33_33 : Rn 236 (33, [x0, x1, x2, x3], .int (33 : Int32) :: st, a, h) = Rn 236 (1266, [x0, x1, x2, x3], st, a, h) := Rn_swAt c236_33 rfl rfl
theorem r236_33_34 : Rn 236 (33, [x0, x1, x2, x3], .int (34 : Int32) :: st, a, h) = Rn 236 (1309, [x0, x1, x2, x3], st, a, h) := Rn_swAt c236_33 rfl rfl
theorem r236_33_35 : Rn 236 (33, [x0, x1, x2, x3], .int (35 : Int32) :: st, a, h) = Rn 236 (1372, [x0, x1, x2, x3], st, a, h) := Rn_swAt c236_33 rfl rfl
theorem r236_33_36 : Rn 236 (33, [x0, x1, x2, x3], .int (36 : Int32) :: st, a, h) = Rn 236 (1395, [x0, x1, x2, x3], st, a, h) := Rn_swAt c236_33 rfl rfl
theorem r236_33_37 : Rn 236 (33, [x0, x1, x2, x3], .int (37 : Int32) :: st, a, h) = Rn 236 (1418, [x0, x1, x2, x3], st, a, h) := Rn_swAt c236_33 rfl rfl
theorem r236_33_38 : Rn 236 (33, [x0, x1, x2, x3], .int (38 : Int32) :: st, a, h) = Rn 236 (1431, [x0, x1, x2, x3], st, a, h) := Rn_swAt c236_33 rfl rfl
theorem r236_33_39 : Rn 236 (33, [x0, x1, x2, x3], .int (39 : Int32) :: st, a, h) = Rn 236 (1444, [x0, x1, x2, x3], st, a, h) := Rn_swAt c236_33 rfl rfl
theorem r236_33_40 : Rn 236 (33, [x0, x1, x2, x3], .int (40 : Int32) :: st, a, h) = Rn 236 (1457, [x0, x1, x2, x3], st, a, h) := Rn_swAt c236_33 rfl rfl
theorem r236_33_41 : Rn 236 (33, [x0, x1, x2, x3], .int (41 : Int32) :: st, a, h) = Rn 236 (1480, [x0, x1, x2, x3], st, a, h) := Rn_swAt c236_33 rfl rfl
theorem r236_33_d (hi : i.toInt < 0 ∨ 41 < i.toInt) : Rn 236 (33, [x0, x1, x2, x3], .int i :: st, a, h) = Rn 236 (1503, [x0, x1, x2, x3], st, a, h) := Rn_swAt c236_33 (if_pos hi) rfl
theorem c236_216 : mcode 236 216 = some (.aload_n 1, 1, 0, 0, 0) := rfl
theorem r236_216 : Rn 236 (216, [x0, some (.ref q), x2, x3], st, a, h) = Rn 236 (217, [x0, some (.ref q), x2, x3], .ref q :: st, a, h) := Rn_go c236_216 rfl
theorem c236_217 : mcode 236 217 = some (.aload_n 0, 1, 0, 0, 0) := rfl
theorem r236_217 : Rn 236 (217, [some (.ref q), x1, x2, x3], st, a, h) = Rn 236 (218, [some (.ref q), x1, x2, x3], .ref q :: st, a, h) := Rn_go c236_217 rfl
theorem c236_218 : mcode 236 218 = some (.iload_n 3, 1, 0, 0, 0) := rfl
theorem r236_218 : Rn 236 (218, [x0, x1, x2, some (.int i)], st, a, h) = Rn 236 (219, [x0, x1, x2, some (.int i)], .int i :: st, a, h) := Rn_go c236_218 rfl
theorem c236_219 : mcode 236 219 = some (.iconst 1, 1, 0, 0, 0) := rfl
theorem r236_219 : Rn 236 (219, [x0, x1, x2, x3], st, a, h) = Rn 236 (220, [x0, x1, x2, x3], .int (1 : Int32) :: st, a, h) := Rn_go c236_219 rfl
theorem c236_220 : mcode 236 220 = some (.iadd, 1, 0, 0, 0) := rfl
theorem r236_220 : Rn 236 (220, [x0, x1, x2, x3], .int j :: .int i :: st, a, h) = Rn 236 (221, [x0, x1, x2, x3], .int (i + j) :: st, a, h) := Rn_go c236_220 rfl
theorem c236_221 : mcode 236 221 = some (.iaload, 1, 0, 0, 0) := rfl
theorem r236_221 : Rn 236 (221, [x0, x1, x2, x3], .int i :: .ref q :: st, a, h) = Ki 236 222 [x0, x1, x2, x3] st a h (mld h q i false) := Rn_iald c236_221 rfl
theorem c236_222 : mcode 236 222 = some (.aload_n 0, 1, 0, 0, 0) := rfl
theorem r236_222 : Rn 236 (222, [some (.ref q), x1, x2, x3], st, a, h) = Rn 236 (223, [some (.ref q), x1, x2, x3], .ref q :: st, a, h) := Rn_go c236_222 rfl
theorem c236_223 : mcode 236 223 = some (.iload_n 3, 1, 0, 0, 0) := rfl
theorem r236_223 : Rn 236 (223, [x0, x1, x2, some (.int i)], st, a, h) = Rn 236 (224, [x0, x1, x2, some (.int i)], .int i :: st, a, h) := Rn_go c236_223 rfl
theorem c236_224 : mcode 236 224 = some (.iconst 2, 1, 0, 0, 0) := rfl
theorem r236_224 : Rn 236 (224, [x0, x1, x2, x3], st, a, h) = Rn 236 (225, [x0, x1, x2, x3], .int (2 : Int32) :: st, a, h) := Rn_go c236_224 rfl
theorem c236_225 : mcode 236 225 = some (.iadd, 1, 0, 0, 0) := rfl
theorem r236_225 : Rn 236 (225, [x0, x1, x2, x3], .int j :: .int i :: st, a, h) = Rn 236 (226, [x0, x1, x2, x3], .int (i + j) :: st, a, h) := Rn_go c236_225 rfl
theorem c236_226 : mcode 236 226 = some (.iaload, 1, 0, 0, 0) := rfl
theorem r236_226 : Rn 236 (226, [x0, x1, x2, x3], .int i :: .ref q :: st, a, h) = Ki 236 227 [x0, x1, x2, x3] st a h (mld h q i false) := Rn_iald c236_226 rfl
theorem c236_227 : mcode 236 227 = some (.aload_n 0, 1, 0, 0, 0) := rfl
theorem r236_227 : Rn 236 (227, [some (.ref q), x1, x2, x3], st, a, h) = Rn 236 (228, [some (.ref q), x1, x2, x3], .ref q :: st, a, h) := Rn_go c236_227 rfl
theorem c236_228 : mcode 236 228 = some (.iload_n 3, 1, 0, 0, 0) := rfl
theorem r236_228 : Rn 236 (228, [x0, x1, x2, some (.int i)], st, a, h) = Rn 236 (229, [x0, x1, x2, some (.int i)], .int i :: st, a, h) := Rn_go c236_228 rfl
theorem c236_229 : mcode 236 229 = some (.iconst 3, 1, 0, 0, 0) := rfl
theorem r236_229 : Rn 236 (229, [x0, x1, x2, x3], st, a, h) = Rn 236 (230, [x0, x1, x2, x3], .int (3 : Int32) :: st, a, h) := Rn_go c236_229 rfl
theorem c236_230 : mcode 236 230 = some (.iadd, 1, 0, 0, 0) := rfl
theorem r236_230 : Rn 236 (230, [x0, x1, x2, x3], .int j :: .int i :: st, a, h) = Rn 236 (231, [x0, x1, x2, x3], .int (i + j) :: st, a, h) := Rn_go c236_230 rfl
theorem c236_231 : mcode 236 231 = some (.iaload, 1, 0, 0, 0) := rfl
theorem r236_231 : Rn 236 (231, [x0, x1, x2, x3], .int i :: .ref q :: st, a, h) = Ki 236 232 [x0, x1, x2, x3] st a h (mld h q i false) := Rn_iald c236_231 rfl
theorem c236_232 : mcode 236 232 = some (.invokevirtual 13, 3, 63, 3, 5) := rfl
theorem r236_232 : Rn 236 (232, [x0, x1, x2, x3], [v2, v1, v0, .ref q], a, h) = if mis h q 5 = true then Bk 236 235 [x0, x1, x2, x3] [] (Ec 63 [.ref q, v0, v1, v2] a h) else none := Rn_call1 c236_232 rfl (Nat.le_of_ble_eq_true rfl) rfl rfl (Nat.le_of_ble_eq_true rfl)
theorem c236_235 : mcode 236 235 = some (.aload_n 2, 1, 0, 0, 0) := rfl
theorem r236_235 : Rn 236 (235, [x0, x1, some (.ref q), x3], st, a, h) = Rn 236 (236, [x0, x1, some (.ref q), x3], .ref q :: st, a, h) := Rn_go c236_235 rfl
theorem c236_236 : mcode 236 236 = some (.aload_n 0, 1, 0, 0, 0) := rfl
theorem r236_236 : Rn 236 (236, [some (.ref q), x1, x2, x3], st, a, h) = Rn 236 (237, [some (.ref q), x1, x2, x3], .ref q :: st, a, h) := Rn_go c236_236 rfl
theorem c236_237 : mcode 236 237 = some (.iload_n 3, 1, 0, 0, 0) := rfl
theorem r236_237 : Rn 236 (237, [x0, x1, x2, some (.int i)], st, a, h) = Rn 236 (238, [x0, x1, x2, some (.int i)], .int i :: st, a, h) := Rn_go c236_237 rfl
theorem c236_238 : mcode 236 238 = some (.iconst 1, 1, 0, 0, 0) := rfl
theorem r236_238 : Rn 236 (238, [x0, x1, x2, x3], st, a, h) = Rn 236 (239, [x0, x1, x2, x3], .int (1 : Int32) :: st, a, h) := Rn_go c236_238 rfl
theorem c236_239 : mcode 236 239 = some (.iadd, 1, 0, 0, 0) := rfl
theorem r236_239 : Rn 236 (239, [x0, x1, x2, x3], .int j :: .int i :: st, a, h) = Rn 236 (240, [x0, x1, x2, x3], .int (i + j) :: st, a, h) := Rn_go c236_239 rfl
theorem c236_240 : mcode 236 240 = some (.iaload, 1, 0, 0, 0) := rfl
theorem r236_240 : Rn 236 (240, [x0, x1, x2, x3], .int i :: .ref q :: st, a, h) = Ki 236 241 [x0, x1, x2, x3] st a h (mld h q i false) := Rn_iald c236_240 rfl
theorem c236_241 : mcode 236 241 = some (.aload_n 0, 1, 0, 0, 0) := rfl
theorem r236_241 : Rn 236 (241, [some (.ref q), x1, x2, x3], st, a, h) = Rn 236 (242, [some (.ref q), x1, x2, x3], .ref q :: st, a, h) := Rn_go c236_241 rfl
theorem c236_242 : mcode 236 242 = some (.iload_n 3, 1, 0, 0, 0) := rfl
theorem r236_242 : Rn 236 (242, [x0, x1, x2, some (.int i)], st, a, h) = Rn 236 (243, [x0, x1, x2, some (.int i)], .int i :: st, a, h) := Rn_go c236_242 rfl
theorem c236_243 : mcode 236 243 = some (.iconst 2, 1, 0, 0, 0) := rfl
theorem r236_243 : Rn 236 (243, [x0, x1, x2, x3], st, a, h) = Rn 236 (244, [x0, x1, x2, x3], .int (2 : Int32) :: st, a, h) := Rn_go c236_243 rfl
theorem c236_244 : mcode 236 244 = some (.iadd, 1, 0, 0, 0) := rfl
theorem r236_244 : Rn 236 (244, [x0, x1, x2, x3], .int j :: .int i :: st, a, h) = Rn 236 (245, [x0, x1, x2, x3], .int (i + j) :: st, a, h) := Rn_go c236_244 rfl
theorem c236_245 : mcode 236 245 = some (.iaload, 1, 0, 0, 0) := rfl
theorem r236_245 : Rn 236 (245, [x0, x1, x2, x3], .int i :: .ref q :: st, a, h) = Ki 236 246 [x0, x1, x2, x3] st a h (mld h q i false) := Rn_iald c236_245 rfl
theorem c236_246 : mcode 236 246 = some (.aload_n 0, 1, 0, 0, 0) := rfl
theorem r236_246 : Rn 236 (246, [some (.ref q), x1, x2, x3], st, a, h) = Rn 236 (247, [some (.ref q), x1, x2, x3], .ref q :: st, a, h) := Rn_go c236_246 rfl
theorem c236_247 : mcode 236 247 = some (.iload_n 3, 1, 0, 0, 0) := rfl
theorem r236_247 : Rn 236 (247, [x0, x1, x2, some (.int i)], st, a, h) = Rn 236 (248, [x0, x1, x2, some (.int i)], .int i :: st, a, h) := Rn_go c236_247 rfl
theorem c236_248 : mcode 236 248 = some (.iconst 3, 1, 0, 0, 0) := rfl
theorem r236_248 : Rn 236 (248, [x0, x1, x2, x3], st, a, h) = Rn 236 (249, [x0, x1, x2, x3], .int (3 : Int32) :: st, a, h) := Rn_go c236_248 rfl
theorem c236_249 : mcode 236 249 = some (.iadd, 1, 0, 0, 0) := rfl
theorem r236_249 : Rn 236 (249, [x0, x1, x2, x3], .int j :: .int i :: st, a, h) = Rn 236 (250, [x0, x1, x2, x3], .int (i + j) :: st, a, h) := Rn_go c236_249 rfl
theorem c236_250 : mcode 236 250 = some (.iaload, 1, 0, 0, 0) := rfl
theorem r236_250 : Rn 236 (250, [x0, x1, x2, x3], .int i :: .ref q :: st, a, h) = Ki 236 251 [x0, x1, x2, x3] st a h (mld h q i false) := Rn_iald c236_250 rfl
theorem c236_251 : mcode 236 251 = some (.invokevirtual 17, 3, 137, 3, 6) := rfl
theorem r236_251 : Rn 236 (251, [x0, x1, x2, x3], [v2, v1, v0, .ref q, .int i0], a, h) = if mis h q 6 = true then Bk 236 254 [x0, x1, x2, x3] [.int i0] (Ec 137 [.ref q, v0, v1, v2] a h) else none := Rn_call1 c236_251 rfl (Nat.le_of_ble_eq_true rfl) rfl rfl (Nat.le_of_ble_eq_true rfl)
theorem c236_254 : mcode 236 254 = some (.if_icmp .eq 1249, 3, 0, 0, 0) := rfl
theorem r236_254 : Rn 236 (254, [x0, x1, x2, x3], .int j :: .int i :: st, a, h) = if i = j then Rn 236 (1503, [x0, x1, x2, x3], st, a, h) else Rn 236 (257, [x0, x1, x2, x3], st, a, h) := Rn_icmp c236_254 mc_eq rfl rfl
theorem c236_257 : mcode 236 257 = some (.iconst 0, 1, 0, 0, 0) := rfl
theorem r236_257 : Rn 236 (257, [x0, x1, x2, x3], st, a, h) = Rn 236 (258, [x0, x1, x2, x3], .int (0 : Int32) :: st, a, h) := Rn_go c236_257 rfl
theorem c236_258 : mcode 236 258 = some (.ireturn, 1, 1, 0, 0) := rfl
theorem r236_258 : Rn 236 (258, [x0, x1, x2, x3], [.int i], a, h) = if mrt 1 i = true then some (some (.int i), a, h) else none := Rn_iretz c236_258
theorem c236_259 : mcode 236 259 = some (.aload_n 1, 1, 0, 0, 0) := rfl
theorem r236_259 : Rn 236 (259, [x0, some (.ref q), x2, x3], st, a, h) = Rn 236 (260, [x0, some (.ref q), x2, x3], .ref q :: st, a, h) := Rn_go c236_259 rfl
theorem c236_260 : mcode 236 260 = some (.aload_n 0, 1, 0, 0, 0) := rfl
theorem r236_260 : Rn 236 (260, [some (.ref q), x1, x2, x3], st, a, h) = Rn 236 (261, [some (.ref q), x1, x2, x3], .ref q :: st, a, h) := Rn_go c236_260 rfl
theorem c236_261 : mcode 236 261 = some (.iload_n 3, 1, 0, 0, 0) := rfl
theorem r236_261 : Rn 236 (261, [x0, x1, x2, some (.int i)], st, a, h) = Rn 236 (262, [x0, x1, x2, some (.int i)], .int i :: st, a, h) := Rn_go c236_261 rfl
theorem c236_262 : mcode 236 262 = some (.iconst 1, 1, 0, 0, 0) := rfl
theorem r236_262 : Rn 236 (262, [x0, x1, x2, x3], st, a, h) = Rn 236 (263, [x0, x1, x2, x3], .int (1 : Int32) :: st, a, h) := Rn_go c236_262 rfl
theorem c236_263 : mcode 236 263 = some (.iadd, 1, 0, 0, 0) := rfl
theorem r236_263 : Rn 236 (263, [x0, x1, x2, x3], .int j :: .int i :: st, a, h) = Rn 236 (264, [x0, x1, x2, x3], .int (i + j) :: st, a, h) := Rn_go c236_263 rfl
theorem c236_264 : mcode 236 264 = some (.iaload, 1, 0, 0, 0) := rfl
theorem r236_264 : Rn 236 (264, [x0, x1, x2, x3], .int i :: .ref q :: st, a, h) = Ki 236 265 [x0, x1, x2, x3] st a h (mld h q i false) := Rn_iald c236_264 rfl
theorem c236_265 : mcode 236 265 = some (.aload_n 0, 1, 0, 0, 0) := rfl
theorem r236_265 : Rn 236 (265, [some (.ref q), x1, x2, x3], st, a, h) = Rn 236 (266, [some (.ref q), x1, x2, x3], .ref q :: st, a, h) := Rn_go c236_265 rfl
theorem c236_266 : mcode 236 266 = some (.iload_n 3, 1, 0, 0, 0) := rfl
theorem r236_266 : Rn 236 (266, [x0, x1, x2, some (.int i)], st, a, h) = Rn 236 (267, [x0, x1, x2, some (.int i)], .int i :: st, a, h) := Rn_go c236_266 rfl
theorem c236_267 : mcode 236 267 = some (.iconst 2, 1, 0, 0, 0) := rfl
theorem r236_267 : Rn 236 (267, [x0, x1, x2, x3], st, a, h) = Rn 236 (268, [x0, x1, x2, x3], .int (2 : Int32) :: st, a, h) := Rn_go c236_267 rfl
theorem c236_268 : mcode 236 268 = some (.iadd, 1, 0, 0, 0) := rfl
theorem r236_268 : Rn 236 (268, [x0, x1, x2, x3], .int j :: .int i :: st, a, h) = Rn 236 (269, [x0, x1, x2, x3], .int (i + j) :: st, a, h) := Rn_go c236_268 rfl
theorem c236_269 : mcode 236 269 = some (.iaload, 1, 0, 0, 0) := rfl
theorem r236_269 : Rn 236 (269, [x0, x1, x2, x3], .int i :: .ref q :: st, a, h) = Ki 236 270 [x0, x1, x2, x3] st a h (mld h q i false) := Rn_iald c236_269 rfl
theorem c236_270 : mcode 236 270 = some (.invokevirtual 18, 3, 64, 2, 5) := rfl
theorem r236_270 : Rn 236 (270, [x0, x1, x2, x3], [v1, v0, .ref q], a, h) = if mis h q 5 = true then Bk 236 273 [x0, x1, x2, x3] [] (Ec 64 [.ref q, v0, v1] a h) else none := Rn_call1 c236_270 rfl (Nat.le_of_ble_eq_true rfl) rfl rfl (Nat.le_of_ble_eq_true rfl)
theorem c236_273 : mcode 236 273 = some (.aload_n 2, 1, 0, 0, 0) := rfl
theorem r236_273 : Rn 236 (273, [x0, x1, some (.ref q), x3], st, a, h) = Rn 236 (274, [x0, x1, some (.ref q), x3], .ref q :: st, a, h) := Rn_go c236_273 rfl
theorem c236_274 : mcode 236 274 = some (.aload_n 0, 1, 0, 0, 0) := rfl
theorem r236_274 : Rn 236 (274, [some (.ref q), x1, x2, x3], st, a, h) = Rn 236 (275, [some (.ref q), x1, x2, x3], .ref q :: st, a, h) := Rn_go c236_274 rfl
theorem c236_275 : mcode 236 275 = some (.iload_n 3, 1, 0, 0, 0) := rfl
theorem r236_275 : Rn 236 (275, [x0, x1, x2, some (.int i)], st, a, h) = Rn 236 (276, [x0, x1, x2, some (.int i)], .int i :: st, a, h) := Rn_go c236_275 rfl
theorem c236_276 : mcode 236 276 = some (.iconst 1, 1, 0, 0, 0) := rfl
theorem r236_276 : Rn 236 (276, [x0, x1, x2, x3], st, a, h) = Rn 236 (277, [x0, x1, x2, x3], .int (1 : Int32) :: st, a, h) := Rn_go c236_276 rfl
theorem c236_277 : mcode 236 277 = some (.iadd, 1, 0, 0, 0) := rfl
theorem r236_277 : Rn 236 (277, [x0, x1, x2, x3], .int j :: .int i :: st, a, h) = Rn 236 (278, [x0, x1, x2, x3], .int (i + j) :: st, a, h) := Rn_go c236_277 rfl
theorem c236_278 : mcode 236 278 = some (.iaload, 1, 0, 0, 0) := rfl
theorem r236_278 : Rn 236 (278, [x0, x1, x2, x3], .int i :: .ref q :: st, a, h) = Ki 236 279 [x0, x1, x2, x3] st a h (mld h q i false) := Rn_iald c236_278 rfl
theorem c236_279 : mcode 236 279 = some (.aload_n 0, 1, 0, 0, 0) := rfl
theorem r236_279 : Rn 236 (279, [some (.ref q), x1, x2, x3], st, a, h) = Rn 236 (280, [some (.ref q), x1, x2, x3], .ref q :: st, a, h) := Rn_go c236_279 rfl
theorem c236_280 : mcode 236 280 = some (.iload_n 3, 1, 0, 0, 0) := rfl
theorem r236_280 : Rn 236 (280, [x0, x1, x2, some (.int i)], st, a, h) = Rn 236 (281, [x0, x1, x2, some (.int i)], .int i :: st, a, h) := Rn_go c236_280 rfl
theorem c236_281 : mcode 236 281 = some (.iconst 2, 1, 0, 0, 0) := rfl
theorem r236_281 : Rn 236 (281, [x0, x1, x2, x3], st, a, h) = Rn 236 (282, [x0, x1, x2, x3], .int (2 : Int32) :: st, a, h) := Rn_go c236_281 rfl
theorem c236_282 : mcode 236 282 = some (.iadd, 1, 0, 0, 0) := rfl
theorem r236_282 : Rn 236 (282, [x0, x1, x2, x3], .int j :: .int i :: st, a, h) = Rn 236 (283, [x0, x1, x2, x3], .int (i + j) :: st, a, h) := Rn_go c236_282 rfl
theorem c236_283 : mcode 236 283 = some (.iaload, 1, 0, 0, 0) := rfl
theorem r236_283 : Rn 236 (283, [x0, x1, x2, x3], .int i :: .ref q :: st, a, h) = Ki 236 284 [x0, x1, x2, x3] st a h (mld h q i false) := Rn_iald c236_283 rfl
theorem c236_284 : mcode 236 284 = some (.invokevirtual 22, 3, 141, 2, 6) := rfl
theorem r236_284 : Rn 236 (284, [x0, x1, x2, x3], [v1, v0, .ref q, .int i0], a, h) = if mis h q 6 = true then Bk 236 287 [x0, x1, x2, x3] [.int i0] (Ec 141 [.ref q, v0, v1] a h) else none := Rn_call1 c236_284 rfl (Nat.le_of_ble_eq_true rfl) rfl rfl (Nat.le_of_ble_eq_true rfl)
theorem c236_287 : mcode 236 287 = some (.if_icmp .eq 1216, 3, 0, 0, 0) := rfl
theorem r236_287 : Rn 236 (287, [x0, x1, x2, x3], .int j :: .int i :: st, a, h) = if i = j then Rn 236 (1503, [x0, x1, x2, x3], st, a, h) else Rn 236 (290, [x0, x1, x2, x3], st, a, h) := Rn_icmp c236_287 mc_eq rfl rfl
theorem c236_290 : mcode 236 290 = some (.iconst 0, 1, 0, 0, 0) := rfl
theorem r236_290 : Rn 236 (290, [x0, x1, x2, x3], st, a, h) = Rn 236 (291, [x0, x1, x2, x3], .int (0 : Int32) :: st, a, h) := Rn_go c236_290 rfl
theorem c236_291 : mcode 236 291 = some (.ireturn, 1, 1, 0, 0) := rfl
theorem r236_291 : Rn 236 (291, [x0, x1, x2, x3], [.int i], a, h) = if mrt 1 i = true then some (some (.int i), a, h) else none := Rn_iretz c236_291
theorem c236_292 : mcode 236 292 = some (.aload_n 1, 1, 0, 0, 0) := rfl
theorem r236_292 : Rn 236 (292, [x0, some (.ref q), x2, x3], st, a, h) = Rn 236 (293, [x0, some (.ref q), x2, x3], .ref q :: st, a, h) := Rn_go c236_292 rfl
theorem c236_293 : mcode 236 293 = some (.aload_n 0, 1, 0, 0, 0) := rfl
theorem r236_293 : Rn 236 (293, [some (.ref q), x1, x2, x3], st, a, h) = Rn 236 (294, [some (.ref q), x1, x2, x3], .ref q :: st, a, h) := Rn_go c236_293 rfl
theorem c236_294 : mcode 236 294 = some (.iload_n 3, 1, 0, 0, 0) := rfl
theorem r236_294 : Rn 236 (294, [x0, x1, x2, some (.int i)], st, a, h) = Rn 236 (295, [x0, x1, x2, some (.int i)], .int i :: st, a, h) := Rn_go c236_294 rfl
theorem c236_295 : mcode 236 295 = some (.iconst 1, 1, 0, 0, 0) := rfl
theorem r236_295 : Rn 236 (295, [x0, x1, x2, x3], st, a, h) = Rn 236 (296, [x0, x1, x2, x3], .int (1 : Int32) :: st, a, h) := Rn_go c236_295 rfl
theorem c236_296 : mcode 236 296 = some (.iadd, 1, 0, 0, 0) := rfl
theorem r236_296 : Rn 236 (296, [x0, x1, x2, x3], .int j :: .int i :: st, a, h) = Rn 236 (297, [x0, x1, x2, x3], .int (i + j) :: st, a, h) := Rn_go c236_296 rfl
theorem c236_297 : mcode 236 297 = some (.iaload, 1, 0, 0, 0) := rfl
theorem r236_297 : Rn 236 (297, [x0, x1, x2, x3], .int i :: .ref q :: st, a, h) = Ki 236 298 [x0, x1, x2, x3] st a h (mld h q i false) := Rn_iald c236_297 rfl
theorem c236_298 : mcode 236 298 = some (.invokevirtual 23, 3, 65, 1, 5) := rfl
theorem r236_298 : Rn 236 (298, [x0, x1, x2, x3], [v0, .ref q], a, h) = if mis h q 5 = true then Bk 236 301 [x0, x1, x2, x3] [] (Ec 65 [.ref q, v0] a h) else none := Rn_call1 c236_298 rfl (Nat.le_of_ble_eq_true rfl) rfl rfl (Nat.le_of_ble_eq_true rfl)
theorem c236_301 : mcode 236 301 = some (.aload_n 2, 1, 0, 0, 0) := rfl
theorem r236_301 : Rn 236 (301, [x0, x1, some (.ref q), x3], st, a, h) = Rn 236 (302, [x0, x1, some (.ref q), x3], .ref q :: st, a, h) := Rn_go c236_301 rfl
theorem c236_302 : mcode 236 302 = some (.aload_n 0, 1, 0, 0, 0) := rfl
theorem r236_302 : Rn 236 (302, [some (.ref q), x1, x2, x3], st, a, h) = Rn 236 (303, [some (.ref q), x1, x2, x3], .ref q :: st, a, h) := Rn_go c236_302 rfl
theorem c236_303 : mcode 236 303 = some (.iload_n 3, 1, 0, 0, 0) := rfl
theorem r236_303 : Rn 236 (303, [x0, x1, x2, some (.int i)], st, a, h) = Rn 236 (304, [x0, x1, x2, some (.int i)], .int i :: st, a, h) := Rn_go c236_303 rfl
theorem c236_304 : mcode 236 304 = some (.iconst 1, 1, 0, 0, 0) := rfl
theorem r236_304 : Rn 236 (304, [x0, x1, x2, x3], st, a, h) = Rn 236 (305, [x0, x1, x2, x3], .int (1 : Int32) :: st, a, h) := Rn_go c236_304 rfl
theorem c236_305 : mcode 236 305 = some (.iadd, 1, 0, 0, 0) := rfl
theorem r236_305 : Rn 236 (305, [x0, x1, x2, x3], .int j :: .int i :: st, a, h) = Rn 236 (306, [x0, x1, x2, x3], .int (i + j) :: st, a, h) := Rn_go c236_305 rfl
theorem c236_306 : mcode 236 306 = some (.iaload, 1, 0, 0, 0) := rfl
theorem r236_306 : Rn 236 (306, [x0, x1, x2, x3], .int i :: .ref q :: st, a, h) = Ki 236 307 [x0, x1, x2, x3] st a h (mld h q i false) := Rn_iald c236_306 rfl
theorem c236_307 : mcode 236 307 = some (.invokevirtual 27, 3, 142, 1, 6) := rfl
theorem r236_307 : Rn 236 (307, [x0, x1, x2, x3], [v0, .ref q, .int i0], a, h) = if mis h q 6 = true then Bk 236 310 [x0, x1, x2, x3] [.int i0] (Ec 142 [.ref q, v0] a h) else none := Rn_call1 c236_307 rfl (Nat.le_of_ble_eq_true rfl) rfl rfl (Nat.le_of_ble_eq_true rfl)
theorem c236_310 : mcode 236 310 = some (.if_icmp .eq 1193, 3, 0, 0, 0) := rfl
theorem r236_310 : Rn 236 (310, [x0, x1, x2, x3], .int j :: .int i :: st, a, h) = if i = j then Rn 236 (1503, [x0, x1, x2, x3], st, a, h) else Rn 236 (313, [x0, x1, x2, x3], st, a, h) := Rn_icmp c236_310 mc_eq rfl rfl
theorem c236_313 : mcode 236 313 = some (.iconst 0, 1, 0, 0, 0) := rfl
theorem r236_313 : Rn 236 (313, [x0, x1, x2, x3], st, a, h) = Rn 236 (314, [x0, x1, x2, x3], .int (0 : Int32) :: st, a, h) := Rn_go c236_313 rfl
theorem c236_314 : mcode 236 314 = some (.ireturn, 1, 1, 0, 0) := rfl
theorem r236_314 : Rn 236 (314, [x0, x1, x2, x3], [.int i], a, h) = if mrt 1 i = true then some (some (.int i), a, h) else none := Rn_iretz c236_314
theorem c236_315 : mcode 236 315 = some (.aload_n 1, 1, 0, 0, 0) := rfl
theorem r236_315 : Rn 236 (315, [x0, some (.ref q), x2, x3], st, a, h) = Rn 236 (316, [x0, some (.ref q), x2, x3], .ref q :: st, a, h) := Rn_go c236_315 rfl
theorem c236_316 : mcode 236 316 = some (.aload_n 0, 1, 0, 0, 0) := rfl
theorem r236_316 : Rn 236 (316, [some (.ref q), x1, x2, x3], st, a, h) = Rn 236 (317, [some (.ref q), x1, x2, x3], .ref q :: st, a, h) := Rn_go c236_316 rfl
theorem c236_317 : mcode 236 317 = some (.iload_n 3, 1, 0, 0, 0) := rfl
theorem r236_317 : Rn 236 (317, [x0, x1, x2, some (.int i)], st, a, h) = Rn 236 (318, [x0, x1, x2, some (.int i)], .int i :: st, a, h) := Rn_go c236_317 rfl
theorem c236_318 : mcode 236 318 = some (.iconst 1, 1, 0, 0, 0) := rfl
theorem r236_318 : Rn 236 (318, [x0, x1, x2, x3], st, a, h) = Rn 236 (319, [x0, x1, x2, x3], .int (1 : Int32) :: st, a, h) := Rn_go c236_318 rfl
theorem c236_319 : mcode 236 319 = some (.iadd, 1, 0, 0, 0) := rfl
theorem r236_319 : Rn 236 (319, [x0, x1, x2, x3], .int j :: .int i :: st, a, h) = Rn 236 (320, [x0, x1, x2, x3], .int (i + j) :: st, a, h) := Rn_go c236_319 rfl
theorem c236_320 : mcode 236 320 = some (.iaload, 1, 0, 0, 0) := rfl
theorem r236_320 : Rn 236 (320, [x0, x1, x2, x3], .int i :: .ref q :: st, a, h) = Ki 236 321 [x0, x1, x2, x3] st a h (mld h q i false) := Rn_iald c236_320 rfl
theorem c236_321 : mcode 236 321 = some (.aload_n 0, 1, 0, 0, 0) := rfl
theorem r236_321 : Rn 236 (321, [some (.ref q), x1, x2, x3], st, a, h) = Rn 236 (322, [some (.ref q), x1, x2, x3], .ref q :: st, a, h) := Rn_go c236_321 rfl
theorem c236_322 : mcode 236 322 = some (.iload_n 3, 1, 0, 0, 0) := rfl
theorem r236_322 : Rn 236 (322, [x0, x1, x2, some (.int i)], st, a, h) = Rn 236 (323, [x0, x1, x2, some (.int i)], .int i :: st, a, h) := Rn_go c236_322 rfl
theorem c236_323 : mcode 236 323 = some (.iconst 2, 1, 0, 0, 0) := rfl
theorem r236_323 : Rn 236 (323, [x0, x1, x2, x3], st, a, h) = Rn 236 (324, [x0, x1, x2, x3], .int (2 : Int32) :: st, a, h) := Rn_go c236_323 rfl
theorem c236_324 : mcode 236 324 = some (.iadd, 1, 0, 0, 0) := rfl
theorem r236_324 : Rn 236 (324, [x0, x1, x2, x3], .int j :: .int i :: st, a, h) = Rn 236 (325, [x0, x1, x2, x3], .int (i + j) :: st, a, h) := Rn_go c236_324 rfl
theorem c236_325 : mcode 236 325 = some (.iaload, 1, 0, 0, 0) := rfl
theorem r236_325 : Rn 236 (325, [x0, x1, x2, x3], .int i :: .ref q :: st, a, h) = Ki 236 326 [x0, x1, x2, x3] st a h (mld h q i false) := Rn_iald c236_325 rfl
theorem c236_326 : mcode 236 326 = some (.invokevirtual 28, 3, 66, 2, 5) := rfl
theorem r236_326 : Rn 236 (326, [x0, x1, x2, x3], [v1, v0, .ref q], a, h) = if mis h q 5 = true then Bk 236 329 [x0, x1, x2, x3] [] (Ec 66 [.ref q, v0, v1] a h) else none := Rn_call1 c236_326 rfl (Nat.le_of_ble_eq_true rfl) rfl rfl (Nat.le_of_ble_eq_true rfl)
theorem c236_329 : mcode 236 329 = some (.aload_n 2, 1, 0, 0, 0) := rfl
theorem r236_329 : Rn 236 (329, [x0, x1, some (.ref q), x3], st, a, h) = Rn 236 (330, [x0, x1, some (.ref q), x3], .ref q :: st, a, h) := Rn_go c236_329 rfl
theorem c236_330 : mcode 236 330 = some (.aload_n 0, 1, 0, 0, 0) := rfl
theorem r236_330 : Rn 236 (330, [some (.ref q), x1, x2, x3], st, a, h) = Rn 236 (331, [some (.ref q), x1, x2, x3], .ref q :: st, a, h) := Rn_go c236_330 rfl
theorem c236_331 : mcode 236 331 = some (.iload_n 3, 1, 0, 0, 0) := rfl
theorem r236_331 : Rn 236 (331, [x0, x1, x2, some (.int i)], st, a, h) = Rn 236 (332, [x0, x1, x2, some (.int i)], .int i :: st, a, h) := Rn_go c236_331 rfl
theorem c236_332 : mcode 236 332 = some (.iconst 1, 1, 0, 0, 0) := rfl
theorem r236_332 : Rn 236 (332, [x0, x1, x2, x3], st, a, h) = Rn 236 (333, [x0, x1, x2, x3], .int (1 : Int32) :: st, a, h) := Rn_go c236_332 rfl
theorem c236_333 : mcode 236 333 = some (.iadd, 1, 0, 0, 0) := rfl
theorem r236_333 : Rn 236 (333, [x0, x1, x2, x3], .int j :: .int i :: st, a, h) = Rn 236 (334, [x0, x1, x2, x3], .int (i + j) :: st, a, h) := Rn_go c236_333 rfl
theorem c236_334 : mcode 236 334 = some (.iaload, 1, 0, 0, 0) := rfl
theorem r236_334 : Rn 236 (334, [x0, x1, x2, x3], .int i :: .ref q :: st, a, h) = Ki 236 335 [x0, x1, x2, x3] st a h (mld h q i false) := Rn_iald c236_334 rfl
theorem c236_335 : mcode 236 335 = some (.aload_n 0, 1, 0, 0, 0) := rfl
theorem r236_335 : Rn 236 (335, [some (.ref q), x1, x2, x3], st, a, h) = Rn 236 (336, [some (.ref q), x1, x2, x3], .ref q :: st, a, h) := Rn_go c236_335 rfl
theorem c236_336 : mcode 236 336 = some (.iload_n 3, 1, 0, 0, 0) := rfl
theorem r236_336 : Rn 236 (336, [x0, x1, x2, some (.int i)], st, a, h) = Rn 236 (337, [x0, x1, x2, some (.int i)], .int i :: st, a, h) := Rn_go c236_336 rfl
theorem c236_337 : mcode 236 337 = some (.iconst 2, 1, 0, 0, 0) := rfl
theorem r236_337 : Rn 236 (337, [x0, x1, x2, x3], st, a, h) = Rn 236 (338, [x0, x1, x2, x3], .int (2 : Int32) :: st, a, h) := Rn_go c236_337 rfl
theorem c236_338 : mcode 236 338 = some (.iadd, 1, 0, 0, 0) := rfl
theorem r236_338 : Rn 236 (338, [x0, x1, x2, x3], .int j :: .int i :: st, a, h) = Rn 236 (339, [x0, x1, x2, x3], .int (i + j) :: st, a, h) := Rn_go c236_338 rfl
theorem c236_339 : mcode 236 339 = some (.iaload, 1, 0, 0, 0) := rfl
theorem r236_339 : Rn 236 (339, [x0, x1, x2, x3], .int i :: .ref q :: st, a, h) = Ki 236 340 [x0, x1, x2, x3] st a h (mld h q i false) := Rn_iald c236_339 rfl
theorem c236_340 : mcode 236 340 = some (.invokevirtual 31, 3, 144, 2, 6) := rfl
theorem r236_340 : Rn 236 (340, [x0, x1, x2, x3], [v1, v0, .ref q, .int i0], a, h) = if mis h q 6 = true then Bk 236 343 [x0, x1, x2, x3] [.int i0] (Ec 144 [.ref q, v0, v1] a h) else none := Rn_call1 c236_340 rfl (Nat.le_of_ble_eq_true rfl) rfl rfl (Nat.le_of_ble_eq_true rfl)
theorem c236_343 : mcode 236 343 = some (.if_icmp .eq 1160, 3, 0, 0, 0) := rfl
theorem r236_343 : Rn 236 (343, [x0, x1, x2, x3], .int j :: .int i :: st, a, h) = if i = j then Rn 236 (1503, [x0, x1, x2, x3], st, a, h) else Rn 236 (346, [x0, x1, x2, x3], st, a, h) := Rn_icmp c236_343 mc_eq rfl rfl
theorem c236_346 : mcode 236 346 = some (.iconst 0, 1, 0, 0, 0) := rfl
theorem r236_346 : Rn 236 (346, [x0, x1, x2, x3], st, a, h) = Rn 236 (347, [x0, x1, x2, x3], .int (0 : Int32) :: st, a, h) := Rn_go c236_346 rfl
theorem c236_347 : mcode 236 347 = some (.ireturn, 1, 1, 0, 0) := rfl
theorem r236_347 : Rn 236 (347, [x0, x1, x2, x3], [.int i], a, h) = if mrt 1 i = true then some (some (.int i), a, h) else none := Rn_iretz c236_347
theorem c236_348 : mcode 236 348 = some (.aload_n 1, 1, 0, 0, 0) := rfl
theorem r236_348 : Rn 236 (348, [x0, some (.ref q), x2, x3], st, a, h) = Rn 236 (349, [x0, some (.ref q), x2, x3], .ref q :: st, a, h) := Rn_go c236_348 rfl
theorem c236_349 : mcode 236 349 = some (.aload_n 0, 1, 0, 0, 0) := rfl
theorem r236_349 : Rn 236 (349, [some (.ref q), x1, x2, x3], st, a, h) = Rn 236 (350, [some (.ref q), x1, x2, x3], .ref q :: st, a, h) := Rn_go c236_349 rfl
theorem c236_350 : mcode 236 350 = some (.iload_n 3, 1, 0, 0, 0) := rfl
theorem r236_350 : Rn 236 (350, [x0, x1, x2, some (.int i)], st, a, h) = Rn 236 (351, [x0, x1, x2, some (.int i)], .int i :: st, a, h) := Rn_go c236_350 rfl
theorem c236_351 : mcode 236 351 = some (.iconst 1, 1, 0, 0, 0) := rfl
theorem r236_351 : Rn 236 (351, [x0, x1, x2, x3], st, a, h) = Rn 236 (352, [x0, x1, x2, x3], .int (1 : Int32) :: st, a, h) := Rn_go c236_351 rfl
theorem c236_352 : mcode 236 352 = some (.iadd, 1, 0, 0, 0) := rfl
theorem r236_352 : Rn 236 (352, [x0, x1, x2, x3], .int j :: .int i :: st, a, h) = Rn 236 (353, [x0, x1, x2, x3], .int (i + j) :: st, a, h) := Rn_go c236_352 rfl
theorem c236_353 : mcode 236 353 = some (.iaload, 1, 0, 0, 0) := rfl
theorem r236_353 : Rn 236 (353, [x0, x1, x2, x3], .int i :: .ref q :: st, a, h) = Ki 236 354 [x0, x1, x2, x3] st a h (mld h q i false) := Rn_iald c236_353 rfl
theorem c236_354 : mcode 236 354 = some (.aload_n 0, 1, 0, 0, 0) := rfl
theorem r236_354 : Rn 236 (354, [some (.ref q), x1, x2, x3], st, a, h) = Rn 236 (355, [some (.ref q), x1, x2, x3], .ref q :: st, a, h) := Rn_go c236_354 rfl
theorem c236_355 : mcode 236 355 = some (.iload_n 3, 1, 0, 0, 0) := rfl
theorem r236_355 : Rn 236 (355, [x0, x1, x2, some (.int i)], st, a, h) = Rn 236 (356, [x0, x1, x2, some (.int i)], .int i :: st, a, h) := Rn_go c236_355 rfl
theorem c236_356 : mcode 236 356 = some (.iconst 2, 1, 0, 0, 0) := rfl
theorem r236_356 : Rn 236 (356, [x0, x1, x2, x3], st, a, h) = Rn 236 (357, [x0, x1, x2, x3], .int (2 : Int32) :: st, a, h) := Rn_go c236_356 rfl
theorem c236_357 : mcode 236 357 = some (.iadd, 1, 0, 0, 0) := rfl
theorem r236_357 : Rn 236 (357, [x0, x1, x2, x3], .int j :: .int i :: st, a, h) = Rn 236 (358, [x0, x1, x2, x3], .int (i + j) :: st, a, h) := Rn_go c236_357 rfl
theorem c236_358 : mcode 236 358 = some (.iaload, 1, 0, 0, 0) := rfl
theorem r236_358 : Rn 236 (358, [x0, x1, x2, x3], .int i :: .ref q :: st, a, h) = Ki 236 359 [x0, x1, x2, x3] st a h (mld h q i false) := Rn_iald c236_358 rfl
theorem c236_359 : mcode 236 359 = some (.invokevirtual 32, 3, 67, 2, 5) := rfl
theorem r236_359 : Rn 236 (359, [x0, x1, x2, x3], [v1, v0, .ref q], a, h) = if mis h q 5 = true then Bk 236 362 [x0, x1, x2, x3] [] (Ec 67 [.ref q, v0, v1] a h) else none := Rn_call1 c236_359 rfl (Nat.le_of_ble_eq_true rfl) rfl rfl (Nat.le_of_ble_eq_true rfl)
theorem c236_362 : mcode 236 362 = some (.aload_n 2, 1, 0, 0, 0) := rfl
theorem r236_362 : Rn 236 (362, [x0, x1, some (.ref q), x3], st, a, h) = Rn 236 (363, [x0, x1, some (.ref q), x3], .ref q :: st, a, h) := Rn_go c236_362 rfl
theorem c236_363 : mcode 236 363 = some (.aload_n 0, 1, 0, 0, 0) := rfl
theorem r236_363 : Rn 236 (363, [some (.ref q), x1, x2, x3], st, a, h) = Rn 236 (364, [some (.ref q), x1, x2, x3], .ref q :: st, a, h) := Rn_go c236_363 rfl
theorem c236_364 : mcode 236 364 = some (.iload_n 3, 1, 0, 0, 0) := rfl
theorem r236_364 : Rn 236 (364, [x0, x1, x2, some (.int i)], st, a, h) = Rn 236 (365, [x0, x1, x2, some (.int i)], .int i :: st, a, h) := Rn_go c236_364 rfl
theorem c236_365 : mcode 236 365 = some (.iconst 1, 1, 0, 0, 0) := rfl
theorem r236_365 : Rn 236 (365, [x0, x1, x2, x3], st, a, h) = Rn 236 (366, [x0, x1, x2, x3], .int (1 : Int32) :: st, a, h) := Rn_go c236_365 rfl
theorem c236_366 : mcode 236 366 = some (.iadd, 1, 0, 0, 0) := rfl
theorem r236_366 : Rn 236 (366, [x0, x1, x2, x3], .int j :: .int i :: st, a, h) = Rn 236 (367, [x0, x1, x2, x3], .int (i + j) :: st, a, h) := Rn_go c236_366 rfl
theorem c236_367 : mcode 236 367 = some (.iaload, 1, 0, 0, 0) := rfl
theorem r236_367 : Rn 236 (367, [x0, x1, x2, x3], .int i :: .ref q :: st, a, h) = Ki 236 368 [x0, x1, x2, x3] st a h (mld h q i false) := Rn_iald c236_367 rfl
theorem c236_368 : mcode 236 368 = some (.aload_n 0, 1, 0, 0, 0) := rfl
theorem r236_368 : Rn 236 (368, [some (.ref q), x1, x2, x3], st, a, h) = Rn 236 (369, [some (.ref q), x1, x2, x3], .ref q :: st, a, h) := Rn_go c236_368 rfl
theorem c236_369 : mcode 236 369 = some (.iload_n 3, 1, 0, 0, 0) := rfl
theorem r236_369 : Rn 236 (369, [x0, x1, x2, some (.int i)], st, a, h) = Rn 236 (370, [x0, x1, x2, some (.int i)], .int i :: st, a, h) := Rn_go c236_369 rfl
theorem c236_370 : mcode 236 370 = some (.iconst 2, 1, 0, 0, 0) := rfl
theorem r236_370 : Rn 236 (370, [x0, x1, x2, x3], st, a, h) = Rn 236 (371, [x0, x1, x2, x3], .int (2 : Int32) :: st, a, h) := Rn_go c236_370 rfl
theorem c236_371 : mcode 236 371 = some (.iadd, 1, 0, 0, 0) := rfl
theorem r236_371 : Rn 236 (371, [x0, x1, x2, x3], .int j :: .int i :: st, a, h) = Rn 236 (372, [x0, x1, x2, x3], .int (i + j) :: st, a, h) := Rn_go c236_371 rfl
theorem c236_372 : mcode 236 372 = some (.iaload, 1, 0, 0, 0) := rfl
theorem r236_372 : Rn 236 (372, [x0, x1, x2, x3], .int i :: .ref q :: st, a, h) = Ki 236 373 [x0, x1, x2, x3] st a h (mld h q i false) := Rn_iald c236_372 rfl
theorem c236_373 : mcode 236 373 = some (.invokevirtual 35, 3, 146, 2, 6) := rfl
theorem r236_373 : Rn 236 (373, [x0, x1, x2, x3], [v1, v0, .ref q, .int i0], a, h) = if mis h q 6 = true then Bk 236 376 [x0, x1, x2, x3] [.int i0] (Ec 146 [.ref q, v0, v1] a h) else none := Rn_call1 c236_373 rfl (Nat.le_of_ble_eq_true rfl) rfl rfl (Nat.le_of_ble_eq_true rfl)
theorem c236_376 : mcode 236 376 = some (.if_icmp .eq 1127, 3, 0, 0, 0) := rfl
theorem r236_376 : Rn 236 (376, [x0, x1, x2, x3], .int j :: .int i :: st, a, h) = if i = j then Rn 236 (1503, [x0, x1, x2, x3], st, a, h) else Rn 236 (379, [x0, x1, x2, x3], st, a, h) := Rn_icmp c236_376 mc_eq rfl rfl
theorem c236_379 : mcode 236 379 = some (.iconst 0, 1, 0, 0, 0) := rfl
theorem r236_379 : Rn 236 (379, [x0, x1, x2, x3], st, a, h) = Rn 236 (380, [x0, x1, x2, x3], .int (0 : Int32) :: st, a, h) := Rn_go c236_379 rfl
theorem c236_380 : mcode 236 380 = some (.ireturn, 1, 1, 0, 0) := rfl
theorem r236_380 : Rn 236 (380, [x0, x1, x2, x3], [.int i], a, h) = if mrt 1 i = true then some (some (.int i), a, h) else none := Rn_iretz c236_380
theorem c236_381 : mcode 236 381 = some (.aload_n 1, 1, 0, 0, 0) := rfl
theorem r236_381 : Rn 236 (381, [x0, some (.ref q), x2, x3], st, a, h) = Rn 236 (382, [x0, some (.ref q), x2, x3], .ref q :: st, a, h) := Rn_go c236_381 rfl
theorem c236_382 : mcode 236 382 = some (.aload_n 0, 1, 0, 0, 0) := rfl
theorem r236_382 : Rn 236 (382, [some (.ref q), x1, x2, x3], st, a, h) = Rn 236 (383, [some (.ref q), x1, x2, x3], .ref q :: st, a, h) := Rn_go c236_382 rfl
theorem c236_383 : mcode 236 383 = some (.iload_n 3, 1, 0, 0, 0) := rfl
theorem r236_383 : Rn 236 (383, [x0, x1, x2, some (.int i)], st, a, h) = Rn 236 (384, [x0, x1, x2, some (.int i)], .int i :: st, a, h) := Rn_go c236_383 rfl
theorem c236_384 : mcode 236 384 = some (.iconst 1, 1, 0, 0, 0) := rfl
theorem r236_384 : Rn 236 (384, [x0, x1, x2, x3], st, a, h) = Rn 236 (385, [x0, x1, x2, x3], .int (1 : Int32) :: st, a, h) := Rn_go c236_384 rfl
theorem c236_385 : mcode 236 385 = some (.iadd, 1, 0, 0, 0) := rfl
theorem r236_385 : Rn 236 (385, [x0, x1, x2, x3], .int j :: .int i :: st, a, h) = Rn 236 (386, [x0, x1, x2, x3], .int (i + j) :: st, a, h) := Rn_go c236_385 rfl
theorem c236_386 : mcode 236 386 = some (.iaload, 1, 0, 0, 0) := rfl
theorem r236_386 : Rn 236 (386, [x0, x1, x2, x3], .int i :: .ref q :: st, a, h) = Ki 236 387 [x0, x1, x2, x3] st a h (mld h q i false) := Rn_iald c236_386 rfl
theorem c236_387 : mcode 236 387 = some (.aload_n 0, 1, 0, 0, 0) := rfl
theorem r236_387 : Rn 236 (387, [some (.ref q), x1, x2, x3], st, a, h) = Rn 236 (388, [some (.ref q), x1, x2, x3], .ref q :: st, a, h) := Rn_go c236_387 rfl
theorem c236_388 : mcode 236 388 = some (.iload_n 3, 1, 0, 0, 0) := rfl
theorem r236_388 : Rn 236 (388, [x0, x1, x2, some (.int i)], st, a, h) = Rn 236 (389, [x0, x1, x2, some (.int i)], .int i :: st, a, h) := Rn_go c236_388 rfl
theorem c236_389 : mcode 236 389 = some (.iconst 2, 1, 0, 0, 0) := rfl
theorem r236_389 : Rn 236 (389, [x0, x1, x2, x3], st, a, h) = Rn 236 (390, [x0, x1, x2, x3], .int (2 : Int32) :: st, a, h) := Rn_go c236_389 rfl
theorem c236_390 : mcode 236 390 = some (.iadd, 1, 0, 0, 0) := rfl
theorem r236_390 : Rn 236 (390, [x0, x1, x2, x3], .int j :: .int i :: st, a, h) = Rn 236 (391, [x0, x1, x2, x3], .int (i + j) :: st, a, h) := Rn_go c236_390 rfl
theorem c236_391 : mcode 236 391 = some (.iaload, 1, 0, 0, 0) := rfl
theorem r236_391 : Rn 236 (391, [x0, x1, x2, x3], .int i :: .ref q :: st, a, h) = Ki 236 392 [x0, x1, x2, x3] st a h (mld h q i false) := Rn_iald c236_391 rfl
theorem c236_392 : mcode 236 392 = some (.invokevirtual 36, 3, 68, 2, 5) := rfl
theorem r236_392 : Rn 236 (392, [x0, x1, x2, x3], [v1, v0, .ref q], a, h) = if mis h q 5 = true then Bk 236 395 [x0, x1, x2, x3] [] (Ec 68 [.ref q, v0, v1] a h) else none := Rn_call1 c236_392 rfl (Nat.le_of_ble_eq_true rfl) rfl rfl (Nat.le_of_ble_eq_true rfl)
theorem c236_395 : mcode 236 395 = some (.aload_n 2, 1, 0, 0, 0) := rfl
theorem r236_395 : Rn 236 (395, [x0, x1, some (.ref q), x3], st, a, h) = Rn 236 (396, [x0, x1, some (.ref q), x3], .ref q :: st, a, h) := Rn_go c236_395 rfl
theorem c236_396 : mcode 236 396 = some (.aload_n 0, 1, 0, 0, 0) := rfl
theorem r236_396 : Rn 236 (396, [some (.ref q), x1, x2, x3], st, a, h) = Rn 236 (397, [some (.ref q), x1, x2, x3], .ref q :: st, a, h) := Rn_go c236_396 rfl
theorem c236_397 : mcode 236 397 = some (.iload_n 3, 1, 0, 0, 0) := rfl
theorem r236_397 : Rn 236 (397, [x0, x1, x2, some (.int i)], st, a, h) = Rn 236 (398, [x0, x1, x2, some (.int i)], .int i :: st, a, h) := Rn_go c236_397 rfl
theorem c236_398 : mcode 236 398 = some (.iconst 1, 1, 0, 0, 0) := rfl
theorem r236_398 : Rn 236 (398, [x0, x1, x2, x3], st, a, h) = Rn 236 (399, [x0, x1, x2, x3], .int (1 : Int32) :: st, a, h) := Rn_go c236_398 rfl
theorem c236_399 : mcode 236 399 = some (.iadd, 1, 0, 0, 0) := rfl
theorem r236_399 : Rn 236 (399, [x0, x1, x2, x3], .int j :: .int i :: st, a, h) = Rn 236 (400, [x0, x1, x2, x3], .int (i + j) :: st, a, h) := Rn_go c236_399 rfl
theorem c236_400 : mcode 236 400 = some (.iaload, 1, 0, 0, 0) := rfl
theorem r236_400 : Rn 236 (400, [x0, x1, x2, x3], .int i :: .ref q :: st, a, h) = Ki 236 401 [x0, x1, x2, x3] st a h (mld h q i false) := Rn_iald c236_400 rfl
theorem c236_401 : mcode 236 401 = some (.aload_n 0, 1, 0, 0, 0) := rfl
theorem r236_401 : Rn 236 (401, [some (.ref q), x1, x2, x3], st, a, h) = Rn 236 (402, [some (.ref q), x1, x2, x3], .ref q :: st, a, h) := Rn_go c236_401 rfl
theorem c236_402 : mcode 236 402 = some (.iload_n 3, 1, 0, 0, 0) := rfl
theorem r236_402 : Rn 236 (402, [x0, x1, x2, some (.int i)], st, a, h) = Rn 236 (403, [x0, x1, x2, some (.int i)], .int i :: st, a, h) := Rn_go c236_402 rfl
theorem c236_403 : mcode 236 403 = some (.iconst 2, 1, 0, 0, 0) := rfl
theorem r236_403 : Rn 236 (403, [x0, x1, x2, x3], st, a, h) = Rn 236 (404, [x0, x1, x2, x3], .int (2 : Int32) :: st, a, h) := Rn_go c236_403 rfl
theorem c236_404 : mcode 236 404 = some (.iadd, 1, 0, 0, 0) := rfl
theorem r236_404 : Rn 236 (404, [x0, x1, x2, x3], .int j :: .int i :: st, a, h) = Rn 236 (405, [x0, x1, x2, x3], .int (i + j) :: st, a, h) := Rn_go c236_404 rfl
theorem c236_405 : mcode 236 405 = some (.iaload, 1, 0, 0, 0) := rfl
theorem r236_405 : Rn 236 (405, [x0, x1, x2, x3], .int i :: .ref q :: st, a, h) = Ki 236 406 [x0, x1, x2, x3] st a h (mld h q i false) := Rn_iald c236_405 rfl
theorem c236_406 : mcode 236 406 = some (.invokevirtual 39, 3, 150, 2, 6) := rfl
theorem r236_406 : Rn 236 (406, [x0, x1, x2, x3], [v1, v0, .ref q, .int i0], a, h) = if mis h q 6 = true then Bk 236 409 [x0, x1, x2, x3] [.int i0] (Ec 150 [.ref q, v0, v1] a h) else none := Rn_call1 c236_406 rfl (Nat.le_of_ble_eq_true rfl) rfl rfl (Nat.le_of_ble_eq_true rfl)
theorem c236_409 : mcode 236 409 = some (.if_icmp .eq 1094, 3, 0, 0, 0) := rfl
theorem r236_409 : Rn 236 (409, [x0, x1, x2, x3], .int j :: .int i :: st, a, h) = if i = j then Rn 236 (1503, [x0, x1, x2, x3], st, a, h) else Rn 236 (412, [x0, x1, x2, x3], st, a, h) := Rn_icmp c236_409 mc_eq rfl rfl
theorem c236_412 : mcode 236 412 = some (.iconst 0, 1, 0, 0, 0) := rfl
theorem r236_412 : Rn 236 (412, [x0, x1, x2, x3], st, a, h) = Rn 236 (413, [x0, x1, x2, x3], .int (0 : Int32) :: st, a, h) := Rn_go c236_412 rfl
theorem c236_413 : mcode 236 413 = some (.ireturn, 1, 1, 0, 0) := rfl
theorem r236_413 : Rn 236 (413, [x0, x1, x2, x3], [.int i], a, h) = if mrt 1 i = true then some (some (.int i), a, h) else none := Rn_iretz c236_413
theorem c236_414 : mcode 236 414 = some (.aload_n 1, 1, 0, 0, 0) := rfl
theorem r236_414 : Rn 236 (414, [x0, some (.ref q), x2, x3], st, a, h) = Rn 236 (415, [x0, some (.ref q), x2, x3], .ref q :: st, a, h) := Rn_go c236_414 rfl
theorem c236_415 : mcode 236 415 = some (.aload_n 0, 1, 0, 0, 0) := rfl
theorem r236_415 : Rn 236 (415, [some (.ref q), x1, x2, x3], st, a, h) = Rn 236 (416, [some (.ref q), x1, x2, x3], .ref q :: st, a, h) := Rn_go c236_415 rfl
theorem c236_416 : mcode 236 416 = some (.iload_n 3, 1, 0, 0, 0) := rfl
theorem r236_416 : Rn 236 (416, [x0, x1, x2, some (.int i)], st, a, h) = Rn 236 (417, [x0, x1, x2, some (.int i)], .int i :: st, a, h) := Rn_go c236_416 rfl
theorem c236_417 : mcode 236 417 = some (.iconst 1, 1, 0, 0, 0) := rfl
theorem r236_417 : Rn 236 (417, [x0, x1, x2, x3], st, a, h) = Rn 236 (418, [x0, x1, x2, x3], .int (1 : Int32) :: st, a, h) := Rn_go c236_417 rfl
theorem c236_418 : mcode 236 418 = some (.iadd, 1, 0, 0, 0) := rfl
theorem r236_418 : Rn 236 (418, [x0, x1, x2, x3], .int j :: .int i :: st, a, h) = Rn 236 (419, [x0, x1, x2, x3], .int (i + j) :: st, a, h) := Rn_go c236_418 rfl
theorem c236_419 : mcode 236 419 = some (.iaload, 1, 0, 0, 0) := rfl
theorem r236_419 : Rn 236 (419, [x0, x1, x2, x3], .int i :: .ref q :: st, a, h) = Ki 236 420 [x0, x1, x2, x3] st a h (mld h q i false) := Rn_iald c236_419 rfl
theorem c236_420 : mcode 236 420 = some (.aload_n 0, 1, 0, 0, 0) := rfl
theorem r236_420 : Rn 236 (420, [some (.ref q), x1, x2, x3], st, a, h) = Rn 236 (421, [some (.ref q), x1, x2, x3], .ref q :: st, a, h) := Rn_go c236_420 rfl
theorem c236_421 : mcode 236 421 = some (.iload_n 3, 1, 0, 0, 0) := rfl
theorem r236_421 : Rn 236 (421, [x0, x1, x2, some (.int i)], st, a, h) = Rn 236 (422, [x0, x1, x2, some (.int i)], .int i :: st, a, h) := Rn_go c236_421 rfl
theorem c236_422 : mcode 236 422 = some (.iconst 2, 1, 0, 0, 0) := rfl
theorem r236_422 : Rn 236 (422, [x0, x1, x2, x3], st, a, h) = Rn 236 (423, [x0, x1, x2, x3], .int (2 : Int32) :: st, a, h) := Rn_go c236_422 rfl
theorem c236_423 : mcode 236 423 = some (.iadd, 1, 0, 0, 0) := rfl
theorem r236_423 : Rn 236 (423, [x0, x1, x2, x3], .int j :: .int i :: st, a, h) = Rn 236 (424, [x0, x1, x2, x3], .int (i + j) :: st, a, h) := Rn_go c236_423 rfl
theorem c236_424 : mcode 236 424 = some (.iaload, 1, 0, 0, 0) := rfl
theorem r236_424 : Rn 236 (424, [x0, x1, x2, x3], .int i :: .ref q :: st, a, h) = Ki 236 425 [x0, x1, x2, x3] st a h (mld h q i false) := Rn_iald c236_424 rfl
theorem c236_425 : mcode 236 425 = some (.aload_n 0, 1, 0, 0, 0) := rfl
theorem r236_425 : Rn 236 (425, [some (.ref q), x1, x2, x3], st, a, h) = Rn 236 (426, [some (.ref q), x1, x2, x3], .ref q :: st, a, h) := Rn_go c236_425 rfl
theorem c236_426 : mcode 236 426 = some (.iload_n 3, 1, 0, 0, 0) := rfl
theorem r236_426 : Rn 236 (426, [x0, x1, x2, some (.int i)], st, a, h) = Rn 236 (427, [x0, x1, x2, some (.int i)], .int i :: st, a, h) := Rn_go c236_426 rfl
theorem c236_427 : mcode 236 427 = some (.iconst 3, 1, 0, 0, 0) := rfl
theorem r236_427 : Rn 236 (427, [x0, x1, x2, x3], st, a, h) = Rn 236 (428, [x0, x1, x2, x3], .int (3 : Int32) :: st, a, h) := Rn_go c236_427 rfl
theorem c236_428 : mcode 236 428 = some (.iadd, 1, 0, 0, 0) := rfl
theorem r236_428 : Rn 236 (428, [x0, x1, x2, x3], .int j :: .int i :: st, a, h) = Rn 236 (429, [x0, x1, x2, x3], .int (i + j) :: st, a, h) := Rn_go c236_428 rfl
theorem c236_429 : mcode 236 429 = some (.iaload, 1, 0, 0, 0) := rfl
theorem r236_429 : Rn 236 (429, [x0, x1, x2, x3], .int i :: .ref q :: st, a, h) = Ki 236 430 [x0, x1, x2, x3] st a h (mld h q i false) := Rn_iald c236_429 rfl
theorem c236_430 : mcode 236 430 = some (.invokevirtual 40, 3, 69, 3, 5) := rfl
theorem r236_430 : Rn 236 (430, [x0, x1, x2, x3], [v2, v1, v0, .ref q], a, h) = if mis h q 5 = true then Bk 236 433 [x0, x1, x2, x3] [] (Ec 69 [.ref q, v0, v1, v2] a h) else none := Rn_call1 c236_430 rfl (Nat.le_of_ble_eq_true rfl) rfl rfl (Nat.le_of_ble_eq_true rfl)
theorem c236_433 : mcode 236 433 = some (.aload_n 2, 1, 0, 0, 0) := rfl
theorem r236_433 : Rn 236 (433, [x0, x1, some (.ref q), x3], st, a, h) = Rn 236 (434, [x0, x1, some (.ref q), x3], .ref q :: st, a, h) := Rn_go c236_433 rfl
theorem c236_434 : mcode 236 434 = some (.aload_n 0, 1, 0, 0, 0) := rfl
theorem r236_434 : Rn 236 (434, [some (.ref q), x1, x2, x3], st, a, h) = Rn 236 (435, [some (.ref q), x1, x2, x3], .ref q :: st, a, h) := Rn_go c236_434 rfl
theorem c236_435 : mcode 236 435 = some (.iload_n 3, 1, 0, 0, 0) := rfl
theorem r236_435 : Rn 236 (435, [x0, x1, x2, some (.int i)], st, a, h) = Rn 236 (436, [x0, x1, x2, some (.int i)], .int i :: st, a, h) := Rn_go c236_435 rfl
theorem c236_436 : mcode 236 436 = some (.iconst 1, 1, 0, 0, 0) := rfl
theorem r236_436 : Rn 236 (436, [x0, x1, x2, x3], st, a, h) = Rn 236 (437, [x0, x1, x2, x3], .int (1 : Int32) :: st, a, h) := Rn_go c236_436 rfl
theorem c236_437 : mcode 236 437 = some (.iadd, 1, 0, 0, 0) := rfl
theorem r236_437 : Rn 236 (437, [x0, x1, x2, x3], .int j :: .int i :: st, a, h) = Rn 236 (438, [x0, x1, x2, x3], .int (i + j) :: st, a, h) := Rn_go c236_437 rfl
theorem c236_438 : mcode 236 438 = some (.iaload, 1, 0, 0, 0) := rfl
theorem r236_438 : Rn 236 (438, [x0, x1, x2, x3], .int i :: .ref q :: st, a, h) = Ki 236 439 [x0, x1, x2, x3] st a h (mld h q i false) := Rn_iald c236_438 rfl
theorem c236_439 : mcode 236 439 = some (.aload_n 0, 1, 0, 0, 0) := rfl
theorem r236_439 : Rn 236 (439, [some (.ref q), x1, x2, x3], st, a, h) = Rn 236 (440, [some (.ref q), x1, x2, x3], .ref q :: st, a, h) := Rn_go c236_439 rfl
theorem c236_440 : mcode 236 440 = some (.iload_n 3, 1, 0, 0, 0) := rfl
theorem r236_440 : Rn 236 (440, [x0, x1, x2, some (.int i)], st, a, h) = Rn 236 (441, [x0, x1, x2, some (.int i)], .int i :: st, a, h) := Rn_go c236_440 rfl
theorem c236_441 : mcode 236 441 = some (.iconst 2, 1, 0, 0, 0) := rfl
theorem r236_441 : Rn 236 (441, [x0, x1, x2, x3], st, a, h) = Rn 236 (442, [x0, x1, x2, x3], .int (2 : Int32) :: st, a, h) := Rn_go c236_441 rfl
theorem c236_442 : mcode 236 442 = some (.iadd, 1, 0, 0, 0) := rfl
theorem r236_442 : Rn 236 (442, [x0, x1, x2, x3], .int j :: .int i :: st, a, h) = Rn 236 (443, [x0, x1, x2, x3], .int (i + j) :: st, a, h) := Rn_go c236_442 rfl
theorem c236_443 : mcode 236 443 = some (.iaload, 1, 0, 0, 0) := rfl
theorem r236_443 : Rn 236 (443, [x0, x1, x2, x3], .int i :: .ref q :: st, a, h) = Ki 236 444 [x0, x1, x2, x3] st a h (mld h q i false) := Rn_iald c236_443 rfl
theorem c236_444 : mcode 236 444 = some (.aload_n 0, 1, 0, 0, 0) := rfl
theorem r236_444 : Rn 236 (444, [some (.ref q), x1, x2, x3], st, a, h) = Rn 236 (445, [some (.ref q), x1, x2, x3], .ref q :: st, a, h) := Rn_go c236_444 rfl
theorem c236_445 : mcode 236 445 = some (.iload_n 3, 1, 0, 0, 0) := rfl
theorem r236_445 : Rn 236 (445, [x0, x1, x2, some (.int i)], st, a, h) = Rn 236 (446, [x0, x1, x2, some (.int i)], .int i :: st, a, h) := Rn_go c236_445 rfl
theorem c236_446 : mcode 236 446 = some (.iconst 3, 1, 0, 0, 0) := rfl
theorem r236_446 : Rn 236 (446, [x0, x1, x2, x3], st, a, h) = Rn 236 (447, [x0, x1, x2, x3], .int (3 : Int32) :: st, a, h) := Rn_go c236_446 rfl
theorem c236_447 : mcode 236 447 = some (.iadd, 1, 0, 0, 0) := rfl
theorem r236_447 : Rn 236 (447, [x0, x1, x2, x3], .int j :: .int i :: st, a, h) = Rn 236 (448, [x0, x1, x2, x3], .int (i + j) :: st, a, h) := Rn_go c236_447 rfl
theorem c236_448 : mcode 236 448 = some (.iaload, 1, 0, 0, 0) := rfl
theorem r236_448 : Rn 236 (448, [x0, x1, x2, x3], .int i :: .ref q :: st, a, h) = Ki 236 449 [x0, x1, x2, x3] st a h (mld h q i false) := Rn_iald c236_448 rfl
theorem c236_449 : mcode 236 449 = some (.invokevirtual 43, 3, 152, 3, 6) := rfl
theorem r236_449 : Rn 236 (449, [x0, x1, x2, x3], [v2, v1, v0, .ref q, .int i0], a, h) = if mis h q 6 = true then Bk 236 452 [x0, x1, x2, x3] [.int i0] (Ec 152 [.ref q, v0, v1, v2] a h) else none := Rn_call1 c236_449 rfl (Nat.le_of_ble_eq_true rfl) rfl rfl (Nat.le_of_ble_eq_true rfl)
theorem c236_452 : mcode 236 452 = some (.if_icmp .eq 1051, 3, 0, 0, 0) := rfl
theorem r236_452 : Rn 236 (452, [x0, x1, x2, x3], .int j :: .int i :: st, a, h) = if i = j then Rn 236 (1503, [x0, x1, x2, x3], st, a, h) else Rn 236 (455, [x0, x1, x2, x3], st, a, h) := Rn_icmp c236_452 mc_eq rfl rfl
theorem c236_455 : mcode 236 455 = some (.iconst 0, 1, 0, 0, 0) := rfl
theorem r236_455 : Rn 236 (455, [x0, x1, x2, x3], st, a, h) = Rn 236 (456, [x0, x1, x2, x3], .int (0 : Int32) :: st, a, h) := Rn_go c236_455 rfl
theorem c236_456 : mcode 236 456 = some (.ireturn, 1, 1, 0, 0) := rfl
theorem r236_456 : Rn 236 (456, [x0, x1, x2, x3], [.int i], a, h) = if mrt 1 i = true then some (some (.int i), a, h) else none := Rn_iretz c236_456
theorem c236_457 : mcode 236 457 = some (.aload_n 1, 1, 0, 0, 0) := rfl
theorem r236_457 : Rn 236 (457, [x0, some (.ref q), x2, x3], st, a, h) = Rn 236 (458, [x0, some (.ref q), x2, x3], .ref q :: st, a, h) := Rn_go c236_457 rfl
theorem c236_458 : mcode 236 458 = some (.aload_n 0, 1, 0, 0, 0) := rfl
theorem r236_458 : Rn 236 (458, [some (.ref q), x1, x2, x3], st, a, h) = Rn 236 (459, [some (.ref q), x1, x2, x3], .ref q :: st, a, h) := Rn_go c236_458 rfl
theorem c236_459 : mcode 236 459 = some (.iload_n 3, 1, 0, 0, 0) := rfl
theorem r236_459 : Rn 236 (459, [x0, x1, x2, some (.int i)], st, a, h) = Rn 236 (460, [x0, x1, x2, some (.int i)], .int i :: st, a, h) := Rn_go c236_459 rfl
theorem c236_460 : mcode 236 460 = some (.iconst 1, 1, 0, 0, 0) := rfl
theorem r236_460 : Rn 236 (460, [x0, x1, x2, x3], st, a, h) = Rn 236 (461, [x0, x1, x2, x3], .int (1 : Int32) :: st, a, h) := Rn_go c236_460 rfl
theorem c236_461 : mcode 236 461 = some (.iadd, 1, 0, 0, 0) := rfl
theorem r236_461 : Rn 236 (461, [x0, x1, x2, x3], .int j :: .int i :: st, a, h) = Rn 236 (462, [x0, x1, x2, x3], .int (i + j) :: st, a, h) := Rn_go c236_461 rfl
theorem c236_462 : mcode 236 462 = some (.iaload, 1, 0, 0, 0) := rfl
theorem r236_462 : Rn 236 (462, [x0, x1, x2, x3], .int i :: .ref q :: st, a, h) = Ki 236 463 [x0, x1, x2, x3] st a h (mld h q i false) := Rn_iald c236_462 rfl
theorem c236_463 : mcode 236 463 = some (.invokevirtual 44, 3, 70, 1, 5) := rfl
theorem r236_463 : Rn 236 (463, [x0, x1, x2, x3], [v0, .ref q], a, h) = if mis h q 5 = true then Bk 236 466 [x0, x1, x2, x3] [] (Ec 70 [.ref q, v0] a h) else none := Rn_call1 c236_463 rfl (Nat.le_of_ble_eq_true rfl) rfl rfl (Nat.le_of_ble_eq_true rfl)
theorem c236_466 : mcode 236 466 = some (.aload_n 2, 1, 0, 0, 0) := rfl
theorem r236_466 : Rn 236 (466, [x0, x1, some (.ref q), x3], st, a, h) = Rn 236 (467, [x0, x1, some (.ref q), x3], .ref q :: st, a, h) := Rn_go c236_466 rfl
theorem c236_467 : mcode 236 467 = some (.aload_n 0, 1, 0, 0, 0) := rfl
theorem r236_467 : Rn 236 (467, [some (.ref q), x1, x2, x3], st, a, h) = Rn 236 (468, [some (.ref q), x1, x2, x3], .ref q :: st, a, h) := Rn_go c236_467 rfl
theorem c236_468 : mcode 236 468 = some (.iload_n 3, 1, 0, 0, 0) := rfl
theorem r236_468 : Rn 236 (468, [x0, x1, x2, some (.int i)], st, a, h) = Rn 236 (469, [x0, x1, x2, some (.int i)], .int i :: st, a, h) := Rn_go c236_468 rfl
theorem c236_469 : mcode 236 469 = some (.iconst 1, 1, 0, 0, 0) := rfl
theorem r236_469 : Rn 236 (469, [x0, x1, x2, x3], st, a, h) = Rn 236 (470, [x0, x1, x2, x3], .int (1 : Int32) :: st, a, h) := Rn_go c236_469 rfl
theorem c236_470 : mcode 236 470 = some (.iadd, 1, 0, 0, 0) := rfl
theorem r236_470 : Rn 236 (470, [x0, x1, x2, x3], .int j :: .int i :: st, a, h) = Rn 236 (471, [x0, x1, x2, x3], .int (i + j) :: st, a, h) := Rn_go c236_470 rfl
theorem c236_471 : mcode 236 471 = some (.iaload, 1, 0, 0, 0) := rfl
theorem r236_471 : Rn 236 (471, [x0, x1, x2, x3], .int i :: .ref q :: st, a, h) = Ki 236 472 [x0, x1, x2, x3] st a h (mld h q i false) := Rn_iald c236_471 rfl
theorem c236_472 : mcode 236 472 = some (.invokevirtual 47, 3, 161, 1, 6) := rfl
theorem r236_472 : Rn 236 (472, [x0, x1, x2, x3], [v0, .ref q, .int i0], a, h) = if mis h q 6 = true then Bk 236 475 [x0, x1, x2, x3] [.int i0] (Ec 161 [.ref q, v0] a h) else none := Rn_call1 c236_472 rfl (Nat.le_of_ble_eq_true rfl) rfl rfl (Nat.le_of_ble_eq_true rfl)
theorem c236_475 : mcode 236 475 = some (.if_icmp .eq 1028, 3, 0, 0, 0) := rfl
theorem r236_475 : Rn 236 (475, [x0, x1, x2, x3], .int j :: .int i :: st, a, h) = if i = j then Rn 236 (1503, [x0, x1, x2, x3], st, a, h) else Rn 236 (478, [x0, x1, x2, x3], st, a, h) := Rn_icmp c236_475 mc_eq rfl rfl
theorem c236_478 : mcode 236 478 = some (.iconst 0, 1, 0, 0, 0) := rfl
theorem r236_478 : Rn 236 (478, [x0, x1, x2, x3], st, a, h) = Rn 236 (479, [x0, x1, x2, x3], .int (0 : Int32) :: st, a, h) := Rn_go c236_478 rfl
theorem c236_479 : mcode 236 479 = some (.ireturn, 1, 1, 0, 0) := rfl
theorem r236_479 : Rn 236 (479, [x0, x1, x2, x3], [.int i], a, h) = if mrt 1 i = true then some (some (.int i), a, h) else none := Rn_iretz c236_479
theorem c236_480 : mcode 236 480 = some (.aload_n 1, 1, 0, 0, 0) := rfl
theorem r236_480 : Rn 236 (480, [x0, some (.ref q), x2, x3], st, a, h) = Rn 236 (481, [x0, some (.ref q), x2, x3], .ref q :: st, a, h) := Rn_go c236_480 rfl
theorem c236_481 : mcode 236 481 = some (.aload_n 0, 1, 0, 0, 0) := rfl
theorem r236_481 : Rn 236 (481, [some (.ref q), x1, x2, x3], st, a, h) = Rn 236 (482, [some (.ref q), x1, x2, x3], .ref q :: st, a, h) := Rn_go c236_481 rfl
theorem c236_482 : mcode 236 482 = some (.iload_n 3, 1, 0, 0, 0) := rfl
theorem r236_482 : Rn 236 (482, [x0, x1, x2, some (.int i)], st, a, h) = Rn 236 (483, [x0, x1, x2, some (.int i)], .int i :: st, a, h) := Rn_go c236_482 rfl
theorem c236_483 : mcode 236 483 = some (.iconst 1, 1, 0, 0, 0) := rfl
theorem r236_483 : Rn 236 (483, [x0, x1, x2, x3], st, a, h) = Rn 236 (484, [x0, x1, x2, x3], .int (1 : Int32) :: st, a, h) := Rn_go c236_483 rfl
theorem c236_484 : mcode 236 484 = some (.iadd, 1, 0, 0, 0) := rfl
theorem r236_484 : Rn 236 (484, [x0, x1, x2, x3], .int j :: .int i :: st, a, h) = Rn 236 (485, [x0, x1, x2, x3], .int (i + j) :: st, a, h) := Rn_go c236_484 rfl
theorem c236_485 : mcode 236 485 = some (.iaload, 1, 0, 0, 0) := rfl
theorem r236_485 : Rn 236 (485, [x0, x1, x2, x3], .int i :: .ref q :: st, a, h) = Ki 236 486 [x0, x1, x2, x3] st a h (mld h q i false) := Rn_iald c236_485 rfl
theorem c236_486 : mcode 236 486 = some (.invokevirtual 48, 3, 71, 1, 5) := rfl
theorem r236_486 : Rn 236 (486, [x0, x1, x2, x3], [v0, .ref q], a, h) = if mis h q 5 = true then Bk 236 489 [x0, x1, x2, x3] [] (Ec 71 [.ref q, v0] a h) else none := Rn_call1 c236_486 rfl (Nat.le_of_ble_eq_true rfl) rfl rfl (Nat.le_of_ble_eq_true rfl)
theorem c236_489 : mcode 236 489 = some (.aload_n 2, 1, 0, 0, 0) := rfl
theorem r236_489 : Rn 236 (489, [x0, x1, some (.ref q), x3], st, a, h) = Rn 236 (490, [x0, x1, some (.ref q), x3], .ref q :: st, a, h) := Rn_go c236_489 rfl
theorem c236_490 : mcode 236 490 = some (.aload_n 0, 1, 0, 0, 0) := rfl
theorem r236_490 : Rn 236 (490, [some (.ref q), x1, x2, x3], st, a, h) = Rn 236 (491, [some (.ref q), x1, x2, x3], .ref q :: st, a, h) := Rn_go c236_490 rfl
theorem c236_491 : mcode 236 491 = some (.iload_n 3, 1, 0, 0, 0) := rfl
theorem r236_491 : Rn 236 (491, [x0, x1, x2, some (.int i)], st, a, h) = Rn 236 (492, [x0, x1, x2, some (.int i)], .int i :: st, a, h) := Rn_go c236_491 rfl
theorem c236_492 : mcode 236 492 = some (.iconst 1, 1, 0, 0, 0) := rfl
theorem r236_492 : Rn 236 (492, [x0, x1, x2, x3], st, a, h) = Rn 236 (493, [x0, x1, x2, x3], .int (1 : Int32) :: st, a, h) := Rn_go c236_492 rfl
theorem c236_493 : mcode 236 493 = some (.iadd, 1, 0, 0, 0) := rfl
theorem r236_493 : Rn 236 (493, [x0, x1, x2, x3], .int j :: .int i :: st, a, h) = Rn 236 (494, [x0, x1, x2, x3], .int (i + j) :: st, a, h) := Rn_go c236_493 rfl
theorem c236_494 : mcode 236 494 = some (.iaload, 1, 0, 0, 0) := rfl
theorem r236_494 : Rn 236 (494, [x0, x1, x2, x3], .int i :: .ref q :: st, a, h) = Ki 236 495 [x0, x1, x2, x3] st a h (mld h q i false) := Rn_iald c236_494 rfl
theorem c236_495 : mcode 236 495 = some (.invokevirtual 51, 3, 165, 1, 6) := rfl
theorem r236_495 : Rn 236 (495, [x0, x1, x2, x3], [v0, .ref q, .int i0], a, h) = if mis h q 6 = true then Bk 236 498 [x0, x1, x2, x3] [.int i0] (Ec 165 [.ref q, v0] a h) else none := Rn_call1 c236_495 rfl (Nat.le_of_ble_eq_true rfl) rfl rfl (Nat.le_of_ble_eq_true rfl)
theorem c236_498 : mcode 236 498 = some (.if_icmp .eq 1005, 3, 0, 0, 0) := rfl
theorem r236_498 : Rn 236 (498, [x0, x1, x2, x3], .int j :: .int i :: st, a, h) = if i = j then Rn 236 (1503, [x0, x1, x2, x3], st, a, h) else Rn 236 (501, [x0, x1, x2, x3], st, a, h) := Rn_icmp c236_498 mc_eq rfl rfl
theorem c236_501 : mcode 236 501 = some (.iconst 0, 1, 0, 0, 0) := rfl
theorem r236_501 : Rn 236 (501, [x0, x1, x2, x3], st, a, h) = Rn 236 (502, [x0, x1, x2, x3], .int (0 : Int32) :: st, a, h) := Rn_go c236_501 rfl
theorem c236_502 : mcode 236 502 = some (.ireturn, 1, 1, 0, 0) := rfl
theorem r236_502 : Rn 236 (502, [x0, x1, x2, x3], [.int i], a, h) = if mrt 1 i = true then some (some (.int i), a, h) else none := Rn_iretz c236_502
theorem c236_503 : mcode 236 503 = some (.aload_n 1, 1, 0, 0, 0) := rfl
theorem r236_503 : Rn 236 (503, [x0, some (.ref q), x2, x3], st, a, h) = Rn 236 (504, [x0, some (.ref q), x2, x3], .ref q :: st, a, h) := Rn_go c236_503 rfl
theorem c236_504 : mcode 236 504 = some (.aload_n 0, 1, 0, 0, 0) := rfl
theorem r236_504 : Rn 236 (504, [some (.ref q), x1, x2, x3], st, a, h) = Rn 236 (505, [some (.ref q), x1, x2, x3], .ref q :: st, a, h) := Rn_go c236_504 rfl
theorem c236_505 : mcode 236 505 = some (.iload_n 3, 1, 0, 0, 0) := rfl
theorem r236_505 : Rn 236 (505, [x0, x1, x2, some (.int i)], st, a, h) = Rn 236 (506, [x0, x1, x2, some (.int i)], .int i :: st, a, h) := Rn_go c236_505 rfl
theorem c236_506 : mcode 236 506 = some (.iconst 1, 1, 0, 0, 0) := rfl
theorem r236_506 : Rn 236 (506, [x0, x1, x2, x3], st, a, h) = Rn 236 (507, [x0, x1, x2, x3], .int (1 : Int32) :: st, a, h) := Rn_go c236_506 rfl
theorem c236_507 : mcode 236 507 = some (.iadd, 1, 0, 0, 0) := rfl
theorem r236_507 : Rn 236 (507, [x0, x1, x2, x3], .int j :: .int i :: st, a, h) = Rn 236 (508, [x0, x1, x2, x3], .int (i + j) :: st, a, h) := Rn_go c236_507 rfl
theorem c236_508 : mcode 236 508 = some (.iaload, 1, 0, 0, 0) := rfl
theorem r236_508 : Rn 236 (508, [x0, x1, x2, x3], .int i :: .ref q :: st, a, h) = Ki 236 509 [x0, x1, x2, x3] st a h (mld h q i false) := Rn_iald c236_508 rfl
theorem c236_509 : mcode 236 509 = some (.aload_n 0, 1, 0, 0, 0) := rfl
theorem r236_509 : Rn 236 (509, [some (.ref q), x1, x2, x3], st, a, h) = Rn 236 (510, [some (.ref q), x1, x2, x3], .ref q :: st, a, h) := Rn_go c236_509 rfl
theorem c236_510 : mcode 236 510 = some (.iload_n 3, 1, 0, 0, 0) := rfl
theorem r236_510 : Rn 236 (510, [x0, x1, x2, some (.int i)], st, a, h) = Rn 236 (511, [x0, x1, x2, some (.int i)], .int i :: st, a, h) := Rn_go c236_510 rfl
theorem c236_511 : mcode 236 511 = some (.iconst 2, 1, 0, 0, 0) := rfl
theorem r236_511 : Rn 236 (511, [x0, x1, x2, x3], st, a, h) = Rn 236 (512, [x0, x1, x2, x3], .int (2 : Int32) :: st, a, h) := Rn_go c236_511 rfl
theorem c236_512 : mcode 236 512 = some (.iadd, 1, 0, 0, 0) := rfl
theorem r236_512 : Rn 236 (512, [x0, x1, x2, x3], .int j :: .int i :: st, a, h) = Rn 236 (513, [x0, x1, x2, x3], .int (i + j) :: st, a, h) := Rn_go c236_512 rfl
theorem c236_513 : mcode 236 513 = some (.iaload, 1, 0, 0, 0) := rfl
theorem r236_513 : Rn 236 (513, [x0, x1, x2, x3], .int i :: .ref q :: st, a, h) = Ki 236 514 [x0, x1, x2, x3] st a h (mld h q i false) := Rn_iald c236_513 rfl
theorem c236_514 : mcode 236 514 = some (.aload_n 0, 1, 0, 0, 0) := rfl
theorem r236_514 : Rn 236 (514, [some (.ref q), x1, x2, x3], st, a, h) = Rn 236 (515, [some (.ref q), x1, x2, x3], .ref q :: st, a, h) := Rn_go c236_514 rfl
theorem c236_515 : mcode 236 515 = some (.iload_n 3, 1, 0, 0, 0) := rfl
theorem r236_515 : Rn 236 (515, [x0, x1, x2, some (.int i)], st, a, h) = Rn 236 (516, [x0, x1, x2, some (.int i)], .int i :: st, a, h) := Rn_go c236_515 rfl
theorem c236_516 : mcode 236 516 = some (.iconst 3, 1, 0, 0, 0) := rfl
theorem r236_516 : Rn 236 (516, [x0, x1, x2, x3], st, a, h) = Rn 236 (517, [x0, x1, x2, x3], .int (3 : Int32) :: st, a, h) := Rn_go c236_516 rfl
theorem c236_517 : mcode 236 517 = some (.iadd, 1, 0, 0, 0) := rfl
theorem r236_517 : Rn 236 (517, [x0, x1, x2, x3], .int j :: .int i :: st, a, h) = Rn 236 (518, [x0, x1, x2, x3], .int (i + j) :: st, a, h) := Rn_go c236_517 rfl
theorem c236_518 : mcode 236 518 = some (.iaload, 1, 0, 0, 0) := rfl
theorem r236_518 : Rn 236 (518, [x0, x1, x2, x3], .int i :: .ref q :: st, a, h) = Ki 236 519 [x0, x1, x2, x3] st a h (mld h q i false) := Rn_iald c236_518 rfl
theorem c236_519 : mcode 236 519 = some (.invokevirtual 52, 3, 72, 3, 5) := rfl
theorem r236_519 : Rn 236 (519, [x0, x1, x2, x3], [v2, v1, v0, .ref q], a, h) = if mis h q 5 = true then Bk 236 522 [x0, x1, x2, x3] [] (Ec 72 [.ref q, v0, v1, v2] a h) else none := Rn_call1 c236_519 rfl (Nat.le_of_ble_eq_true rfl) rfl rfl (Nat.le_of_ble_eq_true rfl)
theorem c236_522 : mcode 236 522 = some (.aload_n 2, 1, 0, 0, 0) := rfl
theorem r236_522 : Rn 236 (522, [x0, x1, some (.ref q), x3], st, a, h) = Rn 236 (523, [x0, x1, some (.ref q), x3], .ref q :: st, a, h) := Rn_go c236_522 rfl
theorem c236_523 : mcode 236 523 = some (.aload_n 0, 1, 0, 0, 0) := rfl
theorem r236_523 : Rn 236 (523, [some (.ref q), x1, x2, x3], st, a, h) = Rn 236 (524, [some (.ref q), x1, x2, x3], .ref q :: st, a, h) := Rn_go c236_523 rfl
theorem c236_524 : mcode 236 524 = some (.iload_n 3, 1, 0, 0, 0) := rfl
theorem r236_524 : Rn 236 (524, [x0, x1, x2, some (.int i)], st, a, h) = Rn 236 (525, [x0, x1, x2, some (.int i)], .int i :: st, a, h) := Rn_go c236_524 rfl
theorem c236_525 : mcode 236 525 = some (.iconst 1, 1, 0, 0, 0) := rfl
theorem r236_525 : Rn 236 (525, [x0, x1, x2, x3], st, a, h) = Rn 236 (526, [x0, x1, x2, x3], .int (1 : Int32) :: st, a, h) := Rn_go c236_525 rfl
theorem c236_526 : mcode 236 526 = some (.iadd, 1, 0, 0, 0) := rfl
theorem r236_526 : Rn 236 (526, [x0, x1, x2, x3], .int j :: .int i :: st, a, h) = Rn 236 (527, [x0, x1, x2, x3], .int (i + j) :: st, a, h) := Rn_go c236_526 rfl
theorem c236_527 : mcode 236 527 = some (.iaload, 1, 0, 0, 0) := rfl
theorem r236_527 : Rn 236 (527, [x0, x1, x2, x3], .int i :: .ref q :: st, a, h) = Ki 236 528 [x0, x1, x2, x3] st a h (mld h q i false) := Rn_iald c236_527 rfl
theorem c236_528 : mcode 236 528 = some (.aload_n 0, 1, 0, 0, 0) := rfl
theorem r236_528 : Rn 236 (528, [some (.ref q), x1, x2, x3], st, a, h) = Rn 236 (529, [some (.ref q), x1, x2, x3], .ref q :: st, a, h) := Rn_go c236_528 rfl
theorem c236_529 : mcode 236 529 = some (.iload_n 3, 1, 0, 0, 0) := rfl
theorem r236_529 : Rn 236 (529, [x0, x1, x2, some (.int i)], st, a, h) = Rn 236 (530, [x0, x1, x2, some (.int i)], .int i :: st, a, h) := Rn_go c236_529 rfl
theorem c236_530 : mcode 236 530 = some (.iconst 2, 1, 0, 0, 0) := rfl
theorem r236_530 : Rn 236 (530, [x0, x1, x2, x3], st, a, h) = Rn 236 (531, [x0, x1, x2, x3], .int (2 : Int32) :: st, a, h) := Rn_go c236_530 rfl
theorem c236_531 : mcode 236 531 = some (.iadd, 1, 0, 0, 0) := rfl
theorem r236_531 : Rn 236 (531, [x0, x1, x2, x3], .int j :: .int i :: st, a, h) = Rn 236 (532, [x0, x1, x2, x3], .int (i + j) :: st, a, h) := Rn_go c236_531 rfl
theorem c236_532 : mcode 236 532 = some (.iaload, 1, 0, 0, 0) := rfl
theorem r236_532 : Rn 236 (532, [x0, x1, x2, x3], .int i :: .ref q :: st, a, h) = Ki 236 533 [x0, x1, x2, x3] st a h (mld h q i false) := Rn_iald c236_532 rfl
theorem c236_533 : mcode 236 533 = some (.aload_n 0, 1, 0, 0, 0) := rfl
theorem r236_533 : Rn 236 (533, [some (.ref q), x1, x2, x3], st, a, h) = Rn 236 (534, [some (.ref q), x1, x2, x3], .ref q :: st, a, h) := Rn_go c236_533 rfl
theorem c236_534 : mcode 236 534 = some (.iload_n 3, 1, 0, 0, 0) := rfl
theorem r236_534 : Rn 236 (534, [x0, x1, x2, some (.int i)], st, a, h) = Rn 236 (535, [x0, x1, x2, some (.int i)], .int i :: st, a, h) := Rn_go c236_534 rfl
theorem c236_535 : mcode 236 535 = some (.iconst 3, 1, 0, 0, 0) := rfl
theorem r236_535 : Rn 236 (535, [x0, x1, x2, x3], st, a, h) = Rn 236 (536, [x0, x1, x2, x3], .int (3 : Int32) :: st, a, h) := Rn_go c236_535 rfl
theorem c236_536 : mcode 236 536 = some (.iadd, 1, 0, 0, 0) := rfl
theorem r236_536 : Rn 236 (536, [x0, x1, x2, x3], .int j :: .int i :: st, a, h) = Rn 236 (537, [x0, x1, x2, x3], .int (i + j) :: st, a, h) := Rn_go c236_536 rfl
theorem c236_537 : mcode 236 537 = some (.iaload, 1, 0, 0, 0) := rfl
theorem r236_537 : Rn 236 (537, [x0, x1, x2, x3], .int i :: .ref q :: st, a, h) = Ki 236 538 [x0, x1, x2, x3] st a h (mld h q i false) := Rn_iald c236_537 rfl
theorem c236_538 : mcode 236 538 = some (.invokevirtual 55, 3, 167, 3, 6) := rfl
theorem r236_538 : Rn 236 (538, [x0, x1, x2, x3], [v2, v1, v0, .ref q, .int i0], a, h) = if mis h q 6 = true then Bk 236 541 [x0, x1, x2, x3] [.int i0] (Ec 167 [.ref q, v0, v1, v2] a h) else none := Rn_call1 c236_538 rfl (Nat.le_of_ble_eq_true rfl) rfl rfl (Nat.le_of_ble_eq_true rfl)
theorem c236_541 : mcode 236 541 = some (.if_icmp .eq 962, 3, 0, 0, 0) := rfl
theorem r236_541 : Rn 236 (541, [x0, x1, x2, x3], .int j :: .int i :: st, a, h) = if i = j then Rn 236 (1503, [x0, x1, x2, x3], st, a, h) else Rn 236 (544, [x0, x1, x2, x3], st, a, h) := Rn_icmp c236_541 mc_eq rfl rfl
theorem c236_544 : mcode 236 544 = some (.iconst 0, 1, 0, 0, 0) := rfl
theorem r236_544 : Rn 236 (544, [x0, x1, x2, x3], st, a, h) = Rn 236 (545, [x0, x1, x2, x3], .int (0 : Int32) :: st, a, h) := Rn_go c236_544 rfl
theorem c236_545 : mcode 236 545 = some (.ireturn, 1, 1, 0, 0) := rfl
theorem r236_545 : Rn 236 (545, [x0, x1, x2, x3], [.int i], a, h) = if mrt 1 i = true then some (some (.int i), a, h) else none := Rn_iretz c236_545
theorem c236_546 : mcode 236 546 = some (.aload_n 1, 1, 0, 0, 0) := rfl
theorem r236_546 : Rn 236 (546, [x0, some (.ref q), x2, x3], st, a, h) = Rn 236 (547, [x0, some (.ref q), x2, x3], .ref q :: st, a, h) := Rn_go c236_546 rfl
theorem c236_547 : mcode 236 547 = some (.aload_n 0, 1, 0, 0, 0) := rfl
theorem r236_547 : Rn 236 (547, [some (.ref q), x1, x2, x3], st, a, h) = Rn 236 (548, [some (.ref q), x1, x2, x3], .ref q :: st, a, h) := Rn_go c236_547 rfl
theorem c236_548 : mcode 236 548 = some (.iload_n 3, 1, 0, 0, 0) := rfl
theorem r236_548 : Rn 236 (548, [x0, x1, x2, some (.int i)], st, a, h) = Rn 236 (549, [x0, x1, x2, some (.int i)], .int i :: st, a, h) := Rn_go c236_548 rfl
theorem c236_549 : mcode 236 549 = some (.iconst 1, 1, 0, 0, 0) := rfl
theorem r236_549 : Rn 236 (549, [x0, x1, x2, x3], st, a, h) = Rn 236 (550, [x0, x1, x2, x3], .int (1 : Int32) :: st, a, h) := Rn_go c236_549 rfl
theorem c236_550 : mcode 236 550 = some (.iadd, 1, 0, 0, 0) := rfl
theorem r236_550 : Rn 236 (550, [x0, x1, x2, x3], .int j :: .int i :: st, a, h) = Rn 236 (551, [x0, x1, x2, x3], .int (i + j) :: st, a, h) := Rn_go c236_550 rfl
theorem c236_551 : mcode 236 551 = some (.iaload, 1, 0, 0, 0) := rfl
theorem r236_551 : Rn 236 (551, [x0, x1, x2, x3], .int i :: .ref q :: st, a, h) = Ki 236 552 [x0, x1, x2, x3] st a h (mld h q i false) := Rn_iald c236_551 rfl
theorem c236_552 : mcode 236 552 = some (.aload_n 0, 1, 0, 0, 0) := rfl
theorem r236_552 : Rn 236 (552, [some (.ref q), x1, x2, x3], st, a, h) = Rn 236 (553, [some (.ref q), x1, x2, x3], .ref q :: st, a, h) := Rn_go c236_552 rfl
theorem c236_553 : mcode 236 553 = some (.iload_n 3, 1, 0, 0, 0) := rfl
theorem r236_553 : Rn 236 (553, [x0, x1, x2, some (.int i)], st, a, h) = Rn 236 (554, [x0, x1, x2, some (.int i)], .int i :: st, a, h) := Rn_go c236_553 rfl
theorem c236_554 : mcode 236 554 = some (.iconst 2, 1, 0, 0, 0) := rfl
theorem r236_554 : Rn 236 (554, [x0, x1, x2, x3], st, a, h) = Rn 236 (555, [x0, x1, x2, x3], .int (2 : Int32) :: st, a, h) := Rn_go c236_554 rfl
theorem c236_555 : mcode 236 555 = some (.iadd, 1, 0, 0, 0) := rfl
theorem r236_555 : Rn 236 (555, [x0, x1, x2, x3], .int j :: .int i :: st, a, h) = Rn 236 (556, [x0, x1, x2, x3], .int (i + j) :: st, a, h) := Rn_go c236_555 rfl
theorem c236_556 : mcode 236 556 = some (.iaload, 1, 0, 0, 0) := rfl
theorem r236_556 : Rn 236 (556, [x0, x1, x2, x3], .int i :: .ref q :: st, a, h) = Ki 236 557 [x0, x1, x2, x3] st a h (mld h q i false) := Rn_iald c236_556 rfl
theorem c236_557 : mcode 236 557 = some (.aload_n 0, 1, 0, 0, 0) := rfl
theorem r236_557 : Rn 236 (557, [some (.ref q), x1, x2, x3], st, a, h) = Rn 236 (558, [some (.ref q), x1, x2, x3], .ref q :: st, a, h) := Rn_go c236_557 rfl
theorem c236_558 : mcode 236 558 = some (.iload_n 3, 1, 0, 0, 0) := rfl
theorem r236_558 : Rn 236 (558, [x0, x1, x2, some (.int i)], st, a, h) = Rn 236 (559, [x0, x1, x2, some (.int i)], .int i :: st, a, h) := Rn_go c236_558 rfl
theorem c236_559 : mcode 236 559 = some (.iconst 3, 1, 0, 0, 0) := rfl
theorem r236_559 : Rn 236 (559, [x0, x1, x2, x3], st, a, h) = Rn 236 (560, [x0, x1, x2, x3], .int (3 : Int32) :: st, a, h) := Rn_go c236_559 rfl
theorem c236_560 : mcode 236 560 = some (.iadd, 1, 0, 0, 0) := rfl
theorem r236_560 : Rn 236 (560, [x0, x1, x2, x3], .int j :: .int i :: st, a, h) = Rn 236 (561, [x0, x1, x2, x3], .int (i + j) :: st, a, h) := Rn_go c236_560 rfl
theorem c236_561 : mcode 236 561 = some (.iaload, 1, 0, 0, 0) := rfl
theorem r236_561 : Rn 236 (561, [x0, x1, x2, x3], .int i :: .ref q :: st, a, h) = Ki 236 562 [x0, x1, x2, x3] st a h (mld h q i false) := Rn_iald c236_561 rfl
theorem c236_562 : mcode 236 562 = some (.invokevirtual 56, 3, 73, 3, 5) := rfl
theorem r236_562 : Rn 236 (562, [x0, x1, x2, x3], [v2, v1, v0, .ref q], a, h) = if mis h q 5 = true then Bk 236 565 [x0, x1, x2, x3] [] (Ec 73 [.ref q, v0, v1, v2] a h) else none := Rn_call1 c236_562 rfl (Nat.le_of_ble_eq_true rfl) rfl rfl (Nat.le_of_ble_eq_true rfl)
theorem c236_565 : mcode 236 565 = some (.aload_n 2, 1, 0, 0, 0) := rfl
theorem r236_565 : Rn 236 (565, [x0, x1, some (.ref q), x3], st, a, h) = Rn 236 (566, [x0, x1, some (.ref q), x3], .ref q :: st, a, h) := Rn_go c236_565 rfl
theorem c236_566 : mcode 236 566 = some (.aload_n 0, 1, 0, 0, 0) := rfl
theorem r236_566 : Rn 236 (566, [some (.ref q), x1, x2, x3], st, a, h) = Rn 236 (567, [some (.ref q), x1, x2, x3], .ref q :: st, a, h) := Rn_go c236_566 rfl
theorem c236_567 : mcode 236 567 = some (.iload_n 3, 1, 0, 0, 0) := rfl
theorem r236_567 : Rn 236 (567, [x0, x1, x2, some (.int i)], st, a, h) = Rn 236 (568, [x0, x1, x2, some (.int i)], .int i :: st, a, h) := Rn_go c236_567 rfl
theorem c236_568 : mcode 236 568 = some (.iconst 1, 1, 0, 0, 0) := rfl
theorem r236_568 : Rn 236 (568, [x0, x1, x2, x3], st, a, h) = Rn 236 (569, [x0, x1, x2, x3], .int (1 : Int32) :: st, a, h) := Rn_go c236_568 rfl
theorem c236_569 : mcode 236 569 = some (.iadd, 1, 0, 0, 0) := rfl
theorem r236_569 : Rn 236 (569, [x0, x1, x2, x3], .int j :: .int i :: st, a, h) = Rn 236 (570, [x0, x1, x2, x3], .int (i + j) :: st, a, h) := Rn_go c236_569 rfl
theorem c236_570 : mcode 236 570 = some (.iaload, 1, 0, 0, 0) := rfl
theorem r236_570 : Rn 236 (570, [x0, x1, x2, x3], .int i :: .ref q :: st, a, h) = Ki 236 571 [x0, x1, x2, x3] st a h (mld h q i false) := Rn_iald c236_570 rfl
theorem c236_571 : mcode 236 571 = some (.aload_n 0, 1, 0, 0, 0) := rfl
theorem r236_571 : Rn 236 (571, [some (.ref q), x1, x2, x3], st, a, h) = Rn 236 (572, [some (.ref q), x1, x2, x3], .ref q :: st, a, h) := Rn_go c236_571 rfl
theorem c236_572 : mcode 236 572 = some (.iload_n 3, 1, 0, 0, 0) := rfl
theorem r236_572 : Rn 236 (572, [x0, x1, x2, some (.int i)], st, a, h) = Rn 236 (573, [x0, x1, x2, some (.int i)], .int i :: st, a, h) := Rn_go c236_572 rfl
theorem c236_573 : mcode 236 573 = some (.iconst 2, 1, 0, 0, 0) := rfl
theorem r236_573 : Rn 236 (573, [x0, x1, x2, x3], st, a, h) = Rn 236 (574, [x0, x1, x2, x3], .int (2 : Int32) :: st, a, h) := Rn_go c236_573 rfl
theorem c236_574 : mcode 236 574 = some (.iadd, 1, 0, 0, 0) := rfl
theorem r236_574 : Rn 236 (574, [x0, x1, x2, x3], .int j :: .int i :: st, a, h) = Rn 236 (575, [x0, x1, x2, x3], .int (i + j) :: st, a, h) := Rn_go c236_574 rfl
theorem c236_575 : mcode 236 575 = some (.iaload, 1, 0, 0, 0) := rfl
theorem r236_575 : Rn 236 (575, [x0, x1, x2, x3], .int i :: .ref q :: st, a, h) = Ki 236 576 [x0, x1, x2, x3] st a h (mld h q i false) := Rn_iald c236_575 rfl
theorem c236_576 : mcode 236 576 = some (.aload_n 0, 1, 0, 0, 0) := rfl
theorem r236_576 : Rn 236 (576, [some (.ref q), x1, x2, x3], st, a, h) = Rn 236 (577, [some (.ref q), x1, x2, x3], .ref q :: st, a, h) := Rn_go c236_576 rfl
theorem c236_577 : mcode 236 577 = some (.iload_n 3, 1, 0, 0, 0) := rfl
theorem r236_577 : Rn 236 (577, [x0, x1, x2, some (.int i)], st, a, h) = Rn 236 (578, [x0, x1, x2, some (.int i)], .int i :: st, a, h) := Rn_go c236_577 rfl
theorem c236_578 : mcode 236 578 = some (.iconst 3, 1, 0, 0, 0) := rfl
theorem r236_578 : Rn 236 (578, [x0, x1, x2, x3], st, a, h) = Rn 236 (579, [x0, x1, x2, x3], .int (3 : Int32) :: st, a, h) := Rn_go c236_578 rfl
theorem c236_579 : mcode 236 579 = some (.iadd, 1, 0, 0, 0) := rfl
theorem r236_579 : Rn 236 (579, [x0, x1, x2, x3], .int j :: .int i :: st, a, h) = Rn 236 (580, [x0, x1, x2, x3], .int (i + j) :: st, a, h) := Rn_go c236_579 rfl
theorem c236_580 : mcode 236 580 = some (.iaload, 1, 0, 0, 0) := rfl
theorem r236_580 : Rn 236 (580, [x0, x1, x2, x3], .int i :: .ref q :: st, a, h) = Ki 236 581 [x0, x1, x2, x3] st a h (mld h q i false) := Rn_iald c236_580 rfl
theorem c236_581 : mcode 236 581 = some (.invokevirtual 59, 3, 168, 3, 6) := rfl
theorem r236_581 : Rn 236 (581, [x0, x1, x2, x3], [v2, v1, v0, .ref q, .int i0], a, h) = if mis h q 6 = true then Bk 236 584 [x0, x1, x2, x3] [.int i0] (Ec 168 [.ref q, v0, v1, v2] a h) else none := Rn_call1 c236_581 rfl (Nat.le_of_ble_eq_true rfl) rfl rfl (Nat.le_of_ble_eq_true rfl)
theorem c236_584 : mcode 236 584 = some (.if_icmp .eq 919, 3, 0, 0, 0) := rfl
theorem r236_584 : Rn 236 (584, [x0, x1, x2, x3], .int j :: .int i :: st, a, h) = if i = j then Rn 236 (1503, [x0, x1, x2, x3], st, a, h) else Rn 236 (587, [x0, x1, x2, x3], st, a, h) := Rn_icmp c236_584 mc_eq rfl rfl
theorem c236_587 : mcode 236 587 = some (.iconst 0, 1, 0, 0, 0) := rfl
theorem r236_587 : Rn 236 (587, [x0, x1, x2, x3], st, a, h) = Rn 236 (588, [x0, x1, x2, x3], .int (0 : Int32) :: st, a, h) := Rn_go c236_587 rfl
theorem c236_588 : mcode 236 588 = some (.ireturn, 1, 1, 0, 0) := rfl
theorem r236_588 : Rn 236 (588, [x0, x1, x2, x3], [.int i], a, h) = if mrt 1 i = true then some (some (.int i), a, h) else none := Rn_iretz c236_588
theorem c236_589 : mcode 236 589 = some (.aload_n 1, 1, 0, 0, 0) := rfl
theorem r236_589 : Rn 236 (589, [x0, some (.ref q), x2, x3], st, a, h) = Rn 236 (590, [x0, some (.ref q), x2, x3], .ref q :: st, a, h) := Rn_go c236_589 rfl
theorem c236_590 : mcode 236 590 = some (.aload_n 0, 1, 0, 0, 0) := rfl
theorem r236_590 : Rn 236 (590, [some (.ref q), x1, x2, x3], st, a, h) = Rn 236 (591, [some (.ref q), x1, x2, x3], .ref q :: st, a, h) := Rn_go c236_590 rfl
theorem c236_591 : mcode 236 591 = some (.iload_n 3, 1, 0, 0, 0) := rfl
theorem r236_591 : Rn 236 (591, [x0, x1, x2, some (.int i)], st, a, h) = Rn 236 (592, [x0, x1, x2, some (.int i)], .int i :: st, a, h) := Rn_go c236_591 rfl
theorem c236_592 : mcode 236 592 = some (.iconst 1, 1, 0, 0, 0) := rfl
theorem r236_592 : Rn 236 (592, [x0, x1, x2, x3], st, a, h) = Rn 236 (593, [x0, x1, x2, x3], .int (1 : Int32) :: st, a, h) := Rn_go c236_592 rfl
theorem c236_593 : mcode 236 593 = some (.iadd, 1, 0, 0, 0) := rfl
theorem r236_593 : Rn 236 (593, [x0, x1, x2, x3], .int j :: .int i :: st, a, h) = Rn 236 (594, [x0, x1, x2, x3], .int (i + j) :: st, a, h) := Rn_go c236_593 rfl
theorem c236_594 : mcode 236 594 = some (.iaload, 1, 0, 0, 0) := rfl
theorem r236_594 : Rn 236 (594, [x0, x1, x2, x3], .int i :: .ref q :: st, a, h) = Ki 236 595 [x0, x1, x2, x3] st a h (mld h q i false) := Rn_iald c236_594 rfl
theorem c236_595 : mcode 236 595 = some (.invokevirtual 60, 3, 74, 1, 5) := rfl
theorem r236_595 : Rn 236 (595, [x0, x1, x2, x3], [v0, .ref q], a, h) = if mis h q 5 = true then Bk 236 598 [x0, x1, x2, x3] [] (Ec 74 [.ref q, v0] a h) else none := Rn_call1 c236_595 rfl (Nat.le_of_ble_eq_true rfl) rfl rfl (Nat.le_of_ble_eq_true rfl)
theorem c236_598 : mcode 236 598 = some (.aload_n 2, 1, 0, 0, 0) := rfl
theorem r236_598 : Rn 236 (598, [x0, x1, some (.ref q), x3], st, a, h) = Rn 236 (599, [x0, x1, some (.ref q), x3], .ref q :: st, a, h) := Rn_go c236_598 rfl
theorem c236_599 : mcode 236 599 = some (.aload_n 0, 1, 0, 0, 0) := rfl
theorem r236_599 : Rn 236 (599, [some (.ref q), x1, x2, x3], st, a, h) = Rn 236 (600, [some (.ref q), x1, x2, x3], .ref q :: st, a, h) := Rn_go c236_599 rfl
theorem c236_600 : mcode 236 600 = some (.iload_n 3, 1, 0, 0, 0) := rfl
theorem r236_600 : Rn 236 (600, [x0, x1, x2, some (.int i)], st, a, h) = Rn 236 (601, [x0, x1, x2, some (.int i)], .int i :: st, a, h) := Rn_go c236_600 rfl
theorem c236_601 : mcode 236 601 = some (.iconst 1, 1, 0, 0, 0) := rfl
theorem r236_601 : Rn 236 (601, [x0, x1, x2, x3], st, a, h) = Rn 236 (602, [x0, x1, x2, x3], .int (1 : Int32) :: st, a, h) := Rn_go c236_601 rfl
theorem c236_602 : mcode 236 602 = some (.iadd, 1, 0, 0, 0) := rfl
theorem r236_602 : Rn 236 (602, [x0, x1, x2, x3], .int j :: .int i :: st, a, h) = Rn 236 (603, [x0, x1, x2, x3], .int (i + j) :: st, a, h) := Rn_go c236_602 rfl
theorem c236_603 : mcode 236 603 = some (.iaload, 1, 0, 0, 0) := rfl
theorem r236_603 : Rn 236 (603, [x0, x1, x2, x3], .int i :: .ref q :: st, a, h) = Ki 236 604 [x0, x1, x2, x3] st a h (mld h q i false) := Rn_iald c236_603 rfl
theorem c236_604 : mcode 236 604 = some (.invokevirtual 63, 3, 169, 1, 6) := rfl
theorem r236_604 : Rn 236 (604, [x0, x1, x2, x3], [v0, .ref q, .int i0], a, h) = if mis h q 6 = true then Bk 236 607 [x0, x1, x2, x3] [.int i0] (Ec 169 [.ref q, v0] a h) else none := Rn_call1 c236_604 rfl (Nat.le_of_ble_eq_true rfl) rfl rfl (Nat.le_of_ble_eq_true rfl)
theorem c236_607 : mcode 236 607 = some (.if_icmp .eq 896, 3, 0, 0, 0) := rfl
theorem r236_607 : Rn 236 (607, [x0, x1, x2, x3], .int j :: .int i :: st, a, h) = if i = j then Rn 236 (1503, [x0, x1, x2, x3], st, a, h) else Rn 236 (610, [x0, x1, x2, x3], st, a, h) := Rn_icmp c236_607 mc_eq rfl rfl
theorem c236_610 : mcode 236 610 = some (.iconst 0, 1, 0, 0, 0) := rfl
theorem r236_610 : Rn 236 (610, [x0, x1, x2, x3], st, a, h) = Rn 236 (611, [x0, x1, x2, x3], .int (0 : Int32) :: st, a, h) := Rn_go c236_610 rfl
theorem c236_611 : mcode 236 611 = some (.ireturn, 1, 1, 0, 0) := rfl
theorem r236_611 : Rn 236 (611, [x0, x1, x2, x3], [.int i], a, h) = if mrt 1 i = true then some (some (.int i), a, h) else none := Rn_iretz c236_611
theorem c236_612 : mcode 236 612 = some (.aload_n 1, 1, 0, 0, 0) := rfl
theorem r236_612 : Rn 236 (612, [x0, some (.ref q), x2, x3], st, a, h) = Rn 236 (613, [x0, some (.ref q), x2, x3], .ref q :: st, a, h) := Rn_go c236_612 rfl
theorem c236_613 : mcode 236 613 = some (.aload_n 0, 1, 0, 0, 0) := rfl
theorem r236_613 : Rn 236 (613, [some (.ref q), x1, x2, x3], st, a, h) = Rn 236 (614, [some (.ref q), x1, x2, x3], .ref q :: st, a, h) := Rn_go c236_613 rfl
theorem c236_614 : mcode 236 614 = some (.iload_n 3, 1, 0, 0, 0) := rfl
theorem r236_614 : Rn 236 (614, [x0, x1, x2, some (.int i)], st, a, h) = Rn 236 (615, [x0, x1, x2, some (.int i)], .int i :: st, a, h) := Rn_go c236_614 rfl
theorem c236_615 : mcode 236 615 = some (.iconst 1, 1, 0, 0, 0) := rfl
theorem r236_615 : Rn 236 (615, [x0, x1, x2, x3], st, a, h) = Rn 236 (616, [x0, x1, x2, x3], .int (1 : Int32) :: st, a, h) := Rn_go c236_615 rfl
theorem c236_616 : mcode 236 616 = some (.iadd, 1, 0, 0, 0) := rfl
theorem r236_616 : Rn 236 (616, [x0, x1, x2, x3], .int j :: .int i :: st, a, h) = Rn 236 (617, [x0, x1, x2, x3], .int (i + j) :: st, a, h) := Rn_go c236_616 rfl
theorem c236_617 : mcode 236 617 = some (.iaload, 1, 0, 0, 0) := rfl
theorem r236_617 : Rn 236 (617, [x0, x1, x2, x3], .int i :: .ref q :: st, a, h) = Ki 236 618 [x0, x1, x2, x3] st a h (mld h q i false) := Rn_iald c236_617 rfl
theorem c236_618 : mcode 236 618 = some (.aload_n 0, 1, 0, 0, 0) := rfl
theorem r236_618 : Rn 236 (618, [some (.ref q), x1, x2, x3], st, a, h) = Rn 236 (619, [some (.ref q), x1, x2, x3], .ref q :: st, a, h) := Rn_go c236_618 rfl
theorem c236_619 : mcode 236 619 = some (.iload_n 3, 1, 0, 0, 0) := rfl
theorem r236_619 : Rn 236 (619, [x0, x1, x2, some (.int i)], st, a, h) = Rn 236 (620, [x0, x1, x2, some (.int i)], .int i :: st, a, h) := Rn_go c236_619 rfl
theorem c236_620 : mcode 236 620 = some (.iconst 2, 1, 0, 0, 0) := rfl
theorem r236_620 : Rn 236 (620, [x0, x1, x2, x3], st, a, h) = Rn 236 (621, [x0, x1, x2, x3], .int (2 : Int32) :: st, a, h) := Rn_go c236_620 rfl
theorem c236_621 : mcode 236 621 = some (.iadd, 1, 0, 0, 0) := rfl
theorem r236_621 : Rn 236 (621, [x0, x1, x2, x3], .int j :: .int i :: st, a, h) = Rn 236 (622, [x0, x1, x2, x3], .int (i + j) :: st, a, h) := Rn_go c236_621 rfl
theorem c236_622 : mcode 236 622 = some (.iaload, 1, 0, 0, 0) := rfl
theorem r236_622 : Rn 236 (622, [x0, x1, x2, x3], .int i :: .ref q :: st, a, h) = Ki 236 623 [x0, x1, x2, x3] st a h (mld h q i false) := Rn_iald c236_622 rfl
theorem c236_623 : mcode 236 623 = some (.invokevirtual 64, 3, 75, 2, 5) := rfl
theorem r236_623 : Rn 236 (623, [x0, x1, x2, x3], [v1, v0, .ref q], a, h) = if mis h q 5 = true then Bk 236 626 [x0, x1, x2, x3] [] (Ec 75 [.ref q, v0, v1] a h) else none := Rn_call1 c236_623 rfl (Nat.le_of_ble_eq_true rfl) rfl rfl (Nat.le_of_ble_eq_true rfl)
theorem c236_626 : mcode 236 626 = some (.aload_n 2, 1, 0, 0, 0) := rfl
theorem r236_626 : Rn 236 (626, [x0, x1, some (.ref q), x3], st, a, h) = Rn 236 (627, [x0, x1, some (.ref q), x3], .ref q :: st, a, h) := Rn_go c236_626 rfl
theorem c236_627 : mcode 236 627 = some (.aload_n 0, 1, 0, 0, 0) := rfl
theorem r236_627 : Rn 236 (627, [some (.ref q), x1, x2, x3], st, a, h) = Rn 236 (628, [some (.ref q), x1, x2, x3], .ref q :: st, a, h) := Rn_go c236_627 rfl
theorem c236_628 : mcode 236 628 = some (.iload_n 3, 1, 0, 0, 0) := rfl
theorem r236_628 : Rn 236 (628, [x0, x1, x2, some (.int i)], st, a, h) = Rn 236 (629, [x0, x1, x2, some (.int i)], .int i :: st, a, h) := Rn_go c236_628 rfl
theorem c236_629 : mcode 236 629 = some (.iconst 1, 1, 0, 0, 0) := rfl
theorem r236_629 : Rn 236 (629, [x0, x1, x2, x3], st, a, h) = Rn 236 (630, [x0, x1, x2, x3], .int (1 : Int32) :: st, a, h) := Rn_go c236_629 rfl
theorem c236_630 : mcode 236 630 = some (.iadd, 1, 0, 0, 0) := rfl
theorem r236_630 : Rn 236 (630, [x0, x1, x2, x3], .int j :: .int i :: st, a, h) = Rn 236 (631, [x0, x1, x2, x3], .int (i + j) :: st, a, h) := Rn_go c236_630 rfl
theorem c236_631 : mcode 236 631 = some (.iaload, 1, 0, 0, 0) := rfl
theorem r236_631 : Rn 236 (631, [x0, x1, x2, x3], .int i :: .ref q :: st, a, h) = Ki 236 632 [x0, x1, x2, x3] st a h (mld h q i false) := Rn_iald c236_631 rfl
theorem c236_632 : mcode 236 632 = some (.aload_n 0, 1, 0, 0, 0) := rfl
theorem r236_632 : Rn 236 (632, [some (.ref q), x1, x2, x3], st, a, h) = Rn 236 (633, [some (.ref q), x1, x2, x3], .ref q :: st, a, h) := Rn_go c236_632 rfl
theorem c236_633 : mcode 236 633 = some (.iload_n 3, 1, 0, 0, 0) := rfl
theorem r236_633 : Rn 236 (633, [x0, x1, x2, some (.int i)], st, a, h) = Rn 236 (634, [x0, x1, x2, some (.int i)], .int i :: st, a, h) := Rn_go c236_633 rfl
theorem c236_634 : mcode 236 634 = some (.iconst 2, 1, 0, 0, 0) := rfl
theorem r236_634 : Rn 236 (634, [x0, x1, x2, x3], st, a, h) = Rn 236 (635, [x0, x1, x2, x3], .int (2 : Int32) :: st, a, h) := Rn_go c236_634 rfl
theorem c236_635 : mcode 236 635 = some (.iadd, 1, 0, 0, 0) := rfl
theorem r236_635 : Rn 236 (635, [x0, x1, x2, x3], .int j :: .int i :: st, a, h) = Rn 236 (636, [x0, x1, x2, x3], .int (i + j) :: st, a, h) := Rn_go c236_635 rfl
theorem c236_636 : mcode 236 636 = some (.iaload, 1, 0, 0, 0) := rfl
theorem r236_636 : Rn 236 (636, [x0, x1, x2, x3], .int i :: .ref q :: st, a, h) = Ki 236 637 [x0, x1, x2, x3] st a h (mld h q i false) := Rn_iald c236_636 rfl
theorem c236_637 : mcode 236 637 = some (.invokevirtual 67, 3, 170, 2, 6) := rfl
theorem r236_637 : Rn 236 (637, [x0, x1, x2, x3], [v1, v0, .ref q, .int i0], a, h) = if mis h q 6 = true then Bk 236 640 [x0, x1, x2, x3] [.int i0] (Ec 170 [.ref q, v0, v1] a h) else none := Rn_call1 c236_637 rfl (Nat.le_of_ble_eq_true rfl) rfl rfl (Nat.le_of_ble_eq_true rfl)
theorem c236_640 : mcode 236 640 = some (.if_icmp .eq 863, 3, 0, 0, 0) := rfl
theorem r236_640 : Rn 236 (640, [x0, x1, x2, x3], .int j :: .int i :: st, a, h) = if i = j then Rn 236 (1503, [x0, x1, x2, x3], st, a, h) else Rn 236 (643, [x0, x1, x2, x3], st, a, h) := Rn_icmp c236_640 mc_eq rfl rfl
theorem c236_643 : mcode 236 643 = some (.iconst 0, 1, 0, 0, 0) := rfl
theorem r236_643 : Rn 236 (643, [x0, x1, x2, x3], st, a, h) = Rn 236 (644, [x0, x1, x2, x3], .int (0 : Int32) :: st, a, h) := Rn_go c236_643 rfl
theorem c236_644 : mcode 236 644 = some (.ireturn, 1, 1, 0, 0) := rfl
theorem r236_644 : Rn 236 (644, [x0, x1, x2, x3], [.int i], a, h) = if mrt 1 i = true then some (some (.int i), a, h) else none := Rn_iretz c236_644
theorem c236_645 : mcode 236 645 = some (.aload_n 1, 1, 0, 0, 0) := rfl
theorem r236_645 : Rn 236 (645, [x0, some (.ref q), x2, x3], st, a, h) = Rn 236 (646, [x0, some (.ref q), x2, x3], .ref q :: st, a, h) := Rn_go c236_645 rfl
theorem c236_646 : mcode 236 646 = some (.aload_n 0, 1, 0, 0, 0) := rfl
theorem r236_646 : Rn 236 (646, [some (.ref q), x1, x2, x3], st, a, h) = Rn 236 (647, [some (.ref q), x1, x2, x3], .ref q :: st, a, h) := Rn_go c236_646 rfl
theorem c236_647 : mcode 236 647 = some (.iload_n 3, 1, 0, 0, 0) := rfl
theorem r236_647 : Rn 236 (647, [x0, x1, x2, some (.int i)], st, a, h) = Rn 236 (648, [x0, x1, x2, some (.int i)], .int i :: st, a, h) := Rn_go c236_647 rfl
theorem c236_648 : mcode 236 648 = some (.iconst 1, 1, 0, 0, 0) := rfl
theorem r236_648 : Rn 236 (648, [x0, x1, x2, x3], st, a, h) = Rn 236 (649, [x0, x1, x2, x3], .int (1 : Int32) :: st, a, h) := Rn_go c236_648 rfl
theorem c236_649 : mcode 236 649 = some (.iadd, 1, 0, 0, 0) := rfl
theorem r236_649 : Rn 236 (649, [x0, x1, x2, x3], .int j :: .int i :: st, a, h) = Rn 236 (650, [x0, x1, x2, x3], .int (i + j) :: st, a, h) := Rn_go c236_649 rfl
theorem c236_650 : mcode 236 650 = some (.iaload, 1, 0, 0, 0) := rfl
theorem r236_650 : Rn 236 (650, [x0, x1, x2, x3], .int i :: .ref q :: st, a, h) = Ki 236 651 [x0, x1, x2, x3] st a h (mld h q i false) := Rn_iald c236_650 rfl
theorem c236_651 : mcode 236 651 = some (.invokevirtual 68, 3, 76, 1, 5) := rfl
theorem r236_651 : Rn 236 (651, [x0, x1, x2, x3], [v0, .ref q], a, h) = if mis h q 5 = true then Bk 236 654 [x0, x1, x2, x3] [] (Ec 76 [.ref q, v0] a h) else none := Rn_call1 c236_651 rfl (Nat.le_of_ble_eq_true rfl) rfl rfl (Nat.le_of_ble_eq_true rfl)
theorem c236_654 : mcode 236 654 = some (.aload_n 2, 1, 0, 0, 0) := rfl
theorem r236_654 : Rn 236 (654, [x0, x1, some (.ref q), x3], st, a, h) = Rn 236 (655, [x0, x1, some (.ref q), x3], .ref q :: st, a, h) := Rn_go c236_654 rfl
theorem c236_655 : mcode 236 655 = some (.aload_n 0, 1, 0, 0, 0) := rfl
theorem r236_655 : Rn 236 (655, [some (.ref q), x1, x2, x3], st, a, h) = Rn 236 (656, [some (.ref q), x1, x2, x3], .ref q :: st, a, h) := Rn_go c236_655 rfl
theorem c236_656 : mcode 236 656 = some (.iload_n 3, 1, 0, 0, 0) := rfl
theorem r236_656 : Rn 236 (656, [x0, x1, x2, some (.int i)], st, a, h) = Rn 236 (657, [x0, x1, x2, some (.int i)], .int i :: st, a, h) := Rn_go c236_656 rfl
theorem c236_657 : mcode 236 657 = some (.iconst 1, 1, 0, 0, 0) := rfl
theorem r236_657 : Rn 236 (657, [x0, x1, x2, x3], st, a, h) = Rn 236 (658, [x0, x1, x2, x3], .int (1 : Int32) :: st, a, h) := Rn_go c236_657 rfl
theorem c236_658 : mcode 236 658 = some (.iadd, 1, 0, 0, 0) := rfl
theorem r236_658 : Rn 236 (658, [x0, x1, x2, x3], .int j :: .int i :: st, a, h) = Rn 236 (659, [x0, x1, x2, x3], .int (i + j) :: st, a, h) := Rn_go c236_658 rfl
theorem c236_659 : mcode 236 659 = some (.iaload, 1, 0, 0, 0) := rfl
theorem r236_659 : Rn 236 (659, [x0, x1, x2, x3], .int i :: .ref q :: st, a, h) = Ki 236 660 [x0, x1, x2, x3] st a h (mld h q i false) := Rn_iald c236_659 rfl
theorem c236_660 : mcode 236 660 = some (.invokevirtual 71, 3, 171, 1, 6) := rfl
theorem r236_660 : Rn 236 (660, [x0, x1, x2, x3], [v0, .ref q, .int i0], a, h) = if mis h q 6 = true then Bk 236 663 [x0, x1, x2, x3] [.int i0] (Ec 171 [.ref q, v0] a h) else none := Rn_call1 c236_660 rfl (Nat.le_of_ble_eq_true rfl) rfl rfl (Nat.le_of_ble_eq_true rfl)
theorem c236_663 : mcode 236 663 = some (.if_icmp .eq 840, 3, 0, 0, 0) := rfl
theorem r236_663 : Rn 236 (663, [x0, x1, x2, x3], .int j :: .int i :: st, a, h) = if i = j then Rn 236 (1503, [x0, x1, x2, x3], st, a, h) else Rn 236 (666, [x0, x1, x2, x3], st, a, h) := Rn_icmp c236_663 mc_eq rfl rfl
theorem c236_666 : mcode 236 666 = some (.iconst 0, 1, 0, 0, 0) := rfl
theorem r236_666 : Rn 236 (666, [x0, x1, x2, x3], st, a, h) = Rn 236 (667, [x0, x1, x2, x3], .int (0 : Int32) :: st, a, h) := Rn_go c236_666 rfl
theorem c236_667 : mcode 236 667 = some (.ireturn, 1, 1, 0, 0) := rfl
theorem r236_667 : Rn 236 (667, [x0, x1, x2, x3], [.int i], a, h) = if mrt 1 i = true then some (some (.int i), a, h) else none := Rn_iretz c236_667
theorem c236_668 : mcode 236 668 = some (.aload_n 1, 1, 0, 0, 0) := rfl
theorem r236_668 : Rn 236 (668, [x0, some (.ref q), x2, x3], st, a, h) = Rn 236 (669, [x0, some (.ref q), x2, x3], .ref q :: st, a, h) := Rn_go c236_668 rfl
theorem c236_669 : mcode 236 669 = some (.aload_n 0, 1, 0, 0, 0) := rfl
theorem r236_669 : Rn 236 (669, [some (.ref q), x1, x2, x3], st, a, h) = Rn 236 (670, [some (.ref q), x1, x2, x3], .ref q :: st, a, h) := Rn_go c236_669 rfl
theorem c236_670 : mcode 236 670 = some (.iload_n 3, 1, 0, 0, 0) := rfl
theorem r236_670 : Rn 236 (670, [x0, x1, x2, some (.int i)], st, a, h) = Rn 236 (671, [x0, x1, x2, some (.int i)], .int i :: st, a, h) := Rn_go c236_670 rfl
theorem c236_671 : mcode 236 671 = some (.iconst 1, 1, 0, 0, 0) := rfl
theorem r236_671 : Rn 236 (671, [x0, x1, x2, x3], st, a, h) = Rn 236 (672, [x0, x1, x2, x3], .int (1 : Int32) :: st, a, h) := Rn_go c236_671 rfl
theorem c236_672 : mcode 236 672 = some (.iadd, 1, 0, 0, 0) := rfl
theorem r236_672 : Rn 236 (672, [x0, x1, x2, x3], .int j :: .int i :: st, a, h) = Rn 236 (673, [x0, x1, x2, x3], .int (i + j) :: st, a, h) := Rn_go c236_672 rfl
theorem c236_673 : mcode 236 673 = some (.iaload, 1, 0, 0, 0) := rfl
theorem r236_673 : Rn 236 (673, [x0, x1, x2, x3], .int i :: .ref q :: st, a, h) = Ki 236 674 [x0, x1, x2, x3] st a h (mld h q i false) := Rn_iald c236_673 rfl
theorem c236_674 : mcode 236 674 = some (.aload_n 0, 1, 0, 0, 0) := rfl
theorem r236_674 : Rn 236 (674, [some (.ref q), x1, x2, x3], st, a, h) = Rn 236 (675, [some (.ref q), x1, x2, x3], .ref q :: st, a, h) := Rn_go c236_674 rfl
theorem c236_675 : mcode 236 675 = some (.iload_n 3, 1, 0, 0, 0) := rfl
theorem r236_675 : Rn 236 (675, [x0, x1, x2, some (.int i)], st, a, h) = Rn 236 (676, [x0, x1, x2, some (.int i)], .int i :: st, a, h) := Rn_go c236_675 rfl
theorem c236_676 : mcode 236 676 = some (.iconst 2, 1, 0, 0, 0) := rfl
theorem r236_676 : Rn 236 (676, [x0, x1, x2, x3], st, a, h) = Rn 236 (677, [x0, x1, x2, x3], .int (2 : Int32) :: st, a, h) := Rn_go c236_676 rfl
theorem c236_677 : mcode 236 677 = some (.iadd, 1, 0, 0, 0) := rfl
theorem r236_677 : Rn 236 (677, [x0, x1, x2, x3], .int j :: .int i :: st, a, h) = Rn 236 (678, [x0, x1, x2, x3], .int (i + j) :: st, a, h) := Rn_go c236_677 rfl
theorem c236_678 : mcode 236 678 = some (.iaload, 1, 0, 0, 0) := rfl
theorem r236_678 : Rn 236 (678, [x0, x1, x2, x3], .int i :: .ref q :: st, a, h) = Ki 236 679 [x0, x1, x2, x3] st a h (mld h q i false) := Rn_iald c236_678 rfl
theorem c236_679 : mcode 236 679 = some (.invokevirtual 72, 3, 77, 2, 5) := rfl
theorem r236_679 : Rn 236 (679, [x0, x1, x2, x3], [v1, v0, .ref q], a, h) = if mis h q 5 = true then Bk 236 682 [x0, x1, x2, x3] [] (Ec 77 [.ref q, v0, v1] a h) else none := Rn_call1 c236_679 rfl (Nat.le_of_ble_eq_true rfl) rfl rfl (Nat.le_of_ble_eq_true rfl)
theorem c236_682 : mcode 236 682 = some (.aload_n 2, 1, 0, 0, 0) := rfl
theorem r236_682 : Rn 236 (682, [x0, x1, some (.ref q), x3], st, a, h) = Rn 236 (683, [x0, x1, some (.ref q), x3], .ref q :: st, a, h) := Rn_go c236_682 rfl
theorem c236_683 : mcode 236 683 = some (.aload_n 0, 1, 0, 0, 0) := rfl
theorem r236_683 : Rn 236 (683, [some (.ref q), x1, x2, x3], st, a, h) = Rn 236 (684, [some (.ref q), x1, x2, x3], .ref q :: st, a, h) := Rn_go c236_683 rfl
theorem c236_684 : mcode 236 684 = some (.iload_n 3, 1, 0, 0, 0) := rfl
theorem r236_684 : Rn 236 (684, [x0, x1, x2, some (.int i)], st, a, h) = Rn 236 (685, [x0, x1, x2, some (.int i)], .int i :: st, a, h) := Rn_go c236_684 rfl
theorem c236_685 : mcode 236 685 = some (.iconst 1, 1, 0, 0, 0) := rfl
theorem r236_685 : Rn 236 (685, [x0, x1, x2, x3], st, a, h) = Rn 236 (686, [x0, x1, x2, x3], .int (1 : Int32) :: st, a, h) := Rn_go c236_685 rfl
theorem c236_686 : mcode 236 686 = some (.iadd, 1, 0, 0, 0) := rfl
theorem r236_686 : Rn 236 (686, [x0, x1, x2, x3], .int j :: .int i :: st, a, h) = Rn 236 (687, [x0, x1, x2, x3], .int (i + j) :: st, a, h) := Rn_go c236_686 rfl
theorem c236_687 : mcode 236 687 = some (.iaload, 1, 0, 0, 0) := rfl
theorem r236_687 : Rn 236 (687, [x0, x1, x2, x3], .int i :: .ref q :: st, a, h) = Ki 236 688 [x0, x1, x2, x3] st a h (mld h q i false) := Rn_iald c236_687 rfl
theorem c236_688 : mcode 236 688 = some (.aload_n 0, 1, 0, 0, 0) := rfl
theorem r236_688 : Rn 236 (688, [some (.ref q), x1, x2, x3], st, a, h) = Rn 236 (689, [some (.ref q), x1, x2, x3], .ref q :: st, a, h) := Rn_go c236_688 rfl
theorem c236_689 : mcode 236 689 = some (.iload_n 3, 1, 0, 0, 0) := rfl
theorem r236_689 : Rn 236 (689, [x0, x1, x2, some (.int i)], st, a, h) = Rn 236 (690, [x0, x1, x2, some (.int i)], .int i :: st, a, h) := Rn_go c236_689 rfl
theorem c236_690 : mcode 236 690 = some (.iconst 2, 1, 0, 0, 0) := rfl
theorem r236_690 : Rn 236 (690, [x0, x1, x2, x3], st, a, h) = Rn 236 (691, [x0, x1, x2, x3], .int (2 : Int32) :: st, a, h) := Rn_go c236_690 rfl
theorem c236_691 : mcode 236 691 = some (.iadd, 1, 0, 0, 0) := rfl
theorem r236_691 : Rn 236 (691, [x0, x1, x2, x3], .int j :: .int i :: st, a, h) = Rn 236 (692, [x0, x1, x2, x3], .int (i + j) :: st, a, h) := Rn_go c236_691 rfl
theorem c236_692 : mcode 236 692 = some (.iaload, 1, 0, 0, 0) := rfl
theorem r236_692 : Rn 236 (692, [x0, x1, x2, x3], .int i :: .ref q :: st, a, h) = Ki 236 693 [x0, x1, x2, x3] st a h (mld h q i false) := Rn_iald c236_692 rfl
theorem c236_693 : mcode 236 693 = some (.invokevirtual 75, 3, 172, 2, 6) := rfl
theorem r236_693 : Rn 236 (693, [x0, x1, x2, x3], [v1, v0, .ref q, .int i0], a, h) = if mis h q 6 = true then Bk 236 696 [x0, x1, x2, x3] [.int i0] (Ec 172 [.ref q, v0, v1] a h) else none := Rn_call1 c236_693 rfl (Nat.le_of_ble_eq_true rfl) rfl rfl (Nat.le_of_ble_eq_true rfl)
theorem c236_696 : mcode 236 696 = some (.if_icmp .eq 807, 3, 0, 0, 0) := rfl
theorem r236_696 : Rn 236 (696, [x0, x1, x2, x3], .int j :: .int i :: st, a, h) = if i = j then Rn 236 (1503, [x0, x1, x2, x3], st, a, h) else Rn 236 (699, [x0, x1, x2, x3], st, a, h) := Rn_icmp c236_696 mc_eq rfl rfl
theorem c236_699 : mcode 236 699 = some (.iconst 0, 1, 0, 0, 0) := rfl
theorem r236_699 : Rn 236 (699, [x0, x1, x2, x3], st, a, h) = Rn 236 (700, [x0, x1, x2, x3], .int (0 : Int32) :: st, a, h) := Rn_go c236_699 rfl
theorem c236_700 : mcode 236 700 = some (.ireturn, 1, 1, 0, 0) := rfl
theorem r236_700 : Rn 236 (700, [x0, x1, x2, x3], [.int i], a, h) = if mrt 1 i = true then some (some (.int i), a, h) else none := Rn_iretz c236_700
theorem c236_701 : mcode 236 701 = some (.aload_n 1, 1, 0, 0, 0) := rfl
theorem r236_701 : Rn 236 (701, [x0, some (.ref q), x2, x3], st, a, h) = Rn 236 (702, [x0, some (.ref q), x2, x3], .ref q :: st, a, h) := Rn_go c236_701 rfl
theorem c236_702 : mcode 236 702 = some (.aload_n 0, 1, 0, 0, 0) := rfl
theorem r236_702 : Rn 236 (702, [some (.ref q), x1, x2, x3], st, a, h) = Rn 236 (703, [some (.ref q), x1, x2, x3], .ref q :: st, a, h) := Rn_go c236_702 rfl
theorem c236_703 : mcode 236 703 = some (.iload_n 3, 1, 0, 0, 0) := rfl
theorem r236_703 : Rn 236 (703, [x0, x1, x2, some (.int i)], st, a, h) = Rn 236 (704, [x0, x1, x2, some (.int i)], .int i :: st, a, h) := Rn_go c236_703 rfl
theorem c236_704 : mcode 236 704 = some (.iconst 1, 1, 0, 0, 0) := rfl
theorem r236_704 : Rn 236 (704, [x0, x1, x2, x3], st, a, h) = Rn 236 (705, [x0, x1, x2, x3], .int (1 : Int32) :: st, a, h) := Rn_go c236_704 rfl
theorem c236_705 : mcode 236 705 = some (.iadd, 1, 0, 0, 0) := rfl
theorem r236_705 : Rn 236 (705, [x0, x1, x2, x3], .int j :: .int i :: st, a, h) = Rn 236 (706, [x0, x1, x2, x3], .int (i + j) :: st, a, h) := Rn_go c236_705 rfl
theorem c236_706 : mcode 236 706 = some (.iaload, 1, 0, 0, 0) := rfl
theorem r236_706 : Rn 236 (706, [x0, x1, x2, x3], .int i :: .ref q :: st, a, h) = Ki 236 707 [x0, x1, x2, x3] st a h (mld h q i false) := Rn_iald c236_706 rfl
theorem c236_707 : mcode 236 707 = some (.aload_n 0, 1, 0, 0, 0) := rfl
theorem r236_707 : Rn 236 (707, [some (.ref q), x1, x2, x3], st, a, h) = Rn 236 (708, [some (.ref q), x1, x2, x3], .ref q :: st, a, h) := Rn_go c236_707 rfl
theorem c236_708 : mcode 236 708 = some (.iload_n 3, 1, 0, 0, 0) := rfl
theorem r236_708 : Rn 236 (708, [x0, x1, x2, some (.int i)], st, a, h) = Rn 236 (709, [x0, x1, x2, some (.int i)], .int i :: st, a, h) := Rn_go c236_708 rfl
theorem c236_709 : mcode 236 709 = some (.iconst 2, 1, 0, 0, 0) := rfl
theorem r236_709 : Rn 236 (709, [x0, x1, x2, x3], st, a, h) = Rn 236 (710, [x0, x1, x2, x3], .int (2 : Int32) :: st, a, h) := Rn_go c236_709 rfl
theorem c236_710 : mcode 236 710 = some (.iadd, 1, 0, 0, 0) := rfl
theorem r236_710 : Rn 236 (710, [x0, x1, x2, x3], .int j :: .int i :: st, a, h) = Rn 236 (711, [x0, x1, x2, x3], .int (i + j) :: st, a, h) := Rn_go c236_710 rfl
theorem c236_711 : mcode 236 711 = some (.iaload, 1, 0, 0, 0) := rfl
theorem r236_711 : Rn 236 (711, [x0, x1, x2, x3], .int i :: .ref q :: st, a, h) = Ki 236 712 [x0, x1, x2, x3] st a h (mld h q i false) := Rn_iald c236_711 rfl
theorem c236_712 : mcode 236 712 = some (.invokevirtual 76, 3, 78, 2, 5) := rfl
theorem r236_712 : Rn 236 (712, [x0, x1, x2, x3], [v1, v0, .ref q], a, h) = if mis h q 5 = true then Bk 236 715 [x0, x1, x2, x3] [] (Ec 78 [.ref q, v0, v1] a h) else none := Rn_call1 c236_712 rfl (Nat.le_of_ble_eq_true rfl) rfl rfl (Nat.le_of_ble_eq_true rfl)
theorem c236_715 : mcode 236 715 = some (.aload_n 2, 1, 0, 0, 0) := rfl
theorem r236_715 : Rn 236 (715, [x0, x1, some (.ref q), x3], st, a, h) = Rn 236 (716, [x0, x1, some (.ref q), x3], .ref q :: st, a, h) := Rn_go c236_715 rfl
theorem c236_716 : mcode 236 716 = some (.aload_n 0, 1, 0, 0, 0) := rfl
theorem r236_716 : Rn 236 (716, [some (.ref q), x1, x2, x3], st, a, h) = Rn 236 (717, [some (.ref q), x1, x2, x3], .ref q :: st, a, h) := Rn_go c236_716 rfl
theorem c236_717 : mcode 236 717 = some (.iload_n 3, 1, 0, 0, 0) := rfl
theorem r236_717 : Rn 236 (717, [x0, x1, x2, some (.int i)], st, a, h) = Rn 236 (718, [x0, x1, x2, some (.int i)], .int i :: st, a, h) := Rn_go c236_717 rfl
theorem c236_718 : mcode 236 718 = some (.iconst 1, 1, 0, 0, 0) := rfl
theorem r236_718 : Rn 236 (718, [x0, x1, x2, x3], st, a, h) = Rn 236 (719, [x0, x1, x2, x3], .int (1 : Int32) :: st, a, h) := Rn_go c236_718 rfl
theorem c236_719 : mcode 236 719 = some (.iadd, 1, 0, 0, 0) := rfl
theorem r236_719 : Rn 236 (719, [x0, x1, x2, x3], .int j :: .int i :: st, a, h) = Rn 236 (720, [x0, x1, x2, x3], .int (i + j) :: st, a, h) := Rn_go c236_719 rfl
theorem c236_720 : mcode 236 720 = some (.iaload, 1, 0, 0, 0) := rfl
theorem r236_720 : Rn 236 (720, [x0, x1, x2, x3], .int i :: .ref q :: st, a, h) = Ki 236 721 [x0, x1, x2, x3] st a h (mld h q i false) := Rn_iald c236_720 rfl
theorem c236_721 : mcode 236 721 = some (.aload_n 0, 1, 0, 0, 0) := rfl
theorem r236_721 : Rn 236 (721, [some (.ref q), x1, x2, x3], st, a, h) = Rn 236 (722, [some (.ref q), x1, x2, x3], .ref q :: st, a, h) := Rn_go c236_721 rfl
theorem c236_722 : mcode 236 722 = some (.iload_n 3, 1, 0, 0, 0) := rfl
theorem r236_722 : Rn 236 (722, [x0, x1, x2, some (.int i)], st, a, h) = Rn 236 (723, [x0, x1, x2, some (.int i)], .int i :: st, a, h) := Rn_go c236_722 rfl
theorem c236_723 : mcode 236 723 = some (.iconst 2, 1, 0, 0, 0) := rfl
theorem r236_723 : Rn 236 (723, [x0, x1, x2, x3], st, a, h) = Rn 236 (724, [x0, x1, x2, x3], .int (2 : Int32) :: st, a, h) := Rn_go c236_723 rfl
theorem c236_724 : mcode 236 724 = some (.iadd, 1, 0, 0, 0) := rfl
theorem r236_724 : Rn 236 (724, [x0, x1, x2, x3], .int j :: .int i :: st, a, h) = Rn 236 (725, [x0, x1, x2, x3], .int (i + j) :: st, a, h) := Rn_go c236_724 rfl
theorem c236_725 : mcode 236 725 = some (.iaload, 1, 0, 0, 0) := rfl
theorem r236_725 : Rn 236 (725, [x0, x1, x2, x3], .int i :: .ref q :: st, a, h) = Ki 236 726 [x0, x1, x2, x3] st a h (mld h q i false) := Rn_iald c236_725 rfl
theorem c236_726 : mcode 236 726 = some (.invokevirtual 79, 3, 173, 2, 6) := rfl
theorem r236_726 : Rn 236 (726, [x0, x1, x2, x3], [v1, v0, .ref q, .int i0], a, h) = if mis h q 6 = true then Bk 236 729 [x0, x1, x2, x3] [.int i0] (Ec 173 [.ref q, v0, v1] a h) else none := Rn_call1 c236_726 rfl (Nat.le_of_ble_eq_true rfl) rfl rfl (Nat.le_of_ble_eq_true rfl)
theorem c236_729 : mcode 236 729 = some (.if_icmp .eq 774, 3, 0, 0, 0) := rfl
theorem r236_729 : Rn 236 (729, [x0, x1, x2, x3], .int j :: .int i :: st, a, h) = if i = j then Rn 236 (1503, [x0, x1, x2, x3], st, a, h) else Rn 236 (732, [x0, x1, x2, x3], st, a, h) := Rn_icmp c236_729 mc_eq rfl rfl
theorem c236_732 : mcode 236 732 = some (.iconst 0, 1, 0, 0, 0) := rfl
theorem r236_732 : Rn 236 (732, [x0, x1, x2, x3], st, a, h) = Rn 236 (733, [x0, x1, x2, x3], .int (0 : Int32) :: st, a, h) := Rn_go c236_732 rfl
theorem c236_733 : mcode 236 733 = some (.ireturn, 1, 1, 0, 0) := rfl
theorem r236_733 : Rn 236 (733, [x0, x1, x2, x3], [.int i], a, h) = if mrt 1 i = true then some (some (.int i), a, h) else none := Rn_iretz c236_733
theorem c236_734 : mcode 236 734 = some (.aload_n 1, 1, 0, 0, 0) := rfl
theorem r236_734 : Rn 236 (734, [x0, some (.ref q), x2, x3], st, a, h) = Rn 236 (735, [x0, some (.ref q), x2, x3], .ref q :: st, a, h) := Rn_go c236_734 rfl
theorem c236_735 : mcode 236 735 = some (.aload_n 0, 1, 0, 0, 0) := rfl
theorem r236_735 : Rn 236 (735, [some (.ref q), x1, x2, x3], st, a, h) = Rn 236 (736, [some (.ref q), x1, x2, x3], .ref q :: st, a, h) := Rn_go c236_735 rfl
theorem c236_736 : mcode 236 736 = some (.iload_n 3, 1, 0, 0, 0) := rfl
theorem r236_736 : Rn 236 (736, [x0, x1, x2, some (.int i)], st, a, h) = Rn 236 (737, [x0, x1, x2, some (.int i)], .int i :: st, a, h) := Rn_go c236_736 rfl
theorem c236_737 : mcode 236 737 = some (.iconst 1, 1, 0, 0, 0) := rfl
theorem r236_737 : Rn 236 (737, [x0, x1, x2, x3], st, a, h) = Rn 236 (738, [x0, x1, x2, x3], .int (1 : Int32) :: st, a, h) := Rn_go c236_737 rfl
theorem c236_738 : mcode 236 738 = some (.iadd, 1, 0, 0, 0) := rfl
theorem r236_738 : Rn 236 (738, [x0, x1, x2, x3], .int j :: .int i :: st, a, h) = Rn 236 (739, [x0, x1, x2, x3], .int (i + j) :: st, a, h) := Rn_go c236_738 rfl
theorem c236_739 : mcode 236 739 = some (.iaload, 1, 0, 0, 0) := rfl
theorem r236_739 : Rn 236 (739, [x0, x1, x2, x3], .int i :: .ref q :: st, a, h) = Ki 236 740 [x0, x1, x2, x3] st a h (mld h q i false) := Rn_iald c236_739 rfl
theorem c236_740 : mcode 236 740 = some (.aload_n 0, 1, 0, 0, 0) := rfl
theorem r236_740 : Rn 236 (740, [some (.ref q), x1, x2, x3], st, a, h) = Rn 236 (741, [some (.ref q), x1, x2, x3], .ref q :: st, a, h) := Rn_go c236_740 rfl
theorem c236_741 : mcode 236 741 = some (.iload_n 3, 1, 0, 0, 0) := rfl
theorem r236_741 : Rn 236 (741, [x0, x1, x2, some (.int i)], st, a, h) = Rn 236 (742, [x0, x1, x2, some (.int i)], .int i :: st, a, h) := Rn_go c236_741 rfl
theorem c236_742 : mcode 236 742 = some (.iconst 2, 1, 0, 0, 0) := rfl
theorem r236_742 : Rn 236 (742, [x0, x1, x2, x3], st, a, h) = Rn 236 (743, [x0, x1, x2, x3], .int (2 : Int32) :: st, a, h) := Rn_go c236_742 rfl
theorem c236_743 : mcode 236 743 = some (.iadd, 1, 0, 0, 0) := rfl
theorem r236_743 : Rn 236 (743, [x0, x1, x2, x3], .int j :: .int i :: st, a, h) = Rn 236 (744, [x0, x1, x2, x3], .int (i + j) :: st, a, h) := Rn_go c236_743 rfl
theorem c236_744 : mcode 236 744 = some (.iaload, 1, 0, 0, 0) := rfl
theorem r236_744 : Rn 236 (744, [x0, x1, x2, x3], .int i :: .ref q :: st, a, h) = Ki 236 745 [x0, x1, x2, x3] st a h (mld h q i false) := Rn_iald c236_744 rfl
theorem c236_745 : mcode 236 745 = some (.invokevirtual 80, 3, 79, 2, 5) := rfl
theorem r236_745 : Rn 236 (745, [x0, x1, x2, x3], [v1, v0, .ref q], a, h) = if mis h q 5 = true then Bk 236 748 [x0, x1, x2, x3] [] (Ec 79 [.ref q, v0, v1] a h) else none := Rn_call1 c236_745 rfl (Nat.le_of_ble_eq_true rfl) rfl rfl (Nat.le_of_ble_eq_true rfl)
theorem c236_748 : mcode 236 748 = some (.aload_n 2, 1, 0, 0, 0) := rfl
theorem r236_748 : Rn 236 (748, [x0, x1, some (.ref q), x3], st, a, h) = Rn 236 (749, [x0, x1, some (.ref q), x3], .ref q :: st, a, h) := Rn_go c236_748 rfl
theorem c236_749 : mcode 236 749 = some (.aload_n 0, 1, 0, 0, 0) := rfl
theorem r236_749 : Rn 236 (749, [some (.ref q), x1, x2, x3], st, a, h) = Rn 236 (750, [some (.ref q), x1, x2, x3], .ref q :: st, a, h) := Rn_go c236_749 rfl
theorem c236_750 : mcode 236 750 = some (.iload_n 3, 1, 0, 0, 0) := rfl
theorem r236_750 : Rn 236 (750, [x0, x1, x2, some (.int i)], st, a, h) = Rn 236 (751, [x0, x1, x2, some (.int i)], .int i :: st, a, h) := Rn_go c236_750 rfl
theorem c236_751 : mcode 236 751 = some (.iconst 1, 1, 0, 0, 0) := rfl
theorem r236_751 : Rn 236 (751, [x0, x1, x2, x3], st, a, h) = Rn 236 (752, [x0, x1, x2, x3], .int (1 : Int32) :: st, a, h) := Rn_go c236_751 rfl
theorem c236_752 : mcode 236 752 = some (.iadd, 1, 0, 0, 0) := rfl
theorem r236_752 : Rn 236 (752, [x0, x1, x2, x3], .int j :: .int i :: st, a, h) = Rn 236 (753, [x0, x1, x2, x3], .int (i + j) :: st, a, h) := Rn_go c236_752 rfl
theorem c236_753 : mcode 236 753 = some (.iaload, 1, 0, 0, 0) := rfl
theorem r236_753 : Rn 236 (753, [x0, x1, x2, x3], .int i :: .ref q :: st, a, h) = Ki 236 754 [x0, x1, x2, x3] st a h (mld h q i false) := Rn_iald c236_753 rfl
theorem c236_754 : mcode 236 754 = some (.aload_n 0, 1, 0, 0, 0) := rfl
theorem r236_754 : Rn 236 (754, [some (.ref q), x1, x2, x3], st, a, h) = Rn 236 (755, [some (.ref q), x1, x2, x3], .ref q :: st, a, h) := Rn_go c236_754 rfl
theorem c236_755 : mcode 236 755 = some (.iload_n 3, 1, 0, 0, 0) := rfl
theorem r236_755 : Rn 236 (755, [x0, x1, x2, some (.int i)], st, a, h) = Rn 236 (756, [x0, x1, x2, some (.int i)], .int i :: st, a, h) := Rn_go c236_755 rfl
theorem c236_756 : mcode 236 756 = some (.iconst 2, 1, 0, 0, 0) := rfl
theorem r236_756 : Rn 236 (756, [x0, x1, x2, x3], st, a, h) = Rn 236 (757, [x0, x1, x2, x3], .int (2 : Int32) :: st, a, h) := Rn_go c236_756 rfl
theorem c236_757 : mcode 236 757 = some (.iadd, 1, 0, 0, 0) := rfl
theorem r236_757 : Rn 236 (757, [x0, x1, x2, x3], .int j :: .int i :: st, a, h) = Rn 236 (758, [x0, x1, x2, x3], .int (i + j) :: st, a, h) := Rn_go c236_757 rfl
theorem c236_758 : mcode 236 758 = some (.iaload, 1, 0, 0, 0) := rfl
theorem r236_758 : Rn 236 (758, [x0, x1, x2, x3], .int i :: .ref q :: st, a, h) = Ki 236 759 [x0, x1, x2, x3] st a h (mld h q i false) := Rn_iald c236_758 rfl
theorem c236_759 : mcode 236 759 = some (.invokevirtual 83, 3, 175, 2, 6) := rfl
theorem r236_759 : Rn 236 (759, [x0, x1, x2, x3], [v1, v0, .ref q, .int i0], a, h) = if mis h q 6 = true then Bk 236 762 [x0, x1, x2, x3] [.int i0] (Ec 175 [.ref q, v0, v1] a h) else none := Rn_call1 c236_759 rfl (Nat.le_of_ble_eq_true rfl) rfl rfl (Nat.le_of_ble_eq_true rfl)
theorem c236_762 : mcode 236 762 = some (.if_icmp .eq 741, 3, 0, 0, 0) := rfl
theorem r236_762 : Rn 236 (762, [x0, x1, x2, x3], .int j :: .int i :: st, a, h) = if i = j then Rn 236 (1503, [x0, x1, x2, x3], st, a, h) else Rn 236 (765, [x0, x1, x2, x3], st, a, h) := Rn_icmp c236_762 mc_eq rfl rfl
theorem c236_765 : mcode 236 765 = some (.iconst 0, 1, 0, 0, 0) := rfl
theorem r236_765 : Rn 236 (765, [x0, x1, x2, x3], st, a, h) = Rn 236 (766, [x0, x1, x2, x3], .int (0 : Int32) :: st, a, h) := Rn_go c236_765 rfl
theorem c236_766 : mcode 236 766 = some (.ireturn, 1, 1, 0, 0) := rfl
theorem r236_766 : Rn 236 (766, [x0, x1, x2, x3], [.int i], a, h) = if mrt 1 i = true then some (some (.int i), a, h) else none := Rn_iretz c236_766
theorem c236_767 : mcode 236 767 = some (.aload_n 1, 1, 0, 0, 0) := rfl
theorem r236_767 : Rn 236 (767, [x0, some (.ref q), x2, x3], st, a, h) = Rn 236 (768, [x0, some (.ref q), x2, x3], .ref q :: st, a, h) := Rn_go c236_767 rfl
theorem c236_768 : mcode 236 768 = some (.aload_n 0, 1, 0, 0, 0) := rfl
theorem r236_768 : Rn 236 (768, [some (.ref q), x1, x2, x3], st, a, h) = Rn 236 (769, [some (.ref q), x1, x2, x3], .ref q :: st, a, h) := Rn_go c236_768 rfl
theorem c236_769 : mcode 236 769 = some (.iload_n 3, 1, 0, 0, 0) := rfl
theorem r236_769 : Rn 236 (769, [x0, x1, x2, some (.int i)], st, a, h) = Rn 236 (770, [x0, x1, x2, some (.int i)], .int i :: st, a, h) := Rn_go c236_769 rfl
theorem c236_770 : mcode 236 770 = some (.iconst 1, 1, 0, 0, 0) := rfl
theorem r236_770 : Rn 236 (770, [x0, x1, x2, x3], st, a, h) = Rn 236 (771, [x0, x1, x2, x3], .int (1 : Int32) :: st, a, h) := Rn_go c236_770 rfl
theorem c236_771 : mcode 236 771 = some (.iadd, 1, 0, 0, 0) := rfl
theorem r236_771 : Rn 236 (771, [x0, x1, x2, x3], .int j :: .int i :: st, a, h) = Rn 236 (772, [x0, x1, x2, x3], .int (i + j) :: st, a, h) := Rn_go c236_771 rfl
theorem c236_772 : mcode 236 772 = some (.iaload, 1, 0, 0, 0) := rfl
theorem r236_772 : Rn 236 (772, [x0, x1, x2, x3], .int i :: .ref q :: st, a, h) = Ki 236 773 [x0, x1, x2, x3] st a h (mld h q i false) := Rn_iald c236_772 rfl
theorem c236_773 : mcode 236 773 = some (.aload_n 0, 1, 0, 0, 0) := rfl
theorem r236_773 : Rn 236 (773, [some (.ref q), x1, x2, x3], st, a, h) = Rn 236 (774, [some (.ref q), x1, x2, x3], .ref q :: st, a, h) := Rn_go c236_773 rfl
theorem c236_774 : mcode 236 774 = some (.iload_n 3, 1, 0, 0, 0) := rfl
theorem r236_774 : Rn 236 (774, [x0, x1, x2, some (.int i)], st, a, h) = Rn 236 (775, [x0, x1, x2, some (.int i)], .int i :: st, a, h) := Rn_go c236_774 rfl
theorem c236_775 : mcode 236 775 = some (.iconst 2, 1, 0, 0, 0) := rfl
theorem r236_775 : Rn 236 (775, [x0, x1, x2, x3], st, a, h) = Rn 236 (776, [x0, x1, x2, x3], .int (2 : Int32) :: st, a, h) := Rn_go c236_775 rfl
theorem c236_776 : mcode 236 776 = some (.iadd, 1, 0, 0, 0) := rfl
theorem r236_776 : Rn 236 (776, [x0, x1, x2, x3], .int j :: .int i :: st, a, h) = Rn 236 (777, [x0, x1, x2, x3], .int (i + j) :: st, a, h) := Rn_go c236_776 rfl
theorem c236_777 : mcode 236 777 = some (.iaload, 1, 0, 0, 0) := rfl
theorem r236_777 : Rn 236 (777, [x0, x1, x2, x3], .int i :: .ref q :: st, a, h) = Ki 236 778 [x0, x1, x2, x3] st a h (mld h q i false) := Rn_iald c236_777 rfl
theorem c236_778 : mcode 236 778 = some (.invokevirtual 84, 3, 80, 2, 5) := rfl
theorem r236_778 : Rn 236 (778, [x0, x1, x2, x3], [v1, v0, .ref q], a, h) = if mis h q 5 = true then Bk 236 781 [x0, x1, x2, x3] [] (Ec 80 [.ref q, v0, v1] a h) else none := Rn_call1 c236_778 rfl (Nat.le_of_ble_eq_true rfl) rfl rfl (Nat.le_of_ble_eq_true rfl)
theorem c236_781 : mcode 236 781 = some (.aload_n 2, 1, 0, 0, 0) := rfl
theorem r236_781 : Rn 236 (781, [x0, x1, some (.ref q), x3], st, a, h) = Rn 236 (782, [x0, x1, some (.ref q), x3], .ref q :: st, a, h) := Rn_go c236_781 rfl
theorem c236_782 : mcode 236 782 = some (.aload_n 0, 1, 0, 0, 0) := rfl
theorem r236_782 : Rn 236 (782, [some (.ref q), x1, x2, x3], st, a, h) = Rn 236 (783, [some (.ref q), x1, x2, x3], .ref q :: st, a, h) := Rn_go c236_782 rfl
theorem c236_783 : mcode 236 783 = some (.iload_n 3, 1, 0, 0, 0) := rfl
theorem r236_783 : Rn 236 (783, [x0, x1, x2, some (.int i)], st, a, h) = Rn 236 (784, [x0, x1, x2, some (.int i)], .int i :: st, a, h) := Rn_go c236_783 rfl
theorem c236_784 : mcode 236 784 = some (.iconst 1, 1, 0, 0, 0) := rfl
theorem r236_784 : Rn 236 (784, [x0, x1, x2, x3], st, a, h) = Rn 236 (785, [x0, x1, x2, x3], .int (1 : Int32) :: st, a, h) := Rn_go c236_784 rfl
theorem c236_785 : mcode 236 785 = some (.iadd, 1, 0, 0, 0) := rfl
theorem r236_785 : Rn 236 (785, [x0, x1, x2, x3], .int j :: .int i :: st, a, h) = Rn 236 (786, [x0, x1, x2, x3], .int (i + j) :: st, a, h) := Rn_go c236_785 rfl
theorem c236_786 : mcode 236 786 = some (.iaload, 1, 0, 0, 0) := rfl
theorem r236_786 : Rn 236 (786, [x0, x1, x2, x3], .int i :: .ref q :: st, a, h) = Ki 236 787 [x0, x1, x2, x3] st a h (mld h q i false) := Rn_iald c236_786 rfl
theorem c236_787 : mcode 236 787 = some (.aload_n 0, 1, 0, 0, 0) := rfl
theorem r236_787 : Rn 236 (787, [some (.ref q), x1, x2, x3], st, a, h) = Rn 236 (788, [some (.ref q), x1, x2, x3], .ref q :: st, a, h) := Rn_go c236_787 rfl
theorem c236_788 : mcode 236 788 = some (.iload_n 3, 1, 0, 0, 0) := rfl
theorem r236_788 : Rn 236 (788, [x0, x1, x2, some (.int i)], st, a, h) = Rn 236 (789, [x0, x1, x2, some (.int i)], .int i :: st, a, h) := Rn_go c236_788 rfl
theorem c236_789 : mcode 236 789 = some (.iconst 2, 1, 0, 0, 0) := rfl
theorem r236_789 : Rn 236 (789, [x0, x1, x2, x3], st, a, h) = Rn 236 (790, [x0, x1, x2, x3], .int (2 : Int32) :: st, a, h) := Rn_go c236_789 rfl
theorem c236_790 : mcode 236 790 = some (.iadd, 1, 0, 0, 0) := rfl
theorem r236_790 : Rn 236 (790, [x0, x1, x2, x3], .int j :: .int i :: st, a, h) = Rn 236 (791, [x0, x1, x2, x3], .int (i + j) :: st, a, h) := Rn_go c236_790 rfl
theorem c236_791 : mcode 236 791 = some (.iaload, 1, 0, 0, 0) := rfl
theorem r236_791 : Rn 236 (791, [x0, x1, x2, x3], .int i :: .ref q :: st, a, h) = Ki 236 792 [x0, x1, x2, x3] st a h (mld h q i false) := Rn_iald c236_791 rfl
theorem c236_792 : mcode 236 792 = some (.invokevirtual 87, 3, 176, 2, 6) := rfl
theorem r236_792 : Rn 236 (792, [x0, x1, x2, x3], [v1, v0, .ref q, .int i0], a, h) = if mis h q 6 = true then Bk 236 795 [x0, x1, x2, x3] [.int i0] (Ec 176 [.ref q, v0, v1] a h) else none := Rn_call1 c236_792 rfl (Nat.le_of_ble_eq_true rfl) rfl rfl (Nat.le_of_ble_eq_true rfl)
theorem c236_795 : mcode 236 795 = some (.if_icmp .eq 708, 3, 0, 0, 0) := rfl
theorem r236_795 : Rn 236 (795, [x0, x1, x2, x3], .int j :: .int i :: st, a, h) = if i = j then Rn 236 (1503, [x0, x1, x2, x3], st, a, h) else Rn 236 (798, [x0, x1, x2, x3], st, a, h) := Rn_icmp c236_795 mc_eq rfl rfl
theorem c236_798 : mcode 236 798 = some (.iconst 0, 1, 0, 0, 0) := rfl
theorem r236_798 : Rn 236 (798, [x0, x1, x2, x3], st, a, h) = Rn 236 (799, [x0, x1, x2, x3], .int (0 : Int32) :: st, a, h) := Rn_go c236_798 rfl
theorem c236_799 : mcode 236 799 = some (.ireturn, 1, 1, 0, 0) := rfl
theorem r236_799 : Rn 236 (799, [x0, x1, x2, x3], [.int i], a, h) = if mrt 1 i = true then some (some (.int i), a, h) else none := Rn_iretz c236_799
theorem c236_800 : mcode 236 800 = some (.aload_n 1, 1, 0, 0, 0) := rfl
theorem r236_800 : Rn 236 (800, [x0, some (.ref q), x2, x3], st, a, h) = Rn 236 (801, [x0, some (.ref q), x2, x3], .ref q :: st, a, h) := Rn_go c236_800 rfl
theorem c236_801 : mcode 236 801 = some (.aload_n 0, 1, 0, 0, 0) := rfl
theorem r236_801 : Rn 236 (801, [some (.ref q), x1, x2, x3], st, a, h) = Rn 236 (802, [some (.ref q), x1, x2, x3], .ref q :: st, a, h) := Rn_go c236_801 rfl
theorem c236_802 : mcode 236 802 = some (.iload_n 3, 1, 0, 0, 0) := rfl
theorem r236_802 : Rn 236 (802, [x0, x1, x2, some (.int i)], st, a, h) = Rn 236 (803, [x0, x1, x2, some (.int i)], .int i :: st, a, h) := Rn_go c236_802 rfl
theorem c236_803 : mcode 236 803 = some (.iconst 1, 1, 0, 0, 0) := rfl
theorem r236_803 : Rn 236 (803, [x0, x1, x2, x3], st, a, h) = Rn 236 (804, [x0, x1, x2, x3], .int (1 : Int32) :: st, a, h) := Rn_go c236_803 rfl
theorem c236_804 : mcode 236 804 = some (.iadd, 1, 0, 0, 0) := rfl
theorem r236_804 : Rn 236 (804, [x0, x1, x2, x3], .int j :: .int i :: st, a, h) = Rn 236 (805, [x0, x1, x2, x3], .int (i + j) :: st, a, h) := Rn_go c236_804 rfl
theorem c236_805 : mcode 236 805 = some (.iaload, 1, 0, 0, 0) := rfl
theorem r236_805 : Rn 236 (805, [x0, x1, x2, x3], .int i :: .ref q :: st, a, h) = Ki 236 806 [x0, x1, x2, x3] st a h (mld h q i false) := Rn_iald c236_805 rfl
theorem c236_806 : mcode 236 806 = some (.aload_n 0, 1, 0, 0, 0) := rfl
theorem r236_806 : Rn 236 (806, [some (.ref q), x1, x2, x3], st, a, h) = Rn 236 (807, [some (.ref q), x1, x2, x3], .ref q :: st, a, h) := Rn_go c236_806 rfl
theorem c236_807 : mcode 236 807 = some (.iload_n 3, 1, 0, 0, 0) := rfl
theorem r236_807 : Rn 236 (807, [x0, x1, x2, some (.int i)], st, a, h) = Rn 236 (808, [x0, x1, x2, some (.int i)], .int i :: st, a, h) := Rn_go c236_807 rfl
theorem c236_808 : mcode 236 808 = some (.iconst 2, 1, 0, 0, 0) := rfl
theorem r236_808 : Rn 236 (808, [x0, x1, x2, x3], st, a, h) = Rn 236 (809, [x0, x1, x2, x3], .int (2 : Int32) :: st, a, h) := Rn_go c236_808 rfl
theorem c236_809 : mcode 236 809 = some (.iadd, 1, 0, 0, 0) := rfl
theorem r236_809 : Rn 236 (809, [x0, x1, x2, x3], .int j :: .int i :: st, a, h) = Rn 236 (810, [x0, x1, x2, x3], .int (i + j) :: st, a, h) := Rn_go c236_809 rfl
theorem c236_810 : mcode 236 810 = some (.iaload, 1, 0, 0, 0) := rfl
theorem r236_810 : Rn 236 (810, [x0, x1, x2, x3], .int i :: .ref q :: st, a, h) = Ki 236 811 [x0, x1, x2, x3] st a h (mld h q i false) := Rn_iald c236_810 rfl
theorem c236_811 : mcode 236 811 = some (.invokevirtual 88, 3, 81, 2, 5) := rfl
theorem r236_811 : Rn 236 (811, [x0, x1, x2, x3], [v1, v0, .ref q], a, h) = if mis h q 5 = true then Bk 236 814 [x0, x1, x2, x3] [] (Ec 81 [.ref q, v0, v1] a h) else none := Rn_call1 c236_811 rfl (Nat.le_of_ble_eq_true rfl) rfl rfl (Nat.le_of_ble_eq_true rfl)
theorem c236_814 : mcode 236 814 = some (.aload_n 2, 1, 0, 0, 0) := rfl
theorem r236_814 : Rn 236 (814, [x0, x1, some (.ref q), x3], st, a, h) = Rn 236 (815, [x0, x1, some (.ref q), x3], .ref q :: st, a, h) := Rn_go c236_814 rfl
theorem c236_815 : mcode 236 815 = some (.aload_n 0, 1, 0, 0, 0) := rfl
theorem r236_815 : Rn 236 (815, [some (.ref q), x1, x2, x3], st, a, h) = Rn 236 (816, [some (.ref q), x1, x2, x3], .ref q :: st, a, h) := Rn_go c236_815 rfl
theorem c236_816 : mcode 236 816 = some (.iload_n 3, 1, 0, 0, 0) := rfl
theorem r236_816 : Rn 236 (816, [x0, x1, x2, some (.int i)], st, a, h) = Rn 236 (817, [x0, x1, x2, some (.int i)], .int i :: st, a, h) := Rn_go c236_816 rfl
theorem c236_817 : mcode 236 817 = some (.iconst 1, 1, 0, 0, 0) := rfl
theorem r236_817 : Rn 236 (817, [x0, x1, x2, x3], st, a, h) = Rn 236 (818, [x0, x1, x2, x3], .int (1 : Int32) :: st, a, h) := Rn_go c236_817 rfl
theorem c236_818 : mcode 236 818 = some (.iadd, 1, 0, 0, 0) := rfl
theorem r236_818 : Rn 236 (818, [x0, x1, x2, x3], .int j :: .int i :: st, a, h) = Rn 236 (819, [x0, x1, x2, x3], .int (i + j) :: st, a, h) := Rn_go c236_818 rfl
theorem c236_819 : mcode 236 819 = some (.iaload, 1, 0, 0, 0) := rfl
theorem r236_819 : Rn 236 (819, [x0, x1, x2, x3], .int i :: .ref q :: st, a, h) = Ki 236 820 [x0, x1, x2, x3] st a h (mld h q i false) := Rn_iald c236_819 rfl
theorem c236_820 : mcode 236 820 = some (.aload_n 0, 1, 0, 0, 0) := rfl
theorem r236_820 : Rn 236 (820, [some (.ref q), x1, x2, x3], st, a, h) = Rn 236 (821, [some (.ref q), x1, x2, x3], .ref q :: st, a, h) := Rn_go c236_820 rfl
theorem c236_821 : mcode 236 821 = some (.iload_n 3, 1, 0, 0, 0) := rfl
theorem r236_821 : Rn 236 (821, [x0, x1, x2, some (.int i)], st, a, h) = Rn 236 (822, [x0, x1, x2, some (.int i)], .int i :: st, a, h) := Rn_go c236_821 rfl
theorem c236_822 : mcode 236 822 = some (.iconst 2, 1, 0, 0, 0) := rfl
theorem r236_822 : Rn 236 (822, [x0, x1, x2, x3], st, a, h) = Rn 236 (823, [x0, x1, x2, x3], .int (2 : Int32) :: st, a, h) := Rn_go c236_822 rfl
theorem c236_823 : mcode 236 823 = some (.iadd, 1, 0, 0, 0) := rfl
theorem r236_823 : Rn 236 (823, [x0, x1, x2, x3], .int j :: .int i :: st, a, h) = Rn 236 (824, [x0, x1, x2, x3], .int (i + j) :: st, a, h) := Rn_go c236_823 rfl
theorem c236_824 : mcode 236 824 = some (.iaload, 1, 0, 0, 0) := rfl
theorem r236_824 : Rn 236 (824, [x0, x1, x2, x3], .int i :: .ref q :: st, a, h) = Ki 236 825 [x0, x1, x2, x3] st a h (mld h q i false) := Rn_iald c236_824 rfl
theorem c236_825 : mcode 236 825 = some (.invokevirtual 91, 3, 177, 2, 6) := rfl
theorem r236_825 : Rn 236 (825, [x0, x1, x2, x3], [v1, v0, .ref q, .int i0], a, h) = if mis h q 6 = true then Bk 236 828 [x0, x1, x2, x3] [.int i0] (Ec 177 [.ref q, v0, v1] a h) else none := Rn_call1 c236_825 rfl (Nat.le_of_ble_eq_true rfl) rfl rfl (Nat.le_of_ble_eq_true rfl)
theorem c236_828 : mcode 236 828 = some (.if_icmp .eq 675, 3, 0, 0, 0) := rfl
theorem r236_828 : Rn 236 (828, [x0, x1, x2, x3], .int j :: .int i :: st, a, h) = if i = j then Rn 236 (1503, [x0, x1, x2, x3], st, a, h) else Rn 236 (831, [x0, x1, x2, x3], st, a, h) := Rn_icmp c236_828 mc_eq rfl rfl
theorem c236_831 : mcode 236 831 = some (.iconst 0, 1, 0, 0, 0) := rfl
theorem r236_831 : Rn 236 (831, [x0, x1, x2, x3], st, a, h) = Rn 236 (832, [x0, x1, x2, x3], .int (0 : Int32) :: st, a, h) := Rn_go c236_831 rfl
theorem c236_832 : mcode 236 832 = some (.ireturn, 1, 1, 0, 0) := rfl
theorem r236_832 : Rn 236 (832, [x0, x1, x2, x3], [.int i], a, h) = if mrt 1 i = true then some (some (.int i), a, h) else none := Rn_iretz c236_832
theorem c236_833 : mcode 236 833 = some (.aload_n 1, 1, 0, 0, 0) := rfl
theorem r236_833 : Rn 236 (833, [x0, some (.ref q), x2, x3], st, a, h) = Rn 236 (834, [x0, some (.ref q), x2, x3], .ref q :: st, a, h) := Rn_go c236_833 rfl
theorem c236_834 : mcode 236 834 = some (.aload_n 0, 1, 0, 0, 0) := rfl
theorem r236_834 : Rn 236 (834, [some (.ref q), x1, x2, x3], st, a, h) = Rn 236 (835, [some (.ref q), x1, x2, x3], .ref q :: st, a, h) := Rn_go c236_834 rfl
theorem c236_835 : mcode 236 835 = some (.iload_n 3, 1, 0, 0, 0) := rfl
theorem r236_835 : Rn 236 (835, [x0, x1, x2, some (.int i)], st, a, h) = Rn 236 (836, [x0, x1, x2, some (.int i)], .int i :: st, a, h) := Rn_go c236_835 rfl
theorem c236_836 : mcode 236 836 = some (.iconst 1, 1, 0, 0, 0) := rfl
theorem r236_836 : Rn 236 (836, [x0, x1, x2, x3], st, a, h) = Rn 236 (837, [x0, x1, x2, x3], .int (1 : Int32) :: st, a, h) := Rn_go c236_836 rfl
theorem c236_837 : mcode 236 837 = some (.iadd, 1, 0, 0, 0) := rfl
theorem r236_837 : Rn 236 (837, [x0, x1, x2, x3], .int j :: .int i :: st, a, h) = Rn 236 (838, [x0, x1, x2, x3], .int (i + j) :: st, a, h) := Rn_go c236_837 rfl
theorem c236_838 : mcode 236 838 = some (.iaload, 1, 0, 0, 0) := rfl
theorem r236_838 : Rn 236 (838, [x0, x1, x2, x3], .int i :: .ref q :: st, a, h) = Ki 236 839 [x0, x1, x2, x3] st a h (mld h q i false) := Rn_iald c236_838 rfl
theorem c236_839 : mcode 236 839 = some (.aload_n 0, 1, 0, 0, 0) := rfl
theorem r236_839 : Rn 236 (839, [some (.ref q), x1, x2, x3], st, a, h) = Rn 236 (840, [some (.ref q), x1, x2, x3], .ref q :: st, a, h) := Rn_go c236_839 rfl
theorem c236_840 : mcode 236 840 = some (.iload_n 3, 1, 0, 0, 0) := rfl
theorem r236_840 : Rn 236 (840, [x0, x1, x2, some (.int i)], st, a, h) = Rn 236 (841, [x0, x1, x2, some (.int i)], .int i :: st, a, h) := Rn_go c236_840 rfl
theorem c236_841 : mcode 236 841 = some (.iconst 2, 1, 0, 0, 0) := rfl
theorem r236_841 : Rn 236 (841, [x0, x1, x2, x3], st, a, h) = Rn 236 (842, [x0, x1, x2, x3], .int (2 : Int32) :: st, a, h) := Rn_go c236_841 rfl
theorem c236_842 : mcode 236 842 = some (.iadd, 1, 0, 0, 0) := rfl
theorem r236_842 : Rn 236 (842, [x0, x1, x2, x3], .int j :: .int i :: st, a, h) = Rn 236 (843, [x0, x1, x2, x3], .int (i + j) :: st, a, h) := Rn_go c236_842 rfl
theorem c236_843 : mcode 236 843 = some (.iaload, 1, 0, 0, 0) := rfl
theorem r236_843 : Rn 236 (843, [x0, x1, x2, x3], .int i :: .ref q :: st, a, h) = Ki 236 844 [x0, x1, x2, x3] st a h (mld h q i false) := Rn_iald c236_843 rfl
theorem c236_844 : mcode 236 844 = some (.invokevirtual 92, 3, 82, 2, 5) := rfl
theorem r236_844 : Rn 236 (844, [x0, x1, x2, x3], [v1, v0, .ref q], a, h) = if mis h q 5 = true then Bk 236 847 [x0, x1, x2, x3] [] (Ec 82 [.ref q, v0, v1] a h) else none := Rn_call1 c236_844 rfl (Nat.le_of_ble_eq_true rfl) rfl rfl (Nat.le_of_ble_eq_true rfl)
theorem c236_847 : mcode 236 847 = some (.aload_n 2, 1, 0, 0, 0) := rfl
theorem r236_847 : Rn 236 (847, [x0, x1, some (.ref q), x3], st, a, h) = Rn 236 (848, [x0, x1, some (.ref q), x3], .ref q :: st, a, h) := Rn_go c236_847 rfl
theorem c236_848 : mcode 236 848 = some (.aload_n 0, 1, 0, 0, 0) := rfl
theorem r236_848 : Rn 236 (848, [some (.ref q), x1, x2, x3], st, a, h) = Rn 236 (849, [some (.ref q), x1, x2, x3], .ref q :: st, a, h) := Rn_go c236_848 rfl
theorem c236_849 : mcode 236 849 = some (.iload_n 3, 1, 0, 0, 0) := rfl
theorem r236_849 : Rn 236 (849, [x0, x1, x2, some (.int i)], st, a, h) = Rn 236 (850, [x0, x1, x2, some (.int i)], .int i :: st, a, h) := Rn_go c236_849 rfl
theorem c236_850 : mcode 236 850 = some (.iconst 1, 1, 0, 0, 0) := rfl
theorem r236_850 : Rn 236 (850, [x0, x1, x2, x3], st, a, h) = Rn 236 (851, [x0, x1, x2, x3], .int (1 : Int32) :: st, a, h) := Rn_go c236_850 rfl
theorem c236_851 : mcode 236 851 = some (.iadd, 1, 0, 0, 0) := rfl
theorem r236_851 : Rn 236 (851, [x0, x1, x2, x3], .int j :: .int i :: st, a, h) = Rn 236 (852, [x0, x1, x2, x3], .int (i + j) :: st, a, h) := Rn_go c236_851 rfl
theorem c236_852 : mcode 236 852 = some (.iaload, 1, 0, 0, 0) := rfl
theorem r236_852 : Rn 236 (852, [x0, x1, x2, x3], .int i :: .ref q :: st, a, h) = Ki 236 853 [x0, x1, x2, x3] st a h (mld h q i false) := Rn_iald c236_852 rfl
theorem c236_853 : mcode 236 853 = some (.aload_n 0, 1, 0, 0, 0) := rfl
theorem r236_853 : Rn 236 (853, [some (.ref q), x1, x2, x3], st, a, h) = Rn 236 (854, [some (.ref q), x1, x2, x3], .ref q :: st, a, h) := Rn_go c236_853 rfl
theorem c236_854 : mcode 236 854 = some (.iload_n 3, 1, 0, 0, 0) := rfl
theorem r236_854 : Rn 236 (854, [x0, x1, x2, some (.int i)], st, a, h) = Rn 236 (855, [x0, x1, x2, some (.int i)], .int i :: st, a, h) := Rn_go c236_854 rfl
theorem c236_855 : mcode 236 855 = some (.iconst 2, 1, 0, 0, 0) := rfl
theorem r236_855 : Rn 236 (855, [x0, x1, x2, x3], st, a, h) = Rn 236 (856, [x0, x1, x2, x3], .int (2 : Int32) :: st, a, h) := Rn_go c236_855 rfl
theorem c236_856 : mcode 236 856 = some (.iadd, 1, 0, 0, 0) := rfl
theorem r236_856 : Rn 236 (856, [x0, x1, x2, x3], .int j :: .int i :: st, a, h) = Rn 236 (857, [x0, x1, x2, x3], .int (i + j) :: st, a, h) := Rn_go c236_856 rfl
theorem c236_857 : mcode 236 857 = some (.iaload, 1, 0, 0, 0) := rfl
theorem r236_857 : Rn 236 (857, [x0, x1, x2, x3], .int i :: .ref q :: st, a, h) = Ki 236 858 [x0, x1, x2, x3] st a h (mld h q i false) := Rn_iald c236_857 rfl
theorem c236_858 : mcode 236 858 = some (.invokevirtual 95, 3, 179, 2, 6) := rfl
theorem r236_858 : Rn 236 (858, [x0, x1, x2, x3], [v1, v0, .ref q, .int i0], a, h) = if mis h q 6 = true then Bk 236 861 [x0, x1, x2, x3] [.int i0] (Ec 179 [.ref q, v0, v1] a h) else none := Rn_call1 c236_858 rfl (Nat.le_of_ble_eq_true rfl) rfl rfl (Nat.le_of_ble_eq_true rfl)
theorem c236_861 : mcode 236 861 = some (.if_icmp .eq 642, 3, 0, 0, 0) := rfl
theorem r236_861 : Rn 236 (861, [x0, x1, x2, x3], .int j :: .int i :: st, a, h) = if i = j then Rn 236 (1503, [x0, x1, x2, x3], st, a, h) else Rn 236 (864, [x0, x1, x2, x3], st, a, h) := Rn_icmp c236_861 mc_eq rfl rfl
theorem c236_864 : mcode 236 864 = some (.iconst 0, 1, 0, 0, 0) := rfl
theorem r236_864 : Rn 236 (864, [x0, x1, x2, x3], st, a, h) = Rn 236 (865, [x0, x1, x2, x3], .int (0 : Int32) :: st, a, h) := Rn_go c236_864 rfl
theorem c236_865 : mcode 236 865 = some (.ireturn, 1, 1, 0, 0) := rfl
theorem r236_865 : Rn 236 (865, [x0, x1, x2, x3], [.int i], a, h) = if mrt 1 i = true then some (some (.int i), a, h) else none := Rn_iretz c236_865
theorem c236_866 : mcode 236 866 = some (.aload_n 1, 1, 0, 0, 0) := rfl
theorem r236_866 : Rn 236 (866, [x0, some (.ref q), x2, x3], st, a, h) = Rn 236 (867, [x0, some (.ref q), x2, x3], .ref q :: st, a, h) := Rn_go c236_866 rfl
theorem c236_867 : mcode 236 867 = some (.aload_n 0, 1, 0, 0, 0) := rfl
theorem r236_867 : Rn 236 (867, [some (.ref q), x1, x2, x3], st, a, h) = Rn 236 (868, [some (.ref q), x1, x2, x3], .ref q :: st, a, h) := Rn_go c236_867 rfl
theorem c236_868 : mcode 236 868 = some (.iload_n 3, 1, 0, 0, 0) := rfl
theorem r236_868 : Rn 236 (868, [x0, x1, x2, some (.int i)], st, a, h) = Rn 236 (869, [x0, x1, x2, some (.int i)], .int i :: st, a, h) := Rn_go c236_868 rfl
theorem c236_869 : mcode 236 869 = some (.iconst 1, 1, 0, 0, 0) := rfl
theorem r236_869 : Rn 236 (869, [x0, x1, x2, x3], st, a, h) = Rn 236 (870, [x0, x1, x2, x3], .int (1 : Int32) :: st, a, h) := Rn_go c236_869 rfl
theorem c236_870 : mcode 236 870 = some (.iadd, 1, 0, 0, 0) := rfl
theorem r236_870 : Rn 236 (870, [x0, x1, x2, x3], .int j :: .int i :: st, a, h) = Rn 236 (871, [x0, x1, x2, x3], .int (i + j) :: st, a, h) := Rn_go c236_870 rfl
theorem c236_871 : mcode 236 871 = some (.iaload, 1, 0, 0, 0) := rfl
theorem r236_871 : Rn 236 (871, [x0, x1, x2, x3], .int i :: .ref q :: st, a, h) = Ki 236 872 [x0, x1, x2, x3] st a h (mld h q i false) := Rn_iald c236_871 rfl
theorem c236_872 : mcode 236 872 = some (.aload_n 0, 1, 0, 0, 0) := rfl
theorem r236_872 : Rn 236 (872, [some (.ref q), x1, x2, x3], st, a, h) = Rn 236 (873, [some (.ref q), x1, x2, x3], .ref q :: st, a, h) := Rn_go c236_872 rfl
theorem c236_873 : mcode 236 873 = some (.iload_n 3, 1, 0, 0, 0) := rfl
theorem r236_873 : Rn 236 (873, [x0, x1, x2, some (.int i)], st, a, h) = Rn 236 (874, [x0, x1, x2, some (.int i)], .int i :: st, a, h) := Rn_go c236_873 rfl
theorem c236_874 : mcode 236 874 = some (.iconst 2, 1, 0, 0, 0) := rfl
theorem r236_874 : Rn 236 (874, [x0, x1, x2, x3], st, a, h) = Rn 236 (875, [x0, x1, x2, x3], .int (2 : Int32) :: st, a, h) := Rn_go c236_874 rfl
theorem c236_875 : mcode 236 875 = some (.iadd, 1, 0, 0, 0) := rfl
theorem r236_875 : Rn 236 (875, [x0, x1, x2, x3], .int j :: .int i :: st, a, h) = Rn 236 (876, [x0, x1, x2, x3], .int (i + j) :: st, a, h) := Rn_go c236_875 rfl
theorem c236_876 : mcode 236 876 = some (.iaload, 1, 0, 0, 0) := rfl
theorem r236_876 : Rn 236 (876, [x0, x1, x2, x3], .int i :: .ref q :: st, a, h) = Ki 236 877 [x0, x1, x2, x3] st a h (mld h q i false) := Rn_iald c236_876 rfl
theorem c236_877 : mcode 236 877 = some (.invokevirtual 96, 3, 83, 2, 5) := rfl
theorem r236_877 : Rn 236 (877, [x0, x1, x2, x3], [v1, v0, .ref q], a, h) = if mis h q 5 = true then Bk 236 880 [x0, x1, x2, x3] [] (Ec 83 [.ref q, v0, v1] a h) else none := Rn_call1 c236_877 rfl (Nat.le_of_ble_eq_true rfl) rfl rfl (Nat.le_of_ble_eq_true rfl)
theorem c236_880 : mcode 236 880 = some (.aload_n 2, 1, 0, 0, 0) := rfl
theorem r236_880 : Rn 236 (880, [x0, x1, some (.ref q), x3], st, a, h) = Rn 236 (881, [x0, x1, some (.ref q), x3], .ref q :: st, a, h) := Rn_go c236_880 rfl
theorem c236_881 : mcode 236 881 = some (.aload_n 0, 1, 0, 0, 0) := rfl
theorem r236_881 : Rn 236 (881, [some (.ref q), x1, x2, x3], st, a, h) = Rn 236 (882, [some (.ref q), x1, x2, x3], .ref q :: st, a, h) := Rn_go c236_881 rfl
theorem c236_882 : mcode 236 882 = some (.iload_n 3, 1, 0, 0, 0) := rfl
theorem r236_882 : Rn 236 (882, [x0, x1, x2, some (.int i)], st, a, h) = Rn 236 (883, [x0, x1, x2, some (.int i)], .int i :: st, a, h) := Rn_go c236_882 rfl
theorem c236_883 : mcode 236 883 = some (.iconst 1, 1, 0, 0, 0) := rfl
theorem r236_883 : Rn 236 (883, [x0, x1, x2, x3], st, a, h) = Rn 236 (884, [x0, x1, x2, x3], .int (1 : Int32) :: st, a, h) := Rn_go c236_883 rfl
theorem c236_884 : mcode 236 884 = some (.iadd, 1, 0, 0, 0) := rfl
theorem r236_884 : Rn 236 (884, [x0, x1, x2, x3], .int j :: .int i :: st, a, h) = Rn 236 (885, [x0, x1, x2, x3], .int (i + j) :: st, a, h) := Rn_go c236_884 rfl
theorem c236_885 : mcode 236 885 = some (.iaload, 1, 0, 0, 0) := rfl
theorem r236_885 : Rn 236 (885, [x0, x1, x2, x3], .int i :: .ref q :: st, a, h) = Ki 236 886 [x0, x1, x2, x3] st a h (mld h q i false) := Rn_iald c236_885 rfl
theorem c236_886 : mcode 236 886 = some (.aload_n 0, 1, 0, 0, 0) := rfl
theorem r236_886 : Rn 236 (886, [some (.ref q), x1, x2, x3], st, a, h) = Rn 236 (887, [some (.ref q), x1, x2, x3], .ref q :: st, a, h) := Rn_go c236_886 rfl
theorem c236_887 : mcode 236 887 = some (.iload_n 3, 1, 0, 0, 0) := rfl
theorem r236_887 : Rn 236 (887, [x0, x1, x2, some (.int i)], st, a, h) = Rn 236 (888, [x0, x1, x2, some (.int i)], .int i :: st, a, h) := Rn_go c236_887 rfl
theorem c236_888 : mcode 236 888 = some (.iconst 2, 1, 0, 0, 0) := rfl
theorem r236_888 : Rn 236 (888, [x0, x1, x2, x3], st, a, h) = Rn 236 (889, [x0, x1, x2, x3], .int (2 : Int32) :: st, a, h) := Rn_go c236_888 rfl
theorem c236_889 : mcode 236 889 = some (.iadd, 1, 0, 0, 0) := rfl
theorem r236_889 : Rn 236 (889, [x0, x1, x2, x3], .int j :: .int i :: st, a, h) = Rn 236 (890, [x0, x1, x2, x3], .int (i + j) :: st, a, h) := Rn_go c236_889 rfl
theorem c236_890 : mcode 236 890 = some (.iaload, 1, 0, 0, 0) := rfl
theorem r236_890 : Rn 236 (890, [x0, x1, x2, x3], .int i :: .ref q :: st, a, h) = Ki 236 891 [x0, x1, x2, x3] st a h (mld h q i false) := Rn_iald c236_890 rfl
theorem c236_891 : mcode 236 891 = some (.invokevirtual 99, 3, 180, 2, 6) := rfl
theorem r236_891 : Rn 236 (891, [x0, x1, x2, x3], [v1, v0, .ref q, .int i0], a, h) = if mis h q 6 = true then Bk 236 894 [x0, x1, x2, x3] [.int i0] (Ec 180 [.ref q, v0, v1] a h) else none := Rn_call1 c236_891 rfl (Nat.le_of_ble_eq_true rfl) rfl rfl (Nat.le_of_ble_eq_true rfl)
theorem c236_894 : mcode 236 894 = some (.if_icmp .eq 609, 3, 0, 0, 0) := rfl
theorem r236_894 : Rn 236 (894, [x0, x1, x2, x3], .int j :: .int i :: st, a, h) = if i = j then Rn 236 (1503, [x0, x1, x2, x3], st, a, h) else Rn 236 (897, [x0, x1, x2, x3], st, a, h) := Rn_icmp c236_894 mc_eq rfl rfl
theorem c236_897 : mcode 236 897 = some (.iconst 0, 1, 0, 0, 0) := rfl
theorem r236_897 : Rn 236 (897, [x0, x1, x2, x3], st, a, h) = Rn 236 (898, [x0, x1, x2, x3], .int (0 : Int32) :: st, a, h) := Rn_go c236_897 rfl
theorem c236_898 : mcode 236 898 = some (.ireturn, 1, 1, 0, 0) := rfl
theorem r236_898 : Rn 236 (898, [x0, x1, x2, x3], [.int i], a, h) = if mrt 1 i = true then some (some (.int i), a, h) else none := Rn_iretz c236_898
theorem c236_899 : mcode 236 899 = some (.aload_n 1, 1, 0, 0, 0) := rfl
theorem r236_899 : Rn 236 (899, [x0, some (.ref q), x2, x3], st, a, h) = Rn 236 (900, [x0, some (.ref q), x2, x3], .ref q :: st, a, h) := Rn_go c236_899 rfl
theorem c236_900 : mcode 236 900 = some (.aload_n 0, 1, 0, 0, 0) := rfl
theorem r236_900 : Rn 236 (900, [some (.ref q), x1, x2, x3], st, a, h) = Rn 236 (901, [some (.ref q), x1, x2, x3], .ref q :: st, a, h) := Rn_go c236_900 rfl
theorem c236_901 : mcode 236 901 = some (.iload_n 3, 1, 0, 0, 0) := rfl
theorem r236_901 : Rn 236 (901, [x0, x1, x2, some (.int i)], st, a, h) = Rn 236 (902, [x0, x1, x2, some (.int i)], .int i :: st, a, h) := Rn_go c236_901 rfl
theorem c236_902 : mcode 236 902 = some (.iconst 1, 1, 0, 0, 0) := rfl
theorem r236_902 : Rn 236 (902, [x0, x1, x2, x3], st, a, h) = Rn 236 (903, [x0, x1, x2, x3], .int (1 : Int32) :: st, a, h) := Rn_go c236_902 rfl
theorem c236_903 : mcode 236 903 = some (.iadd, 1, 0, 0, 0) := rfl
theorem r236_903 : Rn 236 (903, [x0, x1, x2, x3], .int j :: .int i :: st, a, h) = Rn 236 (904, [x0, x1, x2, x3], .int (i + j) :: st, a, h) := Rn_go c236_903 rfl
theorem c236_904 : mcode 236 904 = some (.iaload, 1, 0, 0, 0) := rfl
theorem r236_904 : Rn 236 (904, [x0, x1, x2, x3], .int i :: .ref q :: st, a, h) = Ki 236 905 [x0, x1, x2, x3] st a h (mld h q i false) := Rn_iald c236_904 rfl
theorem c236_905 : mcode 236 905 = some (.aload_n 0, 1, 0, 0, 0) := rfl
theorem r236_905 : Rn 236 (905, [some (.ref q), x1, x2, x3], st, a, h) = Rn 236 (906, [some (.ref q), x1, x2, x3], .ref q :: st, a, h) := Rn_go c236_905 rfl
theorem c236_906 : mcode 236 906 = some (.iload_n 3, 1, 0, 0, 0) := rfl
theorem r236_906 : Rn 236 (906, [x0, x1, x2, some (.int i)], st, a, h) = Rn 236 (907, [x0, x1, x2, some (.int i)], .int i :: st, a, h) := Rn_go c236_906 rfl
theorem c236_907 : mcode 236 907 = some (.iconst 2, 1, 0, 0, 0) := rfl
theorem r236_907 : Rn 236 (907, [x0, x1, x2, x3], st, a, h) = Rn 236 (908, [x0, x1, x2, x3], .int (2 : Int32) :: st, a, h) := Rn_go c236_907 rfl
theorem c236_908 : mcode 236 908 = some (.iadd, 1, 0, 0, 0) := rfl
theorem r236_908 : Rn 236 (908, [x0, x1, x2, x3], .int j :: .int i :: st, a, h) = Rn 236 (909, [x0, x1, x2, x3], .int (i + j) :: st, a, h) := Rn_go c236_908 rfl
theorem c236_909 : mcode 236 909 = some (.iaload, 1, 0, 0, 0) := rfl
theorem r236_909 : Rn 236 (909, [x0, x1, x2, x3], .int i :: .ref q :: st, a, h) = Ki 236 910 [x0, x1, x2, x3] st a h (mld h q i false) := Rn_iald c236_909 rfl
theorem c236_910 : mcode 236 910 = some (.aload_n 0, 1, 0, 0, 0) := rfl
theorem r236_910 : Rn 236 (910, [some (.ref q), x1, x2, x3], st, a, h) = Rn 236 (911, [some (.ref q), x1, x2, x3], .ref q :: st, a, h) := Rn_go c236_910 rfl
theorem c236_911 : mcode 236 911 = some (.iload_n 3, 1, 0, 0, 0) := rfl
theorem r236_911 : Rn 236 (911, [x0, x1, x2, some (.int i)], st, a, h) = Rn 236 (912, [x0, x1, x2, some (.int i)], .int i :: st, a, h) := Rn_go c236_911 rfl
theorem c236_912 : mcode 236 912 = some (.iconst 3, 1, 0, 0, 0) := rfl
theorem r236_912 : Rn 236 (912, [x0, x1, x2, x3], st, a, h) = Rn 236 (913, [x0, x1, x2, x3], .int (3 : Int32) :: st, a, h) := Rn_go c236_912 rfl
theorem c236_913 : mcode 236 913 = some (.iadd, 1, 0, 0, 0) := rfl
theorem r236_913 : Rn 236 (913, [x0, x1, x2, x3], .int j :: .int i :: st, a, h) = Rn 236 (914, [x0, x1, x2, x3], .int (i + j) :: st, a, h) := Rn_go c236_913 rfl
theorem c236_914 : mcode 236 914 = some (.iaload, 1, 0, 0, 0) := rfl
theorem r236_914 : Rn 236 (914, [x0, x1, x2, x3], .int i :: .ref q :: st, a, h) = Ki 236 915 [x0, x1, x2, x3] st a h (mld h q i false) := Rn_iald c236_914 rfl
theorem c236_915 : mcode 236 915 = some (.invokevirtual 100, 3, 84, 3, 5) := rfl
theorem r236_915 : Rn 236 (915, [x0, x1, x2, x3], [v2, v1, v0, .ref q], a, h) = if mis h q 5 = true then Bk 236 918 [x0, x1, x2, x3] [] (Ec 84 [.ref q, v0, v1, v2] a h) else none := Rn_call1 c236_915 rfl (Nat.le_of_ble_eq_true rfl) rfl rfl (Nat.le_of_ble_eq_true rfl)
theorem c236_918 : mcode 236 918 = some (.aload_n 2, 1, 0, 0, 0) := rfl
theorem r236_918 : Rn 236 (918, [x0, x1, some (.ref q), x3], st, a, h) = Rn 236 (919, [x0, x1, some (.ref q), x3], .ref q :: st, a, h) := Rn_go c236_918 rfl
theorem c236_919 : mcode 236 919 = some (.aload_n 0, 1, 0, 0, 0) := rfl
theorem r236_919 : Rn 236 (919, [some (.ref q), x1, x2, x3], st, a, h) = Rn 236 (920, [some (.ref q), x1, x2, x3], .ref q :: st, a, h) := Rn_go c236_919 rfl
theorem c236_920 : mcode 236 920 = some (.iload_n 3, 1, 0, 0, 0) := rfl
theorem r236_920 : Rn 236 (920, [x0, x1, x2, some (.int i)], st, a, h) = Rn 236 (921, [x0, x1, x2, some (.int i)], .int i :: st, a, h) := Rn_go c236_920 rfl
theorem c236_921 : mcode 236 921 = some (.iconst 1, 1, 0, 0, 0) := rfl
theorem r236_921 : Rn 236 (921, [x0, x1, x2, x3], st, a, h) = Rn 236 (922, [x0, x1, x2, x3], .int (1 : Int32) :: st, a, h) := Rn_go c236_921 rfl
theorem c236_922 : mcode 236 922 = some (.iadd, 1, 0, 0, 0) := rfl
theorem r236_922 : Rn 236 (922, [x0, x1, x2, x3], .int j :: .int i :: st, a, h) = Rn 236 (923, [x0, x1, x2, x3], .int (i + j) :: st, a, h) := Rn_go c236_922 rfl
theorem c236_923 : mcode 236 923 = some (.iaload, 1, 0, 0, 0) := rfl
theorem r236_923 : Rn 236 (923, [x0, x1, x2, x3], .int i :: .ref q :: st, a, h) = Ki 236 924 [x0, x1, x2, x3] st a h (mld h q i false) := Rn_iald c236_923 rfl
theorem c236_924 : mcode 236 924 = some (.aload_n 0, 1, 0, 0, 0) := rfl
theorem r236_924 : Rn 236 (924, [some (.ref q), x1, x2, x3], st, a, h) = Rn 236 (925, [some (.ref q), x1, x2, x3], .ref q :: st, a, h) := Rn_go c236_924 rfl
theorem c236_925 : mcode 236 925 = some (.iload_n 3, 1, 0, 0, 0) := rfl
theorem r236_925 : Rn 236 (925, [x0, x1, x2, some (.int i)], st, a, h) = Rn 236 (926, [x0, x1, x2, some (.int i)], .int i :: st, a, h) := Rn_go c236_925 rfl
theorem c236_926 : mcode 236 926 = some (.iconst 2, 1, 0, 0, 0) := rfl
theorem r236_926 : Rn 236 (926, [x0, x1, x2, x3], st, a, h) = Rn 236 (927, [x0, x1, x2, x3], .int (2 : Int32) :: st, a, h) := Rn_go c236_926 rfl
theorem c236_927 : mcode 236 927 = some (.iadd, 1, 0, 0, 0) := rfl
theorem r236_927 : Rn 236 (927, [x0, x1, x2, x3], .int j :: .int i :: st, a, h) = Rn 236 (928, [x0, x1, x2, x3], .int (i + j) :: st, a, h) := Rn_go c236_927 rfl
theorem c236_928 : mcode 236 928 = some (.iaload, 1, 0, 0, 0) := rfl
theorem r236_928 : Rn 236 (928, [x0, x1, x2, x3], .int i :: .ref q :: st, a, h) = Ki 236 929 [x0, x1, x2, x3] st a h (mld h q i false) := Rn_iald c236_928 rfl
theorem c236_929 : mcode 236 929 = some (.aload_n 0, 1, 0, 0, 0) := rfl
theorem r236_929 : Rn 236 (929, [some (.ref q), x1, x2, x3], st, a, h) = Rn 236 (930, [some (.ref q), x1, x2, x3], .ref q :: st, a, h) := Rn_go c236_929 rfl
theorem c236_930 : mcode 236 930 = some (.iload_n 3, 1, 0, 0, 0) := rfl
theorem r236_930 : Rn 236 (930, [x0, x1, x2, some (.int i)], st, a, h) = Rn 236 (931, [x0, x1, x2, some (.int i)], .int i :: st, a, h) := Rn_go c236_930 rfl
theorem c236_931 : mcode 236 931 = some (.iconst 3, 1, 0, 0, 0) := rfl
theorem r236_931 : Rn 236 (931, [x0, x1, x2, x3], st, a, h) = Rn 236 (932, [x0, x1, x2, x3], .int (3 : Int32) :: st, a, h) := Rn_go c236_931 rfl
theorem c236_932 : mcode 236 932 = some (.iadd, 1, 0, 0, 0) := rfl
theorem r236_932 : Rn 236 (932, [x0, x1, x2, x3], .int j :: .int i :: st, a, h) = Rn 236 (933, [x0, x1, x2, x3], .int (i + j) :: st, a, h) := Rn_go c236_932 rfl
theorem c236_933 : mcode 236 933 = some (.iaload, 1, 0, 0, 0) := rfl
theorem r236_933 : Rn 236 (933, [x0, x1, x2, x3], .int i :: .ref q :: st, a, h) = Ki 236 934 [x0, x1, x2, x3] st a h (mld h q i false) := Rn_iald c236_933 rfl
theorem c236_934 : mcode 236 934 = some (.invokevirtual 103, 3, 184, 3, 6) := rfl
theorem r236_934 : Rn 236 (934, [x0, x1, x2, x3], [v2, v1, v0, .ref q, .int i0], a, h) = if mis h q 6 = true then Bk 236 937 [x0, x1, x2, x3] [.int i0] (Ec 184 [.ref q, v0, v1, v2] a h) else none := Rn_call1 c236_934 rfl (Nat.le_of_ble_eq_true rfl) rfl rfl (Nat.le_of_ble_eq_true rfl)
theorem c236_937 : mcode 236 937 = some (.if_icmp .eq 566, 3, 0, 0, 0) := rfl
theorem r236_937 : Rn 236 (937, [x0, x1, x2, x3], .int j :: .int i :: st, a, h) = if i = j then Rn 236 (1503, [x0, x1, x2, x3], st, a, h) else Rn 236 (940, [x0, x1, x2, x3], st, a, h) := Rn_icmp c236_937 mc_eq rfl rfl
theorem c236_940 : mcode 236 940 = some (.iconst 0, 1, 0, 0, 0) := rfl
theorem r236_940 : Rn 236 (940, [x0, x1, x2, x3], st, a, h) = Rn 236 (941, [x0, x1, x2, x3], .int (0 : Int32) :: st, a, h) := Rn_go c236_940 rfl
theorem c236_941 : mcode 236 941 = some (.ireturn, 1, 1, 0, 0) := rfl
theorem r236_941 : Rn 236 (941, [x0, x1, x2, x3], [.int i], a, h) = if mrt 1 i = true then some (some (.int i), a, h) else none := Rn_iretz c236_941
theorem c236_942 : mcode 236 942 = some (.aload_n 1, 1, 0, 0, 0) := rfl
theorem r236_942 : Rn 236 (942, [x0, some (.ref q), x2, x3], st, a, h) = Rn 236 (943, [x0, some (.ref q), x2, x3], .ref q :: st, a, h) := Rn_go c236_942 rfl
theorem c236_943 : mcode 236 943 = some (.aload_n 0, 1, 0, 0, 0) := rfl
theorem r236_943 : Rn 236 (943, [some (.ref q), x1, x2, x3], st, a, h) = Rn 236 (944, [some (.ref q), x1, x2, x3], .ref q :: st, a, h) := Rn_go c236_943 rfl
theorem c236_944 : mcode 236 944 = some (.iload_n 3, 1, 0, 0, 0) := rfl
theorem r236_944 : Rn 236 (944, [x0, x1, x2, some (.int i)], st, a, h) = Rn 236 (945, [x0, x1, x2, some (.int i)], .int i :: st, a, h) := Rn_go c236_944 rfl
theorem c236_945 : mcode 236 945 = some (.iconst 1, 1, 0, 0, 0) := rfl
theorem r236_945 : Rn 236 (945, [x0, x1, x2, x3], st, a, h) = Rn 236 (946, [x0, x1, x2, x3], .int (1 : Int32) :: st, a, h) := Rn_go c236_945 rfl
theorem c236_946 : mcode 236 946 = some (.iadd, 1, 0, 0, 0) := rfl
theorem r236_946 : Rn 236 (946, [x0, x1, x2, x3], .int j :: .int i :: st, a, h) = Rn 236 (947, [x0, x1, x2, x3], .int (i + j) :: st, a, h) := Rn_go c236_946 rfl
theorem c236_947 : mcode 236 947 = some (.iaload, 1, 0, 0, 0) := rfl
theorem r236_947 : Rn 236 (947, [x0, x1, x2, x3], .int i :: .ref q :: st, a, h) = Ki 236 948 [x0, x1, x2, x3] st a h (mld h q i false) := Rn_iald c236_947 rfl
theorem c236_948 : mcode 236 948 = some (.aload_n 0, 1, 0, 0, 0) := rfl
theorem r236_948 : Rn 236 (948, [some (.ref q), x1, x2, x3], st, a, h) = Rn 236 (949, [some (.ref q), x1, x2, x3], .ref q :: st, a, h) := Rn_go c236_948 rfl
theorem c236_949 : mcode 236 949 = some (.iload_n 3, 1, 0, 0, 0) := rfl
theorem r236_949 : Rn 236 (949, [x0, x1, x2, some (.int i)], st, a, h) = Rn 236 (950, [x0, x1, x2, some (.int i)], .int i :: st, a, h) := Rn_go c236_949 rfl
theorem c236_950 : mcode 236 950 = some (.iconst 2, 1, 0, 0, 0) := rfl
theorem r236_950 : Rn 236 (950, [x0, x1, x2, x3], st, a, h) = Rn 236 (951, [x0, x1, x2, x3], .int (2 : Int32) :: st, a, h) := Rn_go c236_950 rfl
theorem c236_951 : mcode 236 951 = some (.iadd, 1, 0, 0, 0) := rfl
theorem r236_951 : Rn 236 (951, [x0, x1, x2, x3], .int j :: .int i :: st, a, h) = Rn 236 (952, [x0, x1, x2, x3], .int (i + j) :: st, a, h) := Rn_go c236_951 rfl
theorem c236_952 : mcode 236 952 = some (.iaload, 1, 0, 0, 0) := rfl
theorem r236_952 : Rn 236 (952, [x0, x1, x2, x3], .int i :: .ref q :: st, a, h) = Ki 236 953 [x0, x1, x2, x3] st a h (mld h q i false) := Rn_iald c236_952 rfl
theorem c236_953 : mcode 236 953 = some (.aload_n 0, 1, 0, 0, 0) := rfl
theorem r236_953 : Rn 236 (953, [some (.ref q), x1, x2, x3], st, a, h) = Rn 236 (954, [some (.ref q), x1, x2, x3], .ref q :: st, a, h) := Rn_go c236_953 rfl
theorem c236_954 : mcode 236 954 = some (.iload_n 3, 1, 0, 0, 0) := rfl
theorem r236_954 : Rn 236 (954, [x0, x1, x2, some (.int i)], st, a, h) = Rn 236 (955, [x0, x1, x2, some (.int i)], .int i :: st, a, h) := Rn_go c236_954 rfl
theorem c236_955 : mcode 236 955 = some (.iconst 3, 1, 0, 0, 0) := rfl
theorem r236_955 : Rn 236 (955, [x0, x1, x2, x3], st, a, h) = Rn 236 (956, [x0, x1, x2, x3], .int (3 : Int32) :: st, a, h) := Rn_go c236_955 rfl
theorem c236_956 : mcode 236 956 = some (.iadd, 1, 0, 0, 0) := rfl
theorem r236_956 : Rn 236 (956, [x0, x1, x2, x3], .int j :: .int i :: st, a, h) = Rn 236 (957, [x0, x1, x2, x3], .int (i + j) :: st, a, h) := Rn_go c236_956 rfl
theorem c236_957 : mcode 236 957 = some (.iaload, 1, 0, 0, 0) := rfl
theorem r236_957 : Rn 236 (957, [x0, x1, x2, x3], .int i :: .ref q :: st, a, h) = Ki 236 958 [x0, x1, x2, x3] st a h (mld h q i false) := Rn_iald c236_957 rfl
theorem c236_958 : mcode 236 958 = some (.invokevirtual 104, 3, 85, 3, 5) := rfl
theorem r236_958 : Rn 236 (958, [x0, x1, x2, x3], [v2, v1, v0, .ref q], a, h) = if mis h q 5 = true then Bk 236 961 [x0, x1, x2, x3] [] (Ec 85 [.ref q, v0, v1, v2] a h) else none := Rn_call1 c236_958 rfl (Nat.le_of_ble_eq_true rfl) rfl rfl (Nat.le_of_ble_eq_true rfl)
theorem c236_961 : mcode 236 961 = some (.aload_n 2, 1, 0, 0, 0) := rfl
theorem r236_961 : Rn 236 (961, [x0, x1, some (.ref q), x3], st, a, h) = Rn 236 (962, [x0, x1, some (.ref q), x3], .ref q :: st, a, h) := Rn_go c236_961 rfl
theorem c236_962 : mcode 236 962 = some (.aload_n 0, 1, 0, 0, 0) := rfl
theorem r236_962 : Rn 236 (962, [some (.ref q), x1, x2, x3], st, a, h) = Rn 236 (963, [some (.ref q), x1, x2, x3], .ref q :: st, a, h) := Rn_go c236_962 rfl
theorem c236_963 : mcode 236 963 = some (.iload_n 3, 1, 0, 0, 0) := rfl
theorem r236_963 : Rn 236 (963, [x0, x1, x2, some (.int i)], st, a, h) = Rn 236 (964, [x0, x1, x2, some (.int i)], .int i :: st, a, h) := Rn_go c236_963 rfl
theorem c236_964 : mcode 236 964 = some (.iconst 1, 1, 0, 0, 0) := rfl
theorem r236_964 : Rn 236 (964, [x0, x1, x2, x3], st, a, h) = Rn 236 (965, [x0, x1, x2, x3], .int (1 : Int32) :: st, a, h) := Rn_go c236_964 rfl
theorem c236_965 : mcode 236 965 = some (.iadd, 1, 0, 0, 0) := rfl
theorem r236_965 : Rn 236 (965, [x0, x1, x2, x3], .int j :: .int i :: st, a, h) = Rn 236 (966, [x0, x1, x2, x3], .int (i + j) :: st, a, h) := Rn_go c236_965 rfl
theorem c236_966 : mcode 236 966 = some (.iaload, 1, 0, 0, 0) := rfl
theorem r236_966 : Rn 236 (966, [x0, x1, x2, x3], .int i :: .ref q :: st, a, h) = Ki 236 967 [x0, x1, x2, x3] st a h (mld h q i false) := Rn_iald c236_966 rfl
theorem c236_967 : mcode 236 967 = some (.aload_n 0, 1, 0, 0, 0) := rfl
theorem r236_967 : Rn 236 (967, [some (.ref q), x1, x2, x3], st, a, h) = Rn 236 (968, [some (.ref q), x1, x2, x3], .ref q :: st, a, h) := Rn_go c236_967 rfl
theorem c236_968 : mcode 236 968 = some (.iload_n 3, 1, 0, 0, 0) := rfl
theorem r236_968 : Rn 236 (968, [x0, x1, x2, some (.int i)], st, a, h) = Rn 236 (969, [x0, x1, x2, some (.int i)], .int i :: st, a, h) := Rn_go c236_968 rfl
theorem c236_969 : mcode 236 969 = some (.iconst 2, 1, 0, 0, 0) := rfl
theorem r236_969 : Rn 236 (969, [x0, x1, x2, x3], st, a, h) = Rn 236 (970, [x0, x1, x2, x3], .int (2 : Int32) :: st, a, h) := Rn_go c236_969 rfl
theorem c236_970 : mcode 236 970 = some (.iadd, 1, 0, 0, 0) := rfl
theorem r236_970 : Rn 236 (970, [x0, x1, x2, x3], .int j :: .int i :: st, a, h) = Rn 236 (971, [x0, x1, x2, x3], .int (i + j) :: st, a, h) := Rn_go c236_970 rfl
theorem c236_971 : mcode 236 971 = some (.iaload, 1, 0, 0, 0) := rfl
theorem r236_971 : Rn 236 (971, [x0, x1, x2, x3], .int i :: .ref q :: st, a, h) = Ki 236 972 [x0, x1, x2, x3] st a h (mld h q i false) := Rn_iald c236_971 rfl
theorem c236_972 : mcode 236 972 = some (.aload_n 0, 1, 0, 0, 0) := rfl
theorem r236_972 : Rn 236 (972, [some (.ref q), x1, x2, x3], st, a, h) = Rn 236 (973, [some (.ref q), x1, x2, x3], .ref q :: st, a, h) := Rn_go c236_972 rfl
theorem c236_973 : mcode 236 973 = some (.iload_n 3, 1, 0, 0, 0) := rfl
theorem r236_973 : Rn 236 (973, [x0, x1, x2, some (.int i)], st, a, h) = Rn 236 (974, [x0, x1, x2, some (.int i)], .int i :: st, a, h) := Rn_go c236_973 rfl
theorem c236_974 : mcode 236 974 = some (.iconst 3, 1, 0, 0, 0) := rfl
theorem r236_974 : Rn 236 (974, [x0, x1, x2, x3], st, a, h) = Rn 236 (975, [x0, x1, x2, x3], .int (3 : Int32) :: st, a, h) := Rn_go c236_974 rfl
theorem c236_975 : mcode 236 975 = some (.iadd, 1, 0, 0, 0) := rfl
theorem r236_975 : Rn 236 (975, [x0, x1, x2, x3], .int j :: .int i :: st, a, h) = Rn 236 (976, [x0, x1, x2, x3], .int (i + j) :: st, a, h) := Rn_go c236_975 rfl
theorem c236_976 : mcode 236 976 = some (.iaload, 1, 0, 0, 0) := rfl
theorem r236_976 : Rn 236 (976, [x0, x1, x2, x3], .int i :: .ref q :: st, a, h) = Ki 236 977 [x0, x1, x2, x3] st a h (mld h q i false) := Rn_iald c236_976 rfl
theorem c236_977 : mcode 236 977 = some (.invokevirtual 107, 3, 185, 3, 6) := rfl
theorem r236_977 : Rn 236 (977, [x0, x1, x2, x3], [v2, v1, v0, .ref q, .int i0], a, h) = if mis h q 6 = true then Bk 236 980 [x0, x1, x2, x3] [.int i0] (Ec 185 [.ref q, v0, v1, v2] a h) else none := Rn_call1 c236_977 rfl (Nat.le_of_ble_eq_true rfl) rfl rfl (Nat.le_of_ble_eq_true rfl)
theorem c236_980 : mcode 236 980 = some (.if_icmp .eq 523, 3, 0, 0, 0) := rfl
theorem r236_980 : Rn 236 (980, [x0, x1, x2, x3], .int j :: .int i :: st, a, h) = if i = j then Rn 236 (1503, [x0, x1, x2, x3], st, a, h) else Rn 236 (983, [x0, x1, x2, x3], st, a, h) := Rn_icmp c236_980 mc_eq rfl rfl
theorem c236_983 : mcode 236 983 = some (.iconst 0, 1, 0, 0, 0) := rfl
theorem r236_983 : Rn 236 (983, [x0, x1, x2, x3], st, a, h) = Rn 236 (984, [x0, x1, x2, x3], .int (0 : Int32) :: st, a, h) := Rn_go c236_983 rfl
theorem c236_984 : mcode 236 984 = some (.ireturn, 1, 1, 0, 0) := rfl
theorem r236_984 : Rn 236 (984, [x0, x1, x2, x3], [.int i], a, h) = if mrt 1 i = true then some (some (.int i), a, h) else none := Rn_iretz c236_984
theorem c236_985 : mcode 236 985 = some (.aload_n 1, 1, 0, 0, 0) := rfl
theorem r236_985 : Rn 236 (985, [x0, some (.ref q), x2, x3], st, a, h) = Rn 236 (986, [x0, some (.ref q), x2, x3], .ref q :: st, a, h) := Rn_go c236_985 rfl
theorem c236_986 : mcode 236 986 = some (.aload_n 0, 1, 0, 0, 0) := rfl
theorem r236_986 : Rn 236 (986, [some (.ref q), x1, x2, x3], st, a, h) = Rn 236 (987, [some (.ref q), x1, x2, x3], .ref q :: st, a, h) := Rn_go c236_986 rfl
theorem c236_987 : mcode 236 987 = some (.iload_n 3, 1, 0, 0, 0) := rfl
theorem r236_987 : Rn 236 (987, [x0, x1, x2, some (.int i)], st, a, h) = Rn 236 (988, [x0, x1, x2, some (.int i)], .int i :: st, a, h) := Rn_go c236_987 rfl
theorem c236_988 : mcode 236 988 = some (.iconst 1, 1, 0, 0, 0) := rfl
theorem r236_988 : Rn 236 (988, [x0, x1, x2, x3], st, a, h) = Rn 236 (989, [x0, x1, x2, x3], .int (1 : Int32) :: st, a, h) := Rn_go c236_988 rfl
theorem c236_989 : mcode 236 989 = some (.iadd, 1, 0, 0, 0) := rfl
theorem r236_989 : Rn 236 (989, [x0, x1, x2, x3], .int j :: .int i :: st, a, h) = Rn 236 (990, [x0, x1, x2, x3], .int (i + j) :: st, a, h) := Rn_go c236_989 rfl
theorem c236_990 : mcode 236 990 = some (.iaload, 1, 0, 0, 0) := rfl
theorem r236_990 : Rn 236 (990, [x0, x1, x2, x3], .int i :: .ref q :: st, a, h) = Ki 236 991 [x0, x1, x2, x3] st a h (mld h q i false) := Rn_iald c236_990 rfl
theorem c236_991 : mcode 236 991 = some (.aload_n 0, 1, 0, 0, 0) := rfl
theorem r236_991 : Rn 236 (991, [some (.ref q), x1, x2, x3], st, a, h) = Rn 236 (992, [some (.ref q), x1, x2, x3], .ref q :: st, a, h) := Rn_go c236_991 rfl
theorem c236_992 : mcode 236 992 = some (.iload_n 3, 1, 0, 0, 0) := rfl
theorem r236_992 : Rn 236 (992, [x0, x1, x2, some (.int i)], st, a, h) = Rn 236 (993, [x0, x1, x2, some (.int i)], .int i :: st, a, h) := Rn_go c236_992 rfl
theorem c236_993 : mcode 236 993 = some (.iconst 2, 1, 0, 0, 0) := rfl
theorem r236_993 : Rn 236 (993, [x0, x1, x2, x3], st, a, h) = Rn 236 (994, [x0, x1, x2, x3], .int (2 : Int32) :: st, a, h) := Rn_go c236_993 rfl
theorem c236_994 : mcode 236 994 = some (.iadd, 1, 0, 0, 0) := rfl
theorem r236_994 : Rn 236 (994, [x0, x1, x2, x3], .int j :: .int i :: st, a, h) = Rn 236 (995, [x0, x1, x2, x3], .int (i + j) :: st, a, h) := Rn_go c236_994 rfl
theorem c236_995 : mcode 236 995 = some (.iaload, 1, 0, 0, 0) := rfl
theorem r236_995 : Rn 236 (995, [x0, x1, x2, x3], .int i :: .ref q :: st, a, h) = Ki 236 996 [x0, x1, x2, x3] st a h (mld h q i false) := Rn_iald c236_995 rfl
theorem c236_996 : mcode 236 996 = some (.invokevirtual 108, 3, 86, 2, 5) := rfl
theorem r236_996 : Rn 236 (996, [x0, x1, x2, x3], [v1, v0, .ref q], a, h) = if mis h q 5 = true then Bk 236 999 [x0, x1, x2, x3] [] (Ec 86 [.ref q, v0, v1] a h) else none := Rn_call1 c236_996 rfl (Nat.le_of_ble_eq_true rfl) rfl rfl (Nat.le_of_ble_eq_true rfl)
theorem c236_999 : mcode 236 999 = some (.aload_n 2, 1, 0, 0, 0) := rfl
theorem r236_999 : Rn 236 (999, [x0, x1, some (.ref q), x3], st, a, h) = Rn 236 (1000, [x0, x1, some (.ref q), x3], .ref q :: st, a, h) := Rn_go c236_999 rfl
theorem c236_1000 : mcode 236 1000 = some (.aload_n 0, 1, 0, 0, 0) := rfl
theorem r236_1000 : Rn 236 (1000, [some (.ref q), x1, x2, x3], st, a, h) = Rn 236 (1001, [some (.ref q), x1, x2, x3], .ref q :: st, a, h) := Rn_go c236_1000 rfl
theorem c236_1001 : mcode 236 1001 = some (.iload_n 3, 1, 0, 0, 0) := rfl
theorem r236_1001 : Rn 236 (1001, [x0, x1, x2, some (.int i)], st, a, h) = Rn 236 (1002, [x0, x1, x2, some (.int i)], .int i :: st, a, h) := Rn_go c236_1001 rfl
theorem c236_1002 : mcode 236 1002 = some (.iconst 1, 1, 0, 0, 0) := rfl
theorem r236_1002 : Rn 236 (1002, [x0, x1, x2, x3], st, a, h) = Rn 236 (1003, [x0, x1, x2, x3], .int (1 : Int32) :: st, a, h) := Rn_go c236_1002 rfl
theorem c236_1003 : mcode 236 1003 = some (.iadd, 1, 0, 0, 0) := rfl
theorem r236_1003 : Rn 236 (1003, [x0, x1, x2, x3], .int j :: .int i :: st, a, h) = Rn 236 (1004, [x0, x1, x2, x3], .int (i + j) :: st, a, h) := Rn_go c236_1003 rfl
theorem c236_1004 : mcode 236 1004 = some (.iaload, 1, 0, 0, 0) := rfl
theorem r236_1004 : Rn 236 (1004, [x0, x1, x2, x3], .int i :: .ref q :: st, a, h) = Ki 236 1005 [x0, x1, x2, x3] st a h (mld h q i false) := Rn_iald c236_1004 rfl
theorem c236_1005 : mcode 236 1005 = some (.aload_n 0, 1, 0, 0, 0) := rfl
theorem r236_1005 : Rn 236 (1005, [some (.ref q), x1, x2, x3], st, a, h) = Rn 236 (1006, [some (.ref q), x1, x2, x3], .ref q :: st, a, h) := Rn_go c236_1005 rfl
theorem c236_1006 : mcode 236 1006 = some (.iload_n 3, 1, 0, 0, 0) := rfl
theorem r236_1006 : Rn 236 (1006, [x0, x1, x2, some (.int i)], st, a, h) = Rn 236 (1007, [x0, x1, x2, some (.int i)], .int i :: st, a, h) := Rn_go c236_1006 rfl
theorem c236_1007 : mcode 236 1007 = some (.iconst 2, 1, 0, 0, 0) := rfl
theorem r236_1007 : Rn 236 (1007, [x0, x1, x2, x3], st, a, h) = Rn 236 (1008, [x0, x1, x2, x3], .int (2 : Int32) :: st, a, h) := Rn_go c236_1007 rfl
theorem c236_1008 : mcode 236 1008 = some (.iadd, 1, 0, 0, 0) := rfl
theorem r236_1008 : Rn 236 (1008, [x0, x1, x2, x3], .int j :: .int i :: st, a, h) = Rn 236 (1009, [x0, x1, x2, x3], .int (i + j) :: st, a, h) := Rn_go c236_1008 rfl
theorem c236_1009 : mcode 236 1009 = some (.iaload, 1, 0, 0, 0) := rfl
theorem r236_1009 : Rn 236 (1009, [x0, x1, x2, x3], .int i :: .ref q :: st, a, h) = Ki 236 1010 [x0, x1, x2, x3] st a h (mld h q i false) := Rn_iald c236_1009 rfl
theorem c236_1010 : mcode 236 1010 = some (.invokevirtual 111, 3, 186, 2, 6) := rfl
theorem r236_1010 : Rn 236 (1010, [x0, x1, x2, x3], [v1, v0, .ref q, .int i0], a, h) = if mis h q 6 = true then Bk 236 1013 [x0, x1, x2, x3] [.int i0] (Ec 186 [.ref q, v0, v1] a h) else none := Rn_call1 c236_1010 rfl (Nat.le_of_ble_eq_true rfl) rfl rfl (Nat.le_of_ble_eq_true rfl)
theorem c236_1013 : mcode 236 1013 = some (.if_icmp .eq 490, 3, 0, 0, 0) := rfl
theorem r236_1013 : Rn 236 (1013, [x0, x1, x2, x3], .int j :: .int i :: st, a, h) = if i = j then Rn 236 (1503, [x0, x1, x2, x3], st, a, h) else Rn 236 (1016, [x0, x1, x2, x3], st, a, h) := Rn_icmp c236_1013 mc_eq rfl rfl
theorem c236_1016 : mcode 236 1016 = some (.iconst 0, 1, 0, 0, 0) := rfl
theorem r236_1016 : Rn 236 (1016, [x0, x1, x2, x3], st, a, h) = Rn 236 (1017, [x0, x1, x2, x3], .int (0 : Int32) :: st, a, h) := Rn_go c236_1016 rfl
theorem c236_1017 : mcode 236 1017 = some (.ireturn, 1, 1, 0, 0) := rfl
theorem r236_1017 : Rn 236 (1017, [x0, x1, x2, x3], [.int i], a, h) = if mrt 1 i = true then some (some (.int i), a, h) else none := Rn_iretz c236_1017
theorem c236_1018 : mcode 236 1018 = some (.aload_n 1, 1, 0, 0, 0) := rfl
theorem r236_1018 : Rn 236 (1018, [x0, some (.ref q), x2, x3], st, a, h) = Rn 236 (1019, [x0, some (.ref q), x2, x3], .ref q :: st, a, h) := Rn_go c236_1018 rfl
theorem c236_1019 : mcode 236 1019 = some (.aload_n 0, 1, 0, 0, 0) := rfl
theorem r236_1019 : Rn 236 (1019, [some (.ref q), x1, x2, x3], st, a, h) = Rn 236 (1020, [some (.ref q), x1, x2, x3], .ref q :: st, a, h) := Rn_go c236_1019 rfl
theorem c236_1020 : mcode 236 1020 = some (.iload_n 3, 1, 0, 0, 0) := rfl
theorem r236_1020 : Rn 236 (1020, [x0, x1, x2, some (.int i)], st, a, h) = Rn 236 (1021, [x0, x1, x2, some (.int i)], .int i :: st, a, h) := Rn_go c236_1020 rfl
theorem c236_1021 : mcode 236 1021 = some (.iconst 1, 1, 0, 0, 0) := rfl
theorem r236_1021 : Rn 236 (1021, [x0, x1, x2, x3], st, a, h) = Rn 236 (1022, [x0, x1, x2, x3], .int (1 : Int32) :: st, a, h) := Rn_go c236_1021 rfl
theorem c236_1022 : mcode 236 1022 = some (.iadd, 1, 0, 0, 0) := rfl
theorem r236_1022 : Rn 236 (1022, [x0, x1, x2, x3], .int j :: .int i :: st, a, h) = Rn 236 (1023, [x0, x1, x2, x3], .int (i + j) :: st, a, h) := Rn_go c236_1022 rfl
theorem c236_1023 : mcode 236 1023 = some (.iaload, 1, 0, 0, 0) := rfl
theorem r236_1023 : Rn 236 (1023, [x0, x1, x2, x3], .int i :: .ref q :: st, a, h) = Ki 236 1024 [x0, x1, x2, x3] st a h (mld h q i false) := Rn_iald c236_1023 rfl
theorem c236_1024 : mcode 236 1024 = some (.invokevirtual 112, 3, 87, 1, 5) := rfl
theorem r236_1024 : Rn 236 (1024, [x0, x1, x2, x3], [v0, .ref q], a, h) = if mis h q 5 = true then Bk 236 1027 [x0, x1, x2, x3] [] (Ec 87 [.ref q, v0] a h) else none := Rn_call1 c236_1024 rfl (Nat.le_of_ble_eq_true rfl) rfl rfl (Nat.le_of_ble_eq_true rfl)
theorem c236_1027 : mcode 236 1027 = some (.aload_n 2, 1, 0, 0, 0) := rfl
theorem r236_1027 : Rn 236 (1027, [x0, x1, some (.ref q), x3], st, a, h) = Rn 236 (1028, [x0, x1, some (.ref q), x3], .ref q :: st, a, h) := Rn_go c236_1027 rfl
theorem c236_1028 : mcode 236 1028 = some (.aload_n 0, 1, 0, 0, 0) := rfl
theorem r236_1028 : Rn 236 (1028, [some (.ref q), x1, x2, x3], st, a, h) = Rn 236 (1029, [some (.ref q), x1, x2, x3], .ref q :: st, a, h) := Rn_go c236_1028 rfl
theorem c236_1029 : mcode 236 1029 = some (.iload_n 3, 1, 0, 0, 0) := rfl
theorem r236_1029 : Rn 236 (1029, [x0, x1, x2, some (.int i)], st, a, h) = Rn 236 (1030, [x0, x1, x2, some (.int i)], .int i :: st, a, h) := Rn_go c236_1029 rfl
theorem c236_1030 : mcode 236 1030 = some (.iconst 1, 1, 0, 0, 0) := rfl
theorem r236_1030 : Rn 236 (1030, [x0, x1, x2, x3], st, a, h) = Rn 236 (1031, [x0, x1, x2, x3], .int (1 : Int32) :: st, a, h) := Rn_go c236_1030 rfl
theorem c236_1031 : mcode 236 1031 = some (.iadd, 1, 0, 0, 0) := rfl
theorem r236_1031 : Rn 236 (1031, [x0, x1, x2, x3], .int j :: .int i :: st, a, h) = Rn 236 (1032, [x0, x1, x2, x3], .int (i + j) :: st, a, h) := Rn_go c236_1031 rfl
theorem c236_1032 : mcode 236 1032 = some (.iaload, 1, 0, 0, 0) := rfl
theorem r236_1032 : Rn 236 (1032, [x0, x1, x2, x3], .int i :: .ref q :: st, a, h) = Ki 236 1033 [x0, x1, x2, x3] st a h (mld h q i false) := Rn_iald c236_1032 rfl
theorem c236_1033 : mcode 236 1033 = some (.invokevirtual 115, 3, 188, 1, 6) := rfl
theorem r236_1033 : Rn 236 (1033, [x0, x1, x2, x3], [v0, .ref q, .int i0], a, h) = if mis h q 6 = true then Bk 236 1036 [x0, x1, x2, x3] [.int i0] (Ec 188 [.ref q, v0] a h) else none := Rn_call1 c236_1033 rfl (Nat.le_of_ble_eq_true rfl) rfl rfl (Nat.le_of_ble_eq_true rfl)
theorem c236_1036 : mcode 236 1036 = some (.if_icmp .eq 467, 3, 0, 0, 0) := rfl
theorem r236_1036 : Rn 236 (1036, [x0, x1, x2, x3], .int j :: .int i :: st, a, h) = if i = j then Rn 236 (1503, [x0, x1, x2, x3], st, a, h) else Rn 236 (1039, [x0, x1, x2, x3], st, a, h) := Rn_icmp c236_1036 mc_eq rfl rfl
theorem c236_1039 : mcode 236 1039 = some (.iconst 0, 1, 0, 0, 0) := rfl
theorem r236_1039 : Rn 236 (1039, [x0, x1, x2, x3], st, a, h) = Rn 236 (1040, [x0, x1, x2, x3], .int (0 : Int32) :: st, a, h) := Rn_go c236_1039 rfl
theorem c236_1040 : mcode 236 1040 = some (.ireturn, 1, 1, 0, 0) := rfl
theorem r236_1040 : Rn 236 (1040, [x0, x1, x2, x3], [.int i], a, h) = if mrt 1 i = true then some (some (.int i), a, h) else none := Rn_iretz c236_1040
theorem c236_1041 : mcode 236 1041 = some (.aload_n 1, 1, 0, 0, 0) := rfl
theorem r236_1041 : Rn 236 (1041, [x0, some (.ref q), x2, x3], st, a, h) = Rn 236 (1042, [x0, some (.ref q), x2, x3], .ref q :: st, a, h) := Rn_go c236_1041 rfl
theorem c236_1042 : mcode 236 1042 = some (.aload_n 0, 1, 0, 0, 0) := rfl
theorem r236_1042 : Rn 236 (1042, [some (.ref q), x1, x2, x3], st, a, h) = Rn 236 (1043, [some (.ref q), x1, x2, x3], .ref q :: st, a, h) := Rn_go c236_1042 rfl
theorem c236_1043 : mcode 236 1043 = some (.iload_n 3, 1, 0, 0, 0) := rfl
theorem r236_1043 : Rn 236 (1043, [x0, x1, x2, some (.int i)], st, a, h) = Rn 236 (1044, [x0, x1, x2, some (.int i)], .int i :: st, a, h) := Rn_go c236_1043 rfl
theorem c236_1044 : mcode 236 1044 = some (.iconst 1, 1, 0, 0, 0) := rfl
theorem r236_1044 : Rn 236 (1044, [x0, x1, x2, x3], st, a, h) = Rn 236 (1045, [x0, x1, x2, x3], .int (1 : Int32) :: st, a, h) := Rn_go c236_1044 rfl
theorem c236_1045 : mcode 236 1045 = some (.iadd, 1, 0, 0, 0) := rfl
theorem r236_1045 : Rn 236 (1045, [x0, x1, x2, x3], .int j :: .int i :: st, a, h) = Rn 236 (1046, [x0, x1, x2, x3], .int (i + j) :: st, a, h) := Rn_go c236_1045 rfl
theorem c236_1046 : mcode 236 1046 = some (.iaload, 1, 0, 0, 0) := rfl
theorem r236_1046 : Rn 236 (1046, [x0, x1, x2, x3], .int i :: .ref q :: st, a, h) = Ki 236 1047 [x0, x1, x2, x3] st a h (mld h q i false) := Rn_iald c236_1046 rfl
theorem c236_1047 : mcode 236 1047 = some (.aload_n 0, 1, 0, 0, 0) := rfl
theorem r236_1047 : Rn 236 (1047, [some (.ref q), x1, x2, x3], st, a, h) = Rn 236 (1048, [some (.ref q), x1, x2, x3], .ref q :: st, a, h) := Rn_go c236_1047 rfl
theorem c236_1048 : mcode 236 1048 = some (.iload_n 3, 1, 0, 0, 0) := rfl
theorem r236_1048 : Rn 236 (1048, [x0, x1, x2, some (.int i)], st, a, h) = Rn 236 (1049, [x0, x1, x2, some (.int i)], .int i :: st, a, h) := Rn_go c236_1048 rfl
theorem c236_1049 : mcode 236 1049 = some (.iconst 2, 1, 0, 0, 0) := rfl
theorem r236_1049 : Rn 236 (1049, [x0, x1, x2, x3], st, a, h) = Rn 236 (1050, [x0, x1, x2, x3], .int (2 : Int32) :: st, a, h) := Rn_go c236_1049 rfl
theorem c236_1050 : mcode 236 1050 = some (.iadd, 1, 0, 0, 0) := rfl
theorem r236_1050 : Rn 236 (1050, [x0, x1, x2, x3], .int j :: .int i :: st, a, h) = Rn 236 (1051, [x0, x1, x2, x3], .int (i + j) :: st, a, h) := Rn_go c236_1050 rfl
theorem c236_1051 : mcode 236 1051 = some (.iaload, 1, 0, 0, 0) := rfl
theorem r236_1051 : Rn 236 (1051, [x0, x1, x2, x3], .int i :: .ref q :: st, a, h) = Ki 236 1052 [x0, x1, x2, x3] st a h (mld h q i false) := Rn_iald c236_1051 rfl
theorem c236_1052 : mcode 236 1052 = some (.invokevirtual 116, 3, 88, 2, 5) := rfl
theorem r236_1052 : Rn 236 (1052, [x0, x1, x2, x3], [v1, v0, .ref q], a, h) = if mis h q 5 = true then Bk 236 1055 [x0, x1, x2, x3] [] (Ec 88 [.ref q, v0, v1] a h) else none := Rn_call1 c236_1052 rfl (Nat.le_of_ble_eq_true rfl) rfl rfl (Nat.le_of_ble_eq_true rfl)
theorem c236_1055 : mcode 236 1055 = some (.aload_n 2, 1, 0, 0, 0) := rfl
theorem r236_1055 : Rn 236 (1055, [x0, x1, some (.ref q), x3], st, a, h) = Rn 236 (1056, [x0, x1, some (.ref q), x3], .ref q :: st, a, h) := Rn_go c236_1055 rfl
theorem c236_1056 : mcode 236 1056 = some (.aload_n 0, 1, 0, 0, 0) := rfl
theorem r236_1056 : Rn 236 (1056, [some (.ref q), x1, x2, x3], st, a, h) = Rn 236 (1057, [some (.ref q), x1, x2, x3], .ref q :: st, a, h) := Rn_go c236_1056 rfl
theorem c236_1057 : mcode 236 1057 = some (.iload_n 3, 1, 0, 0, 0) := rfl
theorem r236_1057 : Rn 236 (1057, [x0, x1, x2, some (.int i)], st, a, h) = Rn 236 (1058, [x0, x1, x2, some (.int i)], .int i :: st, a, h) := Rn_go c236_1057 rfl
theorem c236_1058 : mcode 236 1058 = some (.iconst 1, 1, 0, 0, 0) := rfl
theorem r236_1058 : Rn 236 (1058, [x0, x1, x2, x3], st, a, h) = Rn 236 (1059, [x0, x1, x2, x3], .int (1 : Int32) :: st, a, h) := Rn_go c236_1058 rfl
theorem c236_1059 : mcode 236 1059 = some (.iadd, 1, 0, 0, 0) := rfl
theorem r236_1059 : Rn 236 (1059, [x0, x1, x2, x3], .int j :: .int i :: st, a, h) = Rn 236 (1060, [x0, x1, x2, x3], .int (i + j) :: st, a, h) := Rn_go c236_1059 rfl
theorem c236_1060 : mcode 236 1060 = some (.iaload, 1, 0, 0, 0) := rfl
theorem r236_1060 : Rn 236 (1060, [x0, x1, x2, x3], .int i :: .ref q :: st, a, h) = Ki 236 1061 [x0, x1, x2, x3] st a h (mld h q i false) := Rn_iald c236_1060 rfl
theorem c236_1061 : mcode 236 1061 = some (.aload_n 0, 1, 0, 0, 0) := rfl
theorem r236_1061 : Rn 236 (1061, [some (.ref q), x1, x2, x3], st, a, h) = Rn 236 (1062, [some (.ref q), x1, x2, x3], .ref q :: st, a, h) := Rn_go c236_1061 rfl
theorem c236_1062 : mcode 236 1062 = some (.iload_n 3, 1, 0, 0, 0) := rfl
theorem r236_1062 : Rn 236 (1062, [x0, x1, x2, some (.int i)], st, a, h) = Rn 236 (1063, [x0, x1, x2, some (.int i)], .int i :: st, a, h) := Rn_go c236_1062 rfl
theorem c236_1063 : mcode 236 1063 = some (.iconst 2, 1, 0, 0, 0) := rfl
theorem r236_1063 : Rn 236 (1063, [x0, x1, x2, x3], st, a, h) = Rn 236 (1064, [x0, x1, x2, x3], .int (2 : Int32) :: st, a, h) := Rn_go c236_1063 rfl
theorem c236_1064 : mcode 236 1064 = some (.iadd, 1, 0, 0, 0) := rfl
theorem r236_1064 : Rn 236 (1064, [x0, x1, x2, x3], .int j :: .int i :: st, a, h) = Rn 236 (1065, [x0, x1, x2, x3], .int (i + j) :: st, a, h) := Rn_go c236_1064 rfl
theorem c236_1065 : mcode 236 1065 = some (.iaload, 1, 0, 0, 0) := rfl
theorem r236_1065 : Rn 236 (1065, [x0, x1, x2, x3], .int i :: .ref q :: st, a, h) = Ki 236 1066 [x0, x1, x2, x3] st a h (mld h q i false) := Rn_iald c236_1065 rfl
theorem c236_1066 : mcode 236 1066 = some (.invokevirtual 120, 3, 189, 2, 6) := rfl
theorem r236_1066 : Rn 236 (1066, [x0, x1, x2, x3], [v1, v0, .ref q, .long l0], a, h) = if mis h q 6 = true then Bk 236 1069 [x0, x1, x2, x3] [.long l0] (Ec 189 [.ref q, v0, v1] a h) else none := Rn_call1 c236_1066 rfl (Nat.le_of_ble_eq_true rfl) rfl rfl (Nat.le_of_ble_eq_true rfl)
theorem c236_1069 : mcode 236 1069 = some (.lcmp, 1, 0, 0, 0) := rfl
theorem r236_1069 : Rn 236 (1069, [x0, x1, x2, x3], .long m :: .long l :: st, a, h) = Rn 236 (1070, [x0, x1, x2, x3], .int (if l < m then -1 else if l = m then 0 else 1) :: st, a, h) := Rn_go c236_1069 rfl
theorem c236_1070 : mcode 236 1070 = some (.ifCond .eq 433, 3, 0, 0, 0) := rfl
theorem r236_1070 : Rn 236 (1070, [x0, x1, x2, x3], .int i :: st, a, h) = if i = 0 then Rn 236 (1503, [x0, x1, x2, x3], st, a, h) else Rn 236 (1073, [x0, x1, x2, x3], st, a, h) := Rn_ifc c236_1070 mc_eq rfl rfl
theorem c236_1073 : mcode 236 1073 = some (.iconst 0, 1, 0, 0, 0) := rfl
theorem r236_1073 : Rn 236 (1073, [x0, x1, x2, x3], st, a, h) = Rn 236 (1074, [x0, x1, x2, x3], .int (0 : Int32) :: st, a, h) := Rn_go c236_1073 rfl
theorem c236_1074 : mcode 236 1074 = some (.ireturn, 1, 1, 0, 0) := rfl
theorem r236_1074 : Rn 236 (1074, [x0, x1, x2, x3], [.int i], a, h) = if mrt 1 i = true then some (some (.int i), a, h) else none := Rn_iretz c236_1074
theorem c236_1075 : mcode 236 1075 = some (.aload_n 1, 1, 0, 0, 0) := rfl
theorem r236_1075 : Rn 236 (1075, [x0, some (.ref q), x2, x3], st, a, h) = Rn 236 (1076, [x0, some (.ref q), x2, x3], .ref q :: st, a, h) := Rn_go c236_1075 rfl
theorem c236_1076 : mcode 236 1076 = some (.aload_n 0, 1, 0, 0, 0) := rfl
theorem r236_1076 : Rn 236 (1076, [some (.ref q), x1, x2, x3], st, a, h) = Rn 236 (1077, [some (.ref q), x1, x2, x3], .ref q :: st, a, h) := Rn_go c236_1076 rfl
theorem c236_1077 : mcode 236 1077 = some (.iload_n 3, 1, 0, 0, 0) := rfl
theorem r236_1077 : Rn 236 (1077, [x0, x1, x2, some (.int i)], st, a, h) = Rn 236 (1078, [x0, x1, x2, some (.int i)], .int i :: st, a, h) := Rn_go c236_1077 rfl
theorem c236_1078 : mcode 236 1078 = some (.iconst 1, 1, 0, 0, 0) := rfl
theorem r236_1078 : Rn 236 (1078, [x0, x1, x2, x3], st, a, h) = Rn 236 (1079, [x0, x1, x2, x3], .int (1 : Int32) :: st, a, h) := Rn_go c236_1078 rfl
theorem c236_1079 : mcode 236 1079 = some (.iadd, 1, 0, 0, 0) := rfl
theorem r236_1079 : Rn 236 (1079, [x0, x1, x2, x3], .int j :: .int i :: st, a, h) = Rn 236 (1080, [x0, x1, x2, x3], .int (i + j) :: st, a, h) := Rn_go c236_1079 rfl
theorem c236_1080 : mcode 236 1080 = some (.iaload, 1, 0, 0, 0) := rfl
theorem r236_1080 : Rn 236 (1080, [x0, x1, x2, x3], .int i :: .ref q :: st, a, h) = Ki 236 1081 [x0, x1, x2, x3] st a h (mld h q i false) := Rn_iald c236_1080 rfl
theorem c236_1081 : mcode 236 1081 = some (.invokevirtual 121, 3, 89, 1, 5) := rfl
theorem r236_1081 : Rn 236 (1081, [x0, x1, x2, x3], [v0, .ref q], a, h) = if mis h q 5 = true then Bk 236 1084 [x0, x1, x2, x3] [] (Ec 89 [.ref q, v0] a h) else none := Rn_call1 c236_1081 rfl (Nat.le_of_ble_eq_true rfl) rfl rfl (Nat.le_of_ble_eq_true rfl)
theorem c236_1084 : mcode 236 1084 = some (.aload_n 2, 1, 0, 0, 0) := rfl
theorem r236_1084 : Rn 236 (1084, [x0, x1, some (.ref q), x3], st, a, h) = Rn 236 (1085, [x0, x1, some (.ref q), x3], .ref q :: st, a, h) := Rn_go c236_1084 rfl
theorem c236_1085 : mcode 236 1085 = some (.aload_n 0, 1, 0, 0, 0) := rfl
theorem r236_1085 : Rn 236 (1085, [some (.ref q), x1, x2, x3], st, a, h) = Rn 236 (1086, [some (.ref q), x1, x2, x3], .ref q :: st, a, h) := Rn_go c236_1085 rfl
theorem c236_1086 : mcode 236 1086 = some (.iload_n 3, 1, 0, 0, 0) := rfl
theorem r236_1086 : Rn 236 (1086, [x0, x1, x2, some (.int i)], st, a, h) = Rn 236 (1087, [x0, x1, x2, some (.int i)], .int i :: st, a, h) := Rn_go c236_1086 rfl
theorem c236_1087 : mcode 236 1087 = some (.iconst 1, 1, 0, 0, 0) := rfl
theorem r236_1087 : Rn 236 (1087, [x0, x1, x2, x3], st, a, h) = Rn 236 (1088, [x0, x1, x2, x3], .int (1 : Int32) :: st, a, h) := Rn_go c236_1087 rfl
theorem c236_1088 : mcode 236 1088 = some (.iadd, 1, 0, 0, 0) := rfl
theorem r236_1088 : Rn 236 (1088, [x0, x1, x2, x3], .int j :: .int i :: st, a, h) = Rn 236 (1089, [x0, x1, x2, x3], .int (i + j) :: st, a, h) := Rn_go c236_1088 rfl
theorem c236_1089 : mcode 236 1089 = some (.iaload, 1, 0, 0, 0) := rfl
theorem r236_1089 : Rn 236 (1089, [x0, x1, x2, x3], .int i :: .ref q :: st, a, h) = Ki 236 1090 [x0, x1, x2, x3] st a h (mld h q i false) := Rn_iald c236_1089 rfl
theorem c236_1090 : mcode 236 1090 = some (.invokevirtual 124, 3, 190, 1, 6) := rfl
theorem r236_1090 : Rn 236 (1090, [x0, x1, x2, x3], [v0, .ref q, .int i0], a, h) = if mis h q 6 = true then Bk 236 1093 [x0, x1, x2, x3] [.int i0] (Ec 190 [.ref q, v0] a h) else none := Rn_call1 c236_1090 rfl (Nat.le_of_ble_eq_true rfl) rfl rfl (Nat.le_of_ble_eq_true rfl)
theorem c236_1093 : mcode 236 1093 = some (.if_icmp .eq 410, 3, 0, 0, 0) := rfl
theorem r236_1093 : Rn 236 (1093, [x0, x1, x2, x3], .int j :: .int i :: st, a, h) = if i = j then Rn 236 (1503, [x0, x1, x2, x3], st, a, h) else Rn 236 (1096, [x0, x1, x2, x3], st, a, h) := Rn_icmp c236_1093 mc_eq rfl rfl
theorem c236_1096 : mcode 236 1096 = some (.iconst 0, 1, 0, 0, 0) := rfl
theorem r236_1096 : Rn 236 (1096, [x0, x1, x2, x3], st, a, h) = Rn 236 (1097, [x0, x1, x2, x3], .int (0 : Int32) :: st, a, h) := Rn_go c236_1096 rfl
theorem c236_1097 : mcode 236 1097 = some (.ireturn, 1, 1, 0, 0) := rfl
theorem r236_1097 : Rn 236 (1097, [x0, x1, x2, x3], [.int i], a, h) = if mrt 1 i = true then some (some (.int i), a, h) else none := Rn_iretz c236_1097
theorem c236_1098 : mcode 236 1098 = some (.aload_n 1, 1, 0, 0, 0) := rfl
theorem r236_1098 : Rn 236 (1098, [x0, some (.ref q), x2, x3], st, a, h) = Rn 236 (1099, [x0, some (.ref q), x2, x3], .ref q :: st, a, h) := Rn_go c236_1098 rfl
theorem c236_1099 : mcode 236 1099 = some (.aload_n 0, 1, 0, 0, 0) := rfl
theorem r236_1099 : Rn 236 (1099, [some (.ref q), x1, x2, x3], st, a, h) = Rn 236 (1100, [some (.ref q), x1, x2, x3], .ref q :: st, a, h) := Rn_go c236_1099 rfl
theorem c236_1100 : mcode 236 1100 = some (.iload_n 3, 1, 0, 0, 0) := rfl
theorem r236_1100 : Rn 236 (1100, [x0, x1, x2, some (.int i)], st, a, h) = Rn 236 (1101, [x0, x1, x2, some (.int i)], .int i :: st, a, h) := Rn_go c236_1100 rfl
theorem c236_1101 : mcode 236 1101 = some (.iconst 1, 1, 0, 0, 0) := rfl
theorem r236_1101 : Rn 236 (1101, [x0, x1, x2, x3], st, a, h) = Rn 236 (1102, [x0, x1, x2, x3], .int (1 : Int32) :: st, a, h) := Rn_go c236_1101 rfl
theorem c236_1102 : mcode 236 1102 = some (.iadd, 1, 0, 0, 0) := rfl
theorem r236_1102 : Rn 236 (1102, [x0, x1, x2, x3], .int j :: .int i :: st, a, h) = Rn 236 (1103, [x0, x1, x2, x3], .int (i + j) :: st, a, h) := Rn_go c236_1102 rfl
theorem c236_1103 : mcode 236 1103 = some (.iaload, 1, 0, 0, 0) := rfl
theorem r236_1103 : Rn 236 (1103, [x0, x1, x2, x3], .int i :: .ref q :: st, a, h) = Ki 236 1104 [x0, x1, x2, x3] st a h (mld h q i false) := Rn_iald c236_1103 rfl
theorem c236_1104 : mcode 236 1104 = some (.aload_n 0, 1, 0, 0, 0) := rfl
theorem r236_1104 : Rn 236 (1104, [some (.ref q), x1, x2, x3], st, a, h) = Rn 236 (1105, [some (.ref q), x1, x2, x3], .ref q :: st, a, h) := Rn_go c236_1104 rfl
theorem c236_1105 : mcode 236 1105 = some (.iload_n 3, 1, 0, 0, 0) := rfl
theorem r236_1105 : Rn 236 (1105, [x0, x1, x2, some (.int i)], st, a, h) = Rn 236 (1106, [x0, x1, x2, some (.int i)], .int i :: st, a, h) := Rn_go c236_1105 rfl
theorem c236_1106 : mcode 236 1106 = some (.iconst 2, 1, 0, 0, 0) := rfl
theorem r236_1106 : Rn 236 (1106, [x0, x1, x2, x3], st, a, h) = Rn 236 (1107, [x0, x1, x2, x3], .int (2 : Int32) :: st, a, h) := Rn_go c236_1106 rfl
theorem c236_1107 : mcode 236 1107 = some (.iadd, 1, 0, 0, 0) := rfl
theorem r236_1107 : Rn 236 (1107, [x0, x1, x2, x3], .int j :: .int i :: st, a, h) = Rn 236 (1108, [x0, x1, x2, x3], .int (i + j) :: st, a, h) := Rn_go c236_1107 rfl
theorem c236_1108 : mcode 236 1108 = some (.iaload, 1, 0, 0, 0) := rfl
theorem r236_1108 : Rn 236 (1108, [x0, x1, x2, x3], .int i :: .ref q :: st, a, h) = Ki 236 1109 [x0, x1, x2, x3] st a h (mld h q i false) := Rn_iald c236_1108 rfl
theorem c236_1109 : mcode 236 1109 = some (.invokevirtual 125, 3, 90, 2, 5) := rfl
theorem r236_1109 : Rn 236 (1109, [x0, x1, x2, x3], [v1, v0, .ref q], a, h) = if mis h q 5 = true then Bk 236 1112 [x0, x1, x2, x3] [] (Ec 90 [.ref q, v0, v1] a h) else none := Rn_call1 c236_1109 rfl (Nat.le_of_ble_eq_true rfl) rfl rfl (Nat.le_of_ble_eq_true rfl)
theorem c236_1112 : mcode 236 1112 = some (.aload_n 2, 1, 0, 0, 0) := rfl
theorem r236_1112 : Rn 236 (1112, [x0, x1, some (.ref q), x3], st, a, h) = Rn 236 (1113, [x0, x1, some (.ref q), x3], .ref q :: st, a, h) := Rn_go c236_1112 rfl
theorem c236_1113 : mcode 236 1113 = some (.aload_n 0, 1, 0, 0, 0) := rfl
theorem r236_1113 : Rn 236 (1113, [some (.ref q), x1, x2, x3], st, a, h) = Rn 236 (1114, [some (.ref q), x1, x2, x3], .ref q :: st, a, h) := Rn_go c236_1113 rfl
theorem c236_1114 : mcode 236 1114 = some (.iload_n 3, 1, 0, 0, 0) := rfl
theorem r236_1114 : Rn 236 (1114, [x0, x1, x2, some (.int i)], st, a, h) = Rn 236 (1115, [x0, x1, x2, some (.int i)], .int i :: st, a, h) := Rn_go c236_1114 rfl
theorem c236_1115 : mcode 236 1115 = some (.iconst 1, 1, 0, 0, 0) := rfl
theorem r236_1115 : Rn 236 (1115, [x0, x1, x2, x3], st, a, h) = Rn 236 (1116, [x0, x1, x2, x3], .int (1 : Int32) :: st, a, h) := Rn_go c236_1115 rfl
theorem c236_1116 : mcode 236 1116 = some (.iadd, 1, 0, 0, 0) := rfl
theorem r236_1116 : Rn 236 (1116, [x0, x1, x2, x3], .int j :: .int i :: st, a, h) = Rn 236 (1117, [x0, x1, x2, x3], .int (i + j) :: st, a, h) := Rn_go c236_1116 rfl
theorem c236_1117 : mcode 236 1117 = some (.iaload, 1, 0, 0, 0) := rfl
theorem r236_1117 : Rn 236 (1117, [x0, x1, x2, x3], .int i :: .ref q :: st, a, h) = Ki 236 1118 [x0, x1, x2, x3] st a h (mld h q i false) := Rn_iald c236_1117 rfl
theorem c236_1118 : mcode 236 1118 = some (.aload_n 0, 1, 0, 0, 0) := rfl
theorem r236_1118 : Rn 236 (1118, [some (.ref q), x1, x2, x3], st, a, h) = Rn 236 (1119, [some (.ref q), x1, x2, x3], .ref q :: st, a, h) := Rn_go c236_1118 rfl
theorem c236_1119 : mcode 236 1119 = some (.iload_n 3, 1, 0, 0, 0) := rfl
theorem r236_1119 : Rn 236 (1119, [x0, x1, x2, some (.int i)], st, a, h) = Rn 236 (1120, [x0, x1, x2, some (.int i)], .int i :: st, a, h) := Rn_go c236_1119 rfl
theorem c236_1120 : mcode 236 1120 = some (.iconst 2, 1, 0, 0, 0) := rfl
theorem r236_1120 : Rn 236 (1120, [x0, x1, x2, x3], st, a, h) = Rn 236 (1121, [x0, x1, x2, x3], .int (2 : Int32) :: st, a, h) := Rn_go c236_1120 rfl
theorem c236_1121 : mcode 236 1121 = some (.iadd, 1, 0, 0, 0) := rfl
theorem r236_1121 : Rn 236 (1121, [x0, x1, x2, x3], .int j :: .int i :: st, a, h) = Rn 236 (1122, [x0, x1, x2, x3], .int (i + j) :: st, a, h) := Rn_go c236_1121 rfl
theorem c236_1122 : mcode 236 1122 = some (.iaload, 1, 0, 0, 0) := rfl
theorem r236_1122 : Rn 236 (1122, [x0, x1, x2, x3], .int i :: .ref q :: st, a, h) = Ki 236 1123 [x0, x1, x2, x3] st a h (mld h q i false) := Rn_iald c236_1122 rfl
theorem c236_1123 : mcode 236 1123 = some (.invokevirtual 128, 3, 191, 2, 6) := rfl
theorem r236_1123 : Rn 236 (1123, [x0, x1, x2, x3], [v1, v0, .ref q, .int i0], a, h) = if mis h q 6 = true then Bk 236 1126 [x0, x1, x2, x3] [.int i0] (Ec 191 [.ref q, v0, v1] a h) else none := Rn_call1 c236_1123 rfl (Nat.le_of_ble_eq_true rfl) rfl rfl (Nat.le_of_ble_eq_true rfl)
theorem c236_1126 : mcode 236 1126 = some (.if_icmp .eq 377, 3, 0, 0, 0) := rfl
theorem r236_1126 : Rn 236 (1126, [x0, x1, x2, x3], .int j :: .int i :: st, a, h) = if i = j then Rn 236 (1503, [x0, x1, x2, x3], st, a, h) else Rn 236 (1129, [x0, x1, x2, x3], st, a, h) := Rn_icmp c236_1126 mc_eq rfl rfl
theorem c236_1129 : mcode 236 1129 = some (.iconst 0, 1, 0, 0, 0) := rfl
theorem r236_1129 : Rn 236 (1129, [x0, x1, x2, x3], st, a, h) = Rn 236 (1130, [x0, x1, x2, x3], .int (0 : Int32) :: st, a, h) := Rn_go c236_1129 rfl
theorem c236_1130 : mcode 236 1130 = some (.ireturn, 1, 1, 0, 0) := rfl
theorem r236_1130 : Rn 236 (1130, [x0, x1, x2, x3], [.int i], a, h) = if mrt 1 i = true then some (some (.int i), a, h) else none := Rn_iretz c236_1130
theorem c236_1131 : mcode 236 1131 = some (.aload_n 1, 1, 0, 0, 0) := rfl
theorem r236_1131 : Rn 236 (1131, [x0, some (.ref q), x2, x3], st, a, h) = Rn 236 (1132, [x0, some (.ref q), x2, x3], .ref q :: st, a, h) := Rn_go c236_1131 rfl
theorem c236_1132 : mcode 236 1132 = some (.invokevirtual 129, 3, 91, 0, 5) := rfl
theorem r236_1132 : Rn 236 (1132, [x0, x1, x2, x3], [.ref q], a, h) = if mis h q 5 = true then Bk 236 1135 [x0, x1, x2, x3] [] (Ec 91 [.ref q] a h) else none := Rn_call1 c236_1132 rfl (Nat.le_of_ble_eq_true rfl) rfl rfl (Nat.le_of_ble_eq_true rfl)
theorem c236_1135 : mcode 236 1135 = some (.aload_n 2, 1, 0, 0, 0) := rfl
theorem r236_1135 : Rn 236 (1135, [x0, x1, some (.ref q), x3], st, a, h) = Rn 236 (1136, [x0, x1, some (.ref q), x3], .ref q :: st, a, h) := Rn_go c236_1135 rfl
theorem c236_1136 : mcode 236 1136 = some (.invokevirtual 133, 3, 192, 0, 6) := rfl
theorem r236_1136 : Rn 236 (1136, [x0, x1, x2, x3], [.ref q, .int i0], a, h) = if mis h q 6 = true then Bk 236 1139 [x0, x1, x2, x3] [.int i0] (Ec 192 [.ref q] a h) else none := Rn_call1 c236_1136 rfl (Nat.le_of_ble_eq_true rfl) rfl rfl (Nat.le_of_ble_eq_true rfl)
theorem c236_1139 : mcode 236 1139 = some (.if_icmp .eq 364, 3, 0, 0, 0) := rfl
theorem r236_1139 : Rn 236 (1139, [x0, x1, x2, x3], .int j :: .int i :: st, a, h) = if i = j then Rn 236 (1503, [x0, x1, x2, x3], st, a, h) else Rn 236 (1142, [x0, x1, x2, x3], st, a, h) := Rn_icmp c236_1139 mc_eq rfl rfl
theorem c236_1142 : mcode 236 1142 = some (.iconst 0, 1, 0, 0, 0) := rfl
theorem r236_1142 : Rn 236 (1142, [x0, x1, x2, x3], st, a, h) = Rn 236 (1143, [x0, x1, x2, x3], .int (0 : Int32) :: st, a, h) := Rn_go c236_1142 rfl
theorem c236_1143 : mcode 236 1143 = some (.ireturn, 1, 1, 0, 0) := rfl
theorem r236_1143 : Rn 236 (1143, [x0, x1, x2, x3], [.int i], a, h) = if mrt 1 i = true then some (some (.int i), a, h) else none := Rn_iretz c236_1143
theorem c236_1144 : mcode 236 1144 = some (.aload_n 1, 1, 0, 0, 0) := rfl
theorem r236_1144 : Rn 236 (1144, [x0, some (.ref q), x2, x3], st, a, h) = Rn 236 (1145, [x0, some (.ref q), x2, x3], .ref q :: st, a, h) := Rn_go c236_1144 rfl
theorem c236_1145 : mcode 236 1145 = some (.invokevirtual 134, 3, 92, 0, 5) := rfl
theorem r236_1145 : Rn 236 (1145, [x0, x1, x2, x3], [.ref q], a, h) = if mis h q 5 = true then Bk 236 1148 [x0, x1, x2, x3] [] (Ec 92 [.ref q] a h) else none := Rn_call1 c236_1145 rfl (Nat.le_of_ble_eq_true rfl) rfl rfl (Nat.le_of_ble_eq_true rfl)
theorem c236_1148 : mcode 236 1148 = some (.aload_n 2, 1, 0, 0, 0) := rfl
theorem r236_1148 : Rn 236 (1148, [x0, x1, some (.ref q), x3], st, a, h) = Rn 236 (1149, [x0, x1, some (.ref q), x3], .ref q :: st, a, h) := Rn_go c236_1148 rfl
theorem c236_1149 : mcode 236 1149 = some (.invokevirtual 137, 3, 210, 0, 6) := rfl
theorem r236_1149 : Rn 236 (1149, [x0, x1, x2, x3], [.ref q, .int i0], a, h) = if mis h q 6 = true then Bk 236 1152 [x0, x1, x2, x3] [.int i0] (Ec 210 [.ref q] a h) else none := Rn_call1 c236_1149 rfl (Nat.le_of_ble_eq_true rfl) rfl rfl (Nat.le_of_ble_eq_true rfl)
theorem c236_1152 : mcode 236 1152 = some (.if_icmp .eq 351, 3, 0, 0, 0) := rfl
theorem r236_1152 : Rn 236 (1152, [x0, x1, x2, x3], .int j :: .int i :: st, a, h) = if i = j then Rn 236 (1503, [x0, x1, x2, x3], st, a, h) else Rn 236 (1155, [x0, x1, x2, x3], st, a, h) := Rn_icmp c236_1152 mc_eq rfl rfl
theorem c236_1155 : mcode 236 1155 = some (.iconst 0, 1, 0, 0, 0) := rfl
theorem r236_1155 : Rn 236 (1155, [x0, x1, x2, x3], st, a, h) = Rn 236 (1156, [x0, x1, x2, x3], .int (0 : Int32) :: st, a, h) := Rn_go c236_1155 rfl
theorem c236_1156 : mcode 236 1156 = some (.ireturn, 1, 1, 0, 0) := rfl
theorem r236_1156 : Rn 236 (1156, [x0, x1, x2, x3], [.int i], a, h) = if mrt 1 i = true then some (some (.int i), a, h) else none := Rn_iretz c236_1156
theorem c236_1157 : mcode 236 1157 = some (.aload_n 1, 1, 0, 0, 0) := rfl
theorem r236_1157 : Rn 236 (1157, [x0, some (.ref q), x2, x3], st, a, h) = Rn 236 (1158, [x0, some (.ref q), x2, x3], .ref q :: st, a, h) := Rn_go c236_1157 rfl
theorem c236_1158 : mcode 236 1158 = some (.aload_n 0, 1, 0, 0, 0) := rfl
theorem r236_1158 : Rn 236 (1158, [some (.ref q), x1, x2, x3], st, a, h) = Rn 236 (1159, [some (.ref q), x1, x2, x3], .ref q :: st, a, h) := Rn_go c236_1158 rfl
theorem c236_1159 : mcode 236 1159 = some (.iload_n 3, 1, 0, 0, 0) := rfl
theorem r236_1159 : Rn 236 (1159, [x0, x1, x2, some (.int i)], st, a, h) = Rn 236 (1160, [x0, x1, x2, some (.int i)], .int i :: st, a, h) := Rn_go c236_1159 rfl
theorem c236_1160 : mcode 236 1160 = some (.iconst 1, 1, 0, 0, 0) := rfl
theorem r236_1160 : Rn 236 (1160, [x0, x1, x2, x3], st, a, h) = Rn 236 (1161, [x0, x1, x2, x3], .int (1 : Int32) :: st, a, h) := Rn_go c236_1160 rfl
theorem c236_1161 : mcode 236 1161 = some (.iadd, 1, 0, 0, 0) := rfl
theorem r236_1161 : Rn 236 (1161, [x0, x1, x2, x3], .int j :: .int i :: st, a, h) = Rn 236 (1162, [x0, x1, x2, x3], .int (i + j) :: st, a, h) := Rn_go c236_1161 rfl
theorem c236_1162 : mcode 236 1162 = some (.iaload, 1, 0, 0, 0) := rfl
theorem r236_1162 : Rn 236 (1162, [x0, x1, x2, x3], .int i :: .ref q :: st, a, h) = Ki 236 1163 [x0, x1, x2, x3] st a h (mld h q i false) := Rn_iald c236_1162 rfl
theorem c236_1163 : mcode 236 1163 = some (.aload_n 0, 1, 0, 0, 0) := rfl
theorem r236_1163 : Rn 236 (1163, [some (.ref q), x1, x2, x3], st, a, h) = Rn 236 (1164, [some (.ref q), x1, x2, x3], .ref q :: st, a, h) := Rn_go c236_1163 rfl
theorem c236_1164 : mcode 236 1164 = some (.iload_n 3, 1, 0, 0, 0) := rfl
theorem r236_1164 : Rn 236 (1164, [x0, x1, x2, some (.int i)], st, a, h) = Rn 236 (1165, [x0, x1, x2, some (.int i)], .int i :: st, a, h) := Rn_go c236_1164 rfl
theorem c236_1165 : mcode 236 1165 = some (.iconst 2, 1, 0, 0, 0) := rfl
theorem r236_1165 : Rn 236 (1165, [x0, x1, x2, x3], st, a, h) = Rn 236 (1166, [x0, x1, x2, x3], .int (2 : Int32) :: st, a, h) := Rn_go c236_1165 rfl
theorem c236_1166 : mcode 236 1166 = some (.iadd, 1, 0, 0, 0) := rfl
theorem r236_1166 : Rn 236 (1166, [x0, x1, x2, x3], .int j :: .int i :: st, a, h) = Rn 236 (1167, [x0, x1, x2, x3], .int (i + j) :: st, a, h) := Rn_go c236_1166 rfl
theorem c236_1167 : mcode 236 1167 = some (.iaload, 1, 0, 0, 0) := rfl
theorem r236_1167 : Rn 236 (1167, [x0, x1, x2, x3], .int i :: .ref q :: st, a, h) = Ki 236 1168 [x0, x1, x2, x3] st a h (mld h q i false) := Rn_iald c236_1167 rfl
theorem c236_1168 : mcode 236 1168 = some (.invokevirtual 138, 3, 93, 2, 5) := rfl
theorem r236_1168 : Rn 236 (1168, [x0, x1, x2, x3], [v1, v0, .ref q], a, h) = if mis h q 5 = true then Bk 236 1171 [x0, x1, x2, x3] [] (Ec 93 [.ref q, v0, v1] a h) else none := Rn_call1 c236_1168 rfl (Nat.le_of_ble_eq_true rfl) rfl rfl (Nat.le_of_ble_eq_true rfl)
theorem c236_1171 : mcode 236 1171 = some (.aload_n 2, 1, 0, 0, 0) := rfl
theorem r236_1171 : Rn 236 (1171, [x0, x1, some (.ref q), x3], st, a, h) = Rn 236 (1172, [x0, x1, some (.ref q), x3], .ref q :: st, a, h) := Rn_go c236_1171 rfl
theorem c236_1172 : mcode 236 1172 = some (.aload_n 0, 1, 0, 0, 0) := rfl
theorem r236_1172 : Rn 236 (1172, [some (.ref q), x1, x2, x3], st, a, h) = Rn 236 (1173, [some (.ref q), x1, x2, x3], .ref q :: st, a, h) := Rn_go c236_1172 rfl
theorem c236_1173 : mcode 236 1173 = some (.iload_n 3, 1, 0, 0, 0) := rfl
theorem r236_1173 : Rn 236 (1173, [x0, x1, x2, some (.int i)], st, a, h) = Rn 236 (1174, [x0, x1, x2, some (.int i)], .int i :: st, a, h) := Rn_go c236_1173 rfl
theorem c236_1174 : mcode 236 1174 = some (.iconst 1, 1, 0, 0, 0) := rfl
theorem r236_1174 : Rn 236 (1174, [x0, x1, x2, x3], st, a, h) = Rn 236 (1175, [x0, x1, x2, x3], .int (1 : Int32) :: st, a, h) := Rn_go c236_1174 rfl
theorem c236_1175 : mcode 236 1175 = some (.iadd, 1, 0, 0, 0) := rfl
theorem r236_1175 : Rn 236 (1175, [x0, x1, x2, x3], .int j :: .int i :: st, a, h) = Rn 236 (1176, [x0, x1, x2, x3], .int (i + j) :: st, a, h) := Rn_go c236_1175 rfl
theorem c236_1176 : mcode 236 1176 = some (.iaload, 1, 0, 0, 0) := rfl
theorem r236_1176 : Rn 236 (1176, [x0, x1, x2, x3], .int i :: .ref q :: st, a, h) = Ki 236 1177 [x0, x1, x2, x3] st a h (mld h q i false) := Rn_iald c236_1176 rfl
theorem c236_1177 : mcode 236 1177 = some (.aload_n 0, 1, 0, 0, 0) := rfl
theorem r236_1177 : Rn 236 (1177, [some (.ref q), x1, x2, x3], st, a, h) = Rn 236 (1178, [some (.ref q), x1, x2, x3], .ref q :: st, a, h) := Rn_go c236_1177 rfl
theorem c236_1178 : mcode 236 1178 = some (.iload_n 3, 1, 0, 0, 0) := rfl
theorem r236_1178 : Rn 236 (1178, [x0, x1, x2, some (.int i)], st, a, h) = Rn 236 (1179, [x0, x1, x2, some (.int i)], .int i :: st, a, h) := Rn_go c236_1178 rfl
theorem c236_1179 : mcode 236 1179 = some (.iconst 2, 1, 0, 0, 0) := rfl
theorem r236_1179 : Rn 236 (1179, [x0, x1, x2, x3], st, a, h) = Rn 236 (1180, [x0, x1, x2, x3], .int (2 : Int32) :: st, a, h) := Rn_go c236_1179 rfl
theorem c236_1180 : mcode 236 1180 = some (.iadd, 1, 0, 0, 0) := rfl
theorem r236_1180 : Rn 236 (1180, [x0, x1, x2, x3], .int j :: .int i :: st, a, h) = Rn 236 (1181, [x0, x1, x2, x3], .int (i + j) :: st, a, h) := Rn_go c236_1180 rfl
theorem c236_1181 : mcode 236 1181 = some (.iaload, 1, 0, 0, 0) := rfl
theorem r236_1181 : Rn 236 (1181, [x0, x1, x2, x3], .int i :: .ref q :: st, a, h) = Ki 236 1182 [x0, x1, x2, x3] st a h (mld h q i false) := Rn_iald c236_1181 rfl
theorem c236_1182 : mcode 236 1182 = some (.invokevirtual 141, 3, 211, 2, 6) := rfl
theorem r236_1182 : Rn 236 (1182, [x0, x1, x2, x3], [v1, v0, .ref q, .int i0], a, h) = if mis h q 6 = true then Bk 236 1185 [x0, x1, x2, x3] [.int i0] (Ec 211 [.ref q, v0, v1] a h) else none := Rn_call1 c236_1182 rfl (Nat.le_of_ble_eq_true rfl) rfl rfl (Nat.le_of_ble_eq_true rfl)
theorem c236_1185 : mcode 236 1185 = some (.if_icmp .eq 318, 3, 0, 0, 0) := rfl
theorem r236_1185 : Rn 236 (1185, [x0, x1, x2, x3], .int j :: .int i :: st, a, h) = if i = j then Rn 236 (1503, [x0, x1, x2, x3], st, a, h) else Rn 236 (1188, [x0, x1, x2, x3], st, a, h) := Rn_icmp c236_1185 mc_eq rfl rfl
theorem c236_1188 : mcode 236 1188 = some (.iconst 0, 1, 0, 0, 0) := rfl
theorem r236_1188 : Rn 236 (1188, [x0, x1, x2, x3], st, a, h) = Rn 236 (1189, [x0, x1, x2, x3], .int (0 : Int32) :: st, a, h) := Rn_go c236_1188 rfl
theorem c236_1189 : mcode 236 1189 = some (.ireturn, 1, 1, 0, 0) := rfl
theorem r236_1189 : Rn 236 (1189, [x0, x1, x2, x3], [.int i], a, h) = if mrt 1 i = true then some (some (.int i), a, h) else none := Rn_iretz c236_1189
theorem c236_1190 : mcode 236 1190 = some (.aload_n 1, 1, 0, 0, 0) := rfl
theorem r236_1190 : Rn 236 (1190, [x0, some (.ref q), x2, x3], st, a, h) = Rn 236 (1191, [x0, some (.ref q), x2, x3], .ref q :: st, a, h) := Rn_go c236_1190 rfl
theorem c236_1191 : mcode 236 1191 = some (.aload_n 0, 1, 0, 0, 0) := rfl
theorem r236_1191 : Rn 236 (1191, [some (.ref q), x1, x2, x3], st, a, h) = Rn 236 (1192, [some (.ref q), x1, x2, x3], .ref q :: st, a, h) := Rn_go c236_1191 rfl
theorem c236_1192 : mcode 236 1192 = some (.iload_n 3, 1, 0, 0, 0) := rfl
theorem r236_1192 : Rn 236 (1192, [x0, x1, x2, some (.int i)], st, a, h) = Rn 236 (1193, [x0, x1, x2, some (.int i)], .int i :: st, a, h) := Rn_go c236_1192 rfl
theorem c236_1193 : mcode 236 1193 = some (.iconst 1, 1, 0, 0, 0) := rfl
theorem r236_1193 : Rn 236 (1193, [x0, x1, x2, x3], st, a, h) = Rn 236 (1194, [x0, x1, x2, x3], .int (1 : Int32) :: st, a, h) := Rn_go c236_1193 rfl
theorem c236_1194 : mcode 236 1194 = some (.iadd, 1, 0, 0, 0) := rfl
theorem r236_1194 : Rn 236 (1194, [x0, x1, x2, x3], .int j :: .int i :: st, a, h) = Rn 236 (1195, [x0, x1, x2, x3], .int (i + j) :: st, a, h) := Rn_go c236_1194 rfl
theorem c236_1195 : mcode 236 1195 = some (.iaload, 1, 0, 0, 0) := rfl
theorem r236_1195 : Rn 236 (1195, [x0, x1, x2, x3], .int i :: .ref q :: st, a, h) = Ki 236 1196 [x0, x1, x2, x3] st a h (mld h q i false) := Rn_iald c236_1195 rfl
theorem c236_1196 : mcode 236 1196 = some (.aload_n 0, 1, 0, 0, 0) := rfl
theorem r236_1196 : Rn 236 (1196, [some (.ref q), x1, x2, x3], st, a, h) = Rn 236 (1197, [some (.ref q), x1, x2, x3], .ref q :: st, a, h) := Rn_go c236_1196 rfl
theorem c236_1197 : mcode 236 1197 = some (.iload_n 3, 1, 0, 0, 0) := rfl
theorem r236_1197 : Rn 236 (1197, [x0, x1, x2, some (.int i)], st, a, h) = Rn 236 (1198, [x0, x1, x2, some (.int i)], .int i :: st, a, h) := Rn_go c236_1197 rfl
theorem c236_1198 : mcode 236 1198 = some (.iconst 2, 1, 0, 0, 0) := rfl
theorem r236_1198 : Rn 236 (1198, [x0, x1, x2, x3], st, a, h) = Rn 236 (1199, [x0, x1, x2, x3], .int (2 : Int32) :: st, a, h) := Rn_go c236_1198 rfl
theorem c236_1199 : mcode 236 1199 = some (.iadd, 1, 0, 0, 0) := rfl
theorem r236_1199 : Rn 236 (1199, [x0, x1, x2, x3], .int j :: .int i :: st, a, h) = Rn 236 (1200, [x0, x1, x2, x3], .int (i + j) :: st, a, h) := Rn_go c236_1199 rfl
theorem c236_1200 : mcode 236 1200 = some (.iaload, 1, 0, 0, 0) := rfl
theorem r236_1200 : Rn 236 (1200, [x0, x1, x2, x3], .int i :: .ref q :: st, a, h) = Ki 236 1201 [x0, x1, x2, x3] st a h (mld h q i false) := Rn_iald c236_1200 rfl
theorem c236_1201 : mcode 236 1201 = some (.invokevirtual 142, 3, 94, 2, 5) := rfl
theorem r236_1201 : Rn 236 (1201, [x0, x1, x2, x3], [v1, v0, .ref q], a, h) = if mis h q 5 = true then Bk 236 1204 [x0, x1, x2, x3] [] (Ec 94 [.ref q, v0, v1] a h) else none := Rn_call1 c236_1201 rfl (Nat.le_of_ble_eq_true rfl) rfl rfl (Nat.le_of_ble_eq_true rfl)
theorem c236_1204 : mcode 236 1204 = some (.aload_n 2, 1, 0, 0, 0) := rfl
theorem r236_1204 : Rn 236 (1204, [x0, x1, some (.ref q), x3], st, a, h) = Rn 236 (1205, [x0, x1, some (.ref q), x3], .ref q :: st, a, h) := Rn_go c236_1204 rfl
theorem c236_1205 : mcode 236 1205 = some (.aload_n 0, 1, 0, 0, 0) := rfl
theorem r236_1205 : Rn 236 (1205, [some (.ref q), x1, x2, x3], st, a, h) = Rn 236 (1206, [some (.ref q), x1, x2, x3], .ref q :: st, a, h) := Rn_go c236_1205 rfl
theorem c236_1206 : mcode 236 1206 = some (.iload_n 3, 1, 0, 0, 0) := rfl
theorem r236_1206 : Rn 236 (1206, [x0, x1, x2, some (.int i)], st, a, h) = Rn 236 (1207, [x0, x1, x2, some (.int i)], .int i :: st, a, h) := Rn_go c236_1206 rfl
theorem c236_1207 : mcode 236 1207 = some (.iconst 1, 1, 0, 0, 0) := rfl
theorem r236_1207 : Rn 236 (1207, [x0, x1, x2, x3], st, a, h) = Rn 236 (1208, [x0, x1, x2, x3], .int (1 : Int32) :: st, a, h) := Rn_go c236_1207 rfl
theorem c236_1208 : mcode 236 1208 = some (.iadd, 1, 0, 0, 0) := rfl
theorem r236_1208 : Rn 236 (1208, [x0, x1, x2, x3], .int j :: .int i :: st, a, h) = Rn 236 (1209, [x0, x1, x2, x3], .int (i + j) :: st, a, h) := Rn_go c236_1208 rfl
theorem c236_1209 : mcode 236 1209 = some (.iaload, 1, 0, 0, 0) := rfl
theorem r236_1209 : Rn 236 (1209, [x0, x1, x2, x3], .int i :: .ref q :: st, a, h) = Ki 236 1210 [x0, x1, x2, x3] st a h (mld h q i false) := Rn_iald c236_1209 rfl
theorem c236_1210 : mcode 236 1210 = some (.aload_n 0, 1, 0, 0, 0) := rfl
theorem r236_1210 : Rn 236 (1210, [some (.ref q), x1, x2, x3], st, a, h) = Rn 236 (1211, [some (.ref q), x1, x2, x3], .ref q :: st, a, h) := Rn_go c236_1210 rfl
theorem c236_1211 : mcode 236 1211 = some (.iload_n 3, 1, 0, 0, 0) := rfl
theorem r236_1211 : Rn 236 (1211, [x0, x1, x2, some (.int i)], st, a, h) = Rn 236 (1212, [x0, x1, x2, some (.int i)], .int i :: st, a, h) := Rn_go c236_1211 rfl
theorem c236_1212 : mcode 236 1212 = some (.iconst 2, 1, 0, 0, 0) := rfl
theorem r236_1212 : Rn 236 (1212, [x0, x1, x2, x3], st, a, h) = Rn 236 (1213, [x0, x1, x2, x3], .int (2 : Int32) :: st, a, h) := Rn_go c236_1212 rfl
theorem c236_1213 : mcode 236 1213 = some (.iadd, 1, 0, 0, 0) := rfl
theorem r236_1213 : Rn 236 (1213, [x0, x1, x2, x3], .int j :: .int i :: st, a, h) = Rn 236 (1214, [x0, x1, x2, x3], .int (i + j) :: st, a, h) := Rn_go c236_1213 rfl
theorem c236_1214 : mcode 236 1214 = some (.iaload, 1, 0, 0, 0) := rfl
theorem r236_1214 : Rn 236 (1214, [x0, x1, x2, x3], .int i :: .ref q :: st, a, h) = Ki 236 1215 [x0, x1, x2, x3] st a h (mld h q i false) := Rn_iald c236_1214 rfl
theorem c236_1215 : mcode 236 1215 = some (.invokevirtual 145, 3, 213, 2, 6) := rfl
theorem r236_1215 : Rn 236 (1215, [x0, x1, x2, x3], [v1, v0, .ref q, .int i0], a, h) = if mis h q 6 = true then Bk 236 1218 [x0, x1, x2, x3] [.int i0] (Ec 213 [.ref q, v0, v1] a h) else none := Rn_call1 c236_1215 rfl (Nat.le_of_ble_eq_true rfl) rfl rfl (Nat.le_of_ble_eq_true rfl)
theorem c236_1218 : mcode 236 1218 = some (.if_icmp .eq 285, 3, 0, 0, 0) := rfl
theorem r236_1218 : Rn 236 (1218, [x0, x1, x2, x3], .int j :: .int i :: st, a, h) = if i = j then Rn 236 (1503, [x0, x1, x2, x3], st, a, h) else Rn 236 (1221, [x0, x1, x2, x3], st, a, h) := Rn_icmp c236_1218 mc_eq rfl rfl
theorem c236_1221 : mcode 236 1221 = some (.iconst 0, 1, 0, 0, 0) := rfl
theorem r236_1221 : Rn 236 (1221, [x0, x1, x2, x3], st, a, h) = Rn 236 (1222, [x0, x1, x2, x3], .int (0 : Int32) :: st, a, h) := Rn_go c236_1221 rfl
theorem c236_1222 : mcode 236 1222 = some (.ireturn, 1, 1, 0, 0) := rfl
theorem r236_1222 : Rn 236 (1222, [x0, x1, x2, x3], [.int i], a, h) = if mrt 1 i = true then some (some (.int i), a, h) else none := Rn_iretz c236_1222
theorem c236_1223 : mcode 236 1223 = some (.aload_n 1, 1, 0, 0, 0) := rfl
theorem r236_1223 : Rn 236 (1223, [x0, some (.ref q), x2, x3], st, a, h) = Rn 236 (1224, [x0, some (.ref q), x2, x3], .ref q :: st, a, h) := Rn_go c236_1223 rfl
theorem c236_1224 : mcode 236 1224 = some (.aload_n 0, 1, 0, 0, 0) := rfl
theorem r236_1224 : Rn 236 (1224, [some (.ref q), x1, x2, x3], st, a, h) = Rn 236 (1225, [some (.ref q), x1, x2, x3], .ref q :: st, a, h) := Rn_go c236_1224 rfl
theorem c236_1225 : mcode 236 1225 = some (.iload_n 3, 1, 0, 0, 0) := rfl
theorem r236_1225 : Rn 236 (1225, [x0, x1, x2, some (.int i)], st, a, h) = Rn 236 (1226, [x0, x1, x2, some (.int i)], .int i :: st, a, h) := Rn_go c236_1225 rfl
theorem c236_1226 : mcode 236 1226 = some (.iconst 1, 1, 0, 0, 0) := rfl
theorem r236_1226 : Rn 236 (1226, [x0, x1, x2, x3], st, a, h) = Rn 236 (1227, [x0, x1, x2, x3], .int (1 : Int32) :: st, a, h) := Rn_go c236_1226 rfl
theorem c236_1227 : mcode 236 1227 = some (.iadd, 1, 0, 0, 0) := rfl
theorem r236_1227 : Rn 236 (1227, [x0, x1, x2, x3], .int j :: .int i :: st, a, h) = Rn 236 (1228, [x0, x1, x2, x3], .int (i + j) :: st, a, h) := Rn_go c236_1227 rfl
theorem c236_1228 : mcode 236 1228 = some (.iaload, 1, 0, 0, 0) := rfl
theorem r236_1228 : Rn 236 (1228, [x0, x1, x2, x3], .int i :: .ref q :: st, a, h) = Ki 236 1229 [x0, x1, x2, x3] st a h (mld h q i false) := Rn_iald c236_1228 rfl
theorem c236_1229 : mcode 236 1229 = some (.aload_n 0, 1, 0, 0, 0) := rfl
theorem r236_1229 : Rn 236 (1229, [some (.ref q), x1, x2, x3], st, a, h) = Rn 236 (1230, [some (.ref q), x1, x2, x3], .ref q :: st, a, h) := Rn_go c236_1229 rfl
theorem c236_1230 : mcode 236 1230 = some (.iload_n 3, 1, 0, 0, 0) := rfl
theorem r236_1230 : Rn 236 (1230, [x0, x1, x2, some (.int i)], st, a, h) = Rn 236 (1231, [x0, x1, x2, some (.int i)], .int i :: st, a, h) := Rn_go c236_1230 rfl
theorem c236_1231 : mcode 236 1231 = some (.iconst 2, 1, 0, 0, 0) := rfl
theorem r236_1231 : Rn 236 (1231, [x0, x1, x2, x3], st, a, h) = Rn 236 (1232, [x0, x1, x2, x3], .int (2 : Int32) :: st, a, h) := Rn_go c236_1231 rfl
theorem c236_1232 : mcode 236 1232 = some (.iadd, 1, 0, 0, 0) := rfl
theorem r236_1232 : Rn 236 (1232, [x0, x1, x2, x3], .int j :: .int i :: st, a, h) = Rn 236 (1233, [x0, x1, x2, x3], .int (i + j) :: st, a, h) := Rn_go c236_1232 rfl
theorem c236_1233 : mcode 236 1233 = some (.iaload, 1, 0, 0, 0) := rfl
theorem r236_1233 : Rn 236 (1233, [x0, x1, x2, x3], .int i :: .ref q :: st, a, h) = Ki 236 1234 [x0, x1, x2, x3] st a h (mld h q i false) := Rn_iald c236_1233 rfl
theorem c236_1234 : mcode 236 1234 = some (.aload_n 0, 1, 0, 0, 0) := rfl
theorem r236_1234 : Rn 236 (1234, [some (.ref q), x1, x2, x3], st, a, h) = Rn 236 (1235, [some (.ref q), x1, x2, x3], .ref q :: st, a, h) := Rn_go c236_1234 rfl
theorem c236_1235 : mcode 236 1235 = some (.iload_n 3, 1, 0, 0, 0) := rfl
theorem r236_1235 : Rn 236 (1235, [x0, x1, x2, some (.int i)], st, a, h) = Rn 236 (1236, [x0, x1, x2, some (.int i)], .int i :: st, a, h) := Rn_go c236_1235 rfl
theorem c236_1236 : mcode 236 1236 = some (.iconst 3, 1, 0, 0, 0) := rfl
theorem r236_1236 : Rn 236 (1236, [x0, x1, x2, x3], st, a, h) = Rn 236 (1237, [x0, x1, x2, x3], .int (3 : Int32) :: st, a, h) := Rn_go c236_1236 rfl
theorem c236_1237 : mcode 236 1237 = some (.iadd, 1, 0, 0, 0) := rfl
theorem r236_1237 : Rn 236 (1237, [x0, x1, x2, x3], .int j :: .int i :: st, a, h) = Rn 236 (1238, [x0, x1, x2, x3], .int (i + j) :: st, a, h) := Rn_go c236_1237 rfl
theorem c236_1238 : mcode 236 1238 = some (.iaload, 1, 0, 0, 0) := rfl
theorem r236_1238 : Rn 236 (1238, [x0, x1, x2, x3], .int i :: .ref q :: st, a, h) = Ki 236 1239 [x0, x1, x2, x3] st a h (mld h q i false) := Rn_iald c236_1238 rfl
theorem c236_1239 : mcode 236 1239 = some (.invokevirtual 146, 3, 95, 3, 5) := rfl
theorem r236_1239 : Rn 236 (1239, [x0, x1, x2, x3], [v2, v1, v0, .ref q], a, h) = if mis h q 5 = true then Bk 236 1242 [x0, x1, x2, x3] [] (Ec 95 [.ref q, v0, v1, v2] a h) else none := Rn_call1 c236_1239 rfl (Nat.le_of_ble_eq_true rfl) rfl rfl (Nat.le_of_ble_eq_true rfl)
theorem c236_1242 : mcode 236 1242 = some (.aload_n 2, 1, 0, 0, 0) := rfl
theorem r236_1242 : Rn 236 (1242, [x0, x1, some (.ref q), x3], st, a, h) = Rn 236 (1243, [x0, x1, some (.ref q), x3], .ref q :: st, a, h) := Rn_go c236_1242 rfl
theorem c236_1243 : mcode 236 1243 = some (.aload_n 0, 1, 0, 0, 0) := rfl
theorem r236_1243 : Rn 236 (1243, [some (.ref q), x1, x2, x3], st, a, h) = Rn 236 (1244, [some (.ref q), x1, x2, x3], .ref q :: st, a, h) := Rn_go c236_1243 rfl
theorem c236_1244 : mcode 236 1244 = some (.iload_n 3, 1, 0, 0, 0) := rfl
theorem r236_1244 : Rn 236 (1244, [x0, x1, x2, some (.int i)], st, a, h) = Rn 236 (1245, [x0, x1, x2, some (.int i)], .int i :: st, a, h) := Rn_go c236_1244 rfl
theorem c236_1245 : mcode 236 1245 = some (.iconst 1, 1, 0, 0, 0) := rfl
theorem r236_1245 : Rn 236 (1245, [x0, x1, x2, x3], st, a, h) = Rn 236 (1246, [x0, x1, x2, x3], .int (1 : Int32) :: st, a, h) := Rn_go c236_1245 rfl
theorem c236_1246 : mcode 236 1246 = some (.iadd, 1, 0, 0, 0) := rfl
theorem r236_1246 : Rn 236 (1246, [x0, x1, x2, x3], .int j :: .int i :: st, a, h) = Rn 236 (1247, [x0, x1, x2, x3], .int (i + j) :: st, a, h) := Rn_go c236_1246 rfl
theorem c236_1247 : mcode 236 1247 = some (.iaload, 1, 0, 0, 0) := rfl
theorem r236_1247 : Rn 236 (1247, [x0, x1, x2, x3], .int i :: .ref q :: st, a, h) = Ki 236 1248 [x0, x1, x2, x3] st a h (mld h q i false) := Rn_iald c236_1247 rfl
theorem c236_1248 : mcode 236 1248 = some (.aload_n 0, 1, 0, 0, 0) := rfl
theorem r236_1248 : Rn 236 (1248, [some (.ref q), x1, x2, x3], st, a, h) = Rn 236 (1249, [some (.ref q), x1, x2, x3], .ref q :: st, a, h) := Rn_go c236_1248 rfl
theorem c236_1249 : mcode 236 1249 = some (.iload_n 3, 1, 0, 0, 0) := rfl
theorem r236_1249 : Rn 236 (1249, [x0, x1, x2, some (.int i)], st, a, h) = Rn 236 (1250, [x0, x1, x2, some (.int i)], .int i :: st, a, h) := Rn_go c236_1249 rfl
theorem c236_1250 : mcode 236 1250 = some (.iconst 2, 1, 0, 0, 0) := rfl
theorem r236_1250 : Rn 236 (1250, [x0, x1, x2, x3], st, a, h) = Rn 236 (1251, [x0, x1, x2, x3], .int (2 : Int32) :: st, a, h) := Rn_go c236_1250 rfl
theorem c236_1251 : mcode 236 1251 = some (.iadd, 1, 0, 0, 0) := rfl
theorem r236_1251 : Rn 236 (1251, [x0, x1, x2, x3], .int j :: .int i :: st, a, h) = Rn 236 (1252, [x0, x1, x2, x3], .int (i + j) :: st, a, h) := Rn_go c236_1251 rfl
theorem c236_1252 : mcode 236 1252 = some (.iaload, 1, 0, 0, 0) := rfl
theorem r236_1252 : Rn 236 (1252, [x0, x1, x2, x3], .int i :: .ref q :: st, a, h) = Ki 236 1253 [x0, x1, x2, x3] st a h (mld h q i false) := Rn_iald c236_1252 rfl
theorem c236_1253 : mcode 236 1253 = some (.aload_n 0, 1, 0, 0, 0) := rfl
theorem r236_1253 : Rn 236 (1253, [some (.ref q), x1, x2, x3], st, a, h) = Rn 236 (1254, [some (.ref q), x1, x2, x3], .ref q :: st, a, h) := Rn_go c236_1253 rfl
theorem c236_1254 : mcode 236 1254 = some (.iload_n 3, 1, 0, 0, 0) := rfl
theorem r236_1254 : Rn 236 (1254, [x0, x1, x2, some (.int i)], st, a, h) = Rn 236 (1255, [x0, x1, x2, some (.int i)], .int i :: st, a, h) := Rn_go c236_1254 rfl
theorem c236_1255 : mcode 236 1255 = some (.iconst 3, 1, 0, 0, 0) := rfl
theorem r236_1255 : Rn 236 (1255, [x0, x1, x2, x3], st, a, h) = Rn 236 (1256, [x0, x1, x2, x3], .int (3 : Int32) :: st, a, h) := Rn_go c236_1255 rfl
theorem c236_1256 : mcode 236 1256 = some (.iadd, 1, 0, 0, 0) := rfl
theorem r236_1256 : Rn 236 (1256, [x0, x1, x2, x3], .int j :: .int i :: st, a, h) = Rn 236 (1257, [x0, x1, x2, x3], .int (i + j) :: st, a, h) := Rn_go c236_1256 rfl
theorem c236_1257 : mcode 236 1257 = some (.iaload, 1, 0, 0, 0) := rfl
theorem r236_1257 : Rn 236 (1257, [x0, x1, x2, x3], .int i :: .ref q :: st, a, h) = Ki 236 1258 [x0, x1, x2, x3] st a h (mld h q i false) := Rn_iald c236_1257 rfl
theorem c236_1258 : mcode 236 1258 = some (.invokevirtual 149, 3, 215, 3, 6) := rfl
theorem r236_1258 : Rn 236 (1258, [x0, x1, x2, x3], [v2, v1, v0, .ref q, .int i0], a, h) = if mis h q 6 = true then Bk 236 1261 [x0, x1, x2, x3] [.int i0] (Ec 215 [.ref q, v0, v1, v2] a h) else none := Rn_call1 c236_1258 rfl (Nat.le_of_ble_eq_true rfl) rfl rfl (Nat.le_of_ble_eq_true rfl)
theorem c236_1261 : mcode 236 1261 = some (.if_icmp .eq 242, 3, 0, 0, 0) := rfl
theorem r236_1261 : Rn 236 (1261, [x0, x1, x2, x3], .int j :: .int i :: st, a, h) = if i = j then Rn 236 (1503, [x0, x1, x2, x3], st, a, h) else Rn 236 (1264, [x0, x1, x2, x3], st, a, h) := Rn_icmp c236_1261 mc_eq rfl rfl
theorem c236_1264 : mcode 236 1264 = some (.iconst 0, 1, 0, 0, 0) := rfl
theorem r236_1264 : Rn 236 (1264, [x0, x1, x2, x3], st, a, h) = Rn 236 (1265, [x0, x1, x2, x3], .int (0 : Int32) :: st, a, h) := Rn_go c236_1264 rfl
theorem c236_1265 : mcode 236 1265 = some (.ireturn, 1, 1, 0, 0) := rfl
theorem r236_1265 : Rn 236 (1265, [x0, x1, x2, x3], [.int i], a, h) = if mrt 1 i = true then some (some (.int i), a, h) else none := Rn_iretz c236_1265
theorem c236_1266 : mcode 236 1266 = some (.aload_n 1, 1, 0, 0, 0) := rfl
theorem r236_1266 : Rn 236 (1266, [x0, some (.ref q), x2, x3], st, a, h) = Rn 236 (1267, [x0, some (.ref q), x2, x3], .ref q :: st, a, h) := Rn_go c236_1266 rfl
theorem c236_1267 : mcode 236 1267 = some (.aload_n 0, 1, 0, 0, 0) := rfl
theorem r236_1267 : Rn 236 (1267, [some (.ref q), x1, x2, x3], st, a, h) = Rn 236 (1268, [some (.ref q), x1, x2, x3], .ref q :: st, a, h) := Rn_go c236_1267 rfl
theorem c236_1268 : mcode 236 1268 = some (.iload_n 3, 1, 0, 0, 0) := rfl
theorem r236_1268 : Rn 236 (1268, [x0, x1, x2, some (.int i)], st, a, h) = Rn 236 (1269, [x0, x1, x2, some (.int i)], .int i :: st, a, h) := Rn_go c236_1268 rfl
theorem c236_1269 : mcode 236 1269 = some (.iconst 1, 1, 0, 0, 0) := rfl
theorem r236_1269 : Rn 236 (1269, [x0, x1, x2, x3], st, a, h) = Rn 236 (1270, [x0, x1, x2, x3], .int (1 : Int32) :: st, a, h) := Rn_go c236_1269 rfl
theorem c236_1270 : mcode 236 1270 = some (.iadd, 1, 0, 0, 0) := rfl
theorem r236_1270 : Rn 236 (1270, [x0, x1, x2, x3], .int j :: .int i :: st, a, h) = Rn 236 (1271, [x0, x1, x2, x3], .int (i + j) :: st, a, h) := Rn_go c236_1270 rfl
theorem c236_1271 : mcode 236 1271 = some (.iaload, 1, 0, 0, 0) := rfl
theorem r236_1271 : Rn 236 (1271, [x0, x1, x2, x3], .int i :: .ref q :: st, a, h) = Ki 236 1272 [x0, x1, x2, x3] st a h (mld h q i false) := Rn_iald c236_1271 rfl
theorem c236_1272 : mcode 236 1272 = some (.aload_n 0, 1, 0, 0, 0) := rfl
theorem r236_1272 : Rn 236 (1272, [some (.ref q), x1, x2, x3], st, a, h) = Rn 236 (1273, [some (.ref q), x1, x2, x3], .ref q :: st, a, h) := Rn_go c236_1272 rfl
theorem c236_1273 : mcode 236 1273 = some (.iload_n 3, 1, 0, 0, 0) := rfl
theorem r236_1273 : Rn 236 (1273, [x0, x1, x2, some (.int i)], st, a, h) = Rn 236 (1274, [x0, x1, x2, some (.int i)], .int i :: st, a, h) := Rn_go c236_1273 rfl
theorem c236_1274 : mcode 236 1274 = some (.iconst 2, 1, 0, 0, 0) := rfl
theorem r236_1274 : Rn 236 (1274, [x0, x1, x2, x3], st, a, h) = Rn 236 (1275, [x0, x1, x2, x3], .int (2 : Int32) :: st, a, h) := Rn_go c236_1274 rfl
theorem c236_1275 : mcode 236 1275 = some (.iadd, 1, 0, 0, 0) := rfl
theorem r236_1275 : Rn 236 (1275, [x0, x1, x2, x3], .int j :: .int i :: st, a, h) = Rn 236 (1276, [x0, x1, x2, x3], .int (i + j) :: st, a, h) := Rn_go c236_1275 rfl
theorem c236_1276 : mcode 236 1276 = some (.iaload, 1, 0, 0, 0) := rfl
theorem r236_1276 : Rn 236 (1276, [x0, x1, x2, x3], .int i :: .ref q :: st, a, h) = Ki 236 1277 [x0, x1, x2, x3] st a h (mld h q i false) := Rn_iald c236_1276 rfl
theorem c236_1277 : mcode 236 1277 = some (.aload_n 0, 1, 0, 0, 0) := rfl
theorem r236_1277 : Rn 236 (1277, [some (.ref q), x1, x2, x3], st, a, h) = Rn 236 (1278, [some (.ref q), x1, x2, x3], .ref q :: st, a, h) := Rn_go c236_1277 rfl
theorem c236_1278 : mcode 236 1278 = some (.iload_n 3, 1, 0, 0, 0) := rfl
theorem r236_1278 : Rn 236 (1278, [x0, x1, x2, some (.int i)], st, a, h) = Rn 236 (1279, [x0, x1, x2, some (.int i)], .int i :: st, a, h) := Rn_go c236_1278 rfl
theorem c236_1279 : mcode 236 1279 = some (.iconst 3, 1, 0, 0, 0) := rfl
theorem r236_1279 : Rn 236 (1279, [x0, x1, x2, x3], st, a, h) = Rn 236 (1280, [x0, x1, x2, x3], .int (3 : Int32) :: st, a, h) := Rn_go c236_1279 rfl
theorem c236_1280 : mcode 236 1280 = some (.iadd, 1, 0, 0, 0) := rfl
theorem r236_1280 : Rn 236 (1280, [x0, x1, x2, x3], .int j :: .int i :: st, a, h) = Rn 236 (1281, [x0, x1, x2, x3], .int (i + j) :: st, a, h) := Rn_go c236_1280 rfl
theorem c236_1281 : mcode 236 1281 = some (.iaload, 1, 0, 0, 0) := rfl
theorem r236_1281 : Rn 236 (1281, [x0, x1, x2, x3], .int i :: .ref q :: st, a, h) = Ki 236 1282 [x0, x1, x2, x3] st a h (mld h q i false) := Rn_iald c236_1281 rfl
theorem c236_1282 : mcode 236 1282 = some (.invokevirtual 150, 3, 96, 3, 5) := rfl
theorem r236_1282 : Rn 236 (1282, [x0, x1, x2, x3], [v2, v1, v0, .ref q], a, h) = if mis h q 5 = true then Bk 236 1285 [x0, x1, x2, x3] [] (Ec 96 [.ref q, v0, v1, v2] a h) else none := Rn_call1 c236_1282 rfl (Nat.le_of_ble_eq_true rfl) rfl rfl (Nat.le_of_ble_eq_true rfl)
theorem c236_1285 : mcode 236 1285 = some (.aload_n 2, 1, 0, 0, 0) := rfl
theorem r236_1285 : Rn 236 (1285, [x0, x1, some (.ref q), x3], st, a, h) = Rn 236 (1286, [x0, x1, some (.ref q), x3], .ref q :: st, a, h) := Rn_go c236_1285 rfl
theorem c236_1286 : mcode 236 1286 = some (.aload_n 0, 1, 0, 0, 0) := rfl
theorem r236_1286 : Rn 236 (1286, [some (.ref q), x1, x2, x3], st, a, h) = Rn 236 (1287, [some (.ref q), x1, x2, x3], .ref q :: st, a, h) := Rn_go c236_1286 rfl
theorem c236_1287 : mcode 236 1287 = some (.iload_n 3, 1, 0, 0, 0) := rfl
theorem r236_1287 : Rn 236 (1287, [x0, x1, x2, some (.int i)], st, a, h) = Rn 236 (1288, [x0, x1, x2, some (.int i)], .int i :: st, a, h) := Rn_go c236_1287 rfl
theorem c236_1288 : mcode 236 1288 = some (.iconst 1, 1, 0, 0, 0) := rfl
theorem r236_1288 : Rn 236 (1288, [x0, x1, x2, x3], st, a, h) = Rn 236 (1289, [x0, x1, x2, x3], .int (1 : Int32) :: st, a, h) := Rn_go c236_1288 rfl
theorem c236_1289 : mcode 236 1289 = some (.iadd, 1, 0, 0, 0) := rfl
theorem r236_1289 : Rn 236 (1289, [x0, x1, x2, x3], .int j :: .int i :: st, a, h) = Rn 236 (1290, [x0, x1, x2, x3], .int (i + j) :: st, a, h) := Rn_go c236_1289 rfl
theorem c236_1290 : mcode 236 1290 = some (.iaload, 1, 0, 0, 0) := rfl
theorem r236_1290 : Rn 236 (1290, [x0, x1, x2, x3], .int i :: .ref q :: st, a, h) = Ki 236 1291 [x0, x1, x2, x3] st a h (mld h q i false) := Rn_iald c236_1290 rfl
theorem c236_1291 : mcode 236 1291 = some (.aload_n 0, 1, 0, 0, 0) := rfl
theorem r236_1291 : Rn 236 (1291, [some (.ref q), x1, x2, x3], st, a, h) = Rn 236 (1292, [some (.ref q), x1, x2, x3], .ref q :: st, a, h) := Rn_go c236_1291 rfl
theorem c236_1292 : mcode 236 1292 = some (.iload_n 3, 1, 0, 0, 0) := rfl
theorem r236_1292 : Rn 236 (1292, [x0, x1, x2, some (.int i)], st, a, h) = Rn 236 (1293, [x0, x1, x2, some (.int i)], .int i :: st, a, h) := Rn_go c236_1292 rfl
theorem c236_1293 : mcode 236 1293 = some (.iconst 2, 1, 0, 0, 0) := rfl
theorem r236_1293 : Rn 236 (1293, [x0, x1, x2, x3], st, a, h) = Rn 236 (1294, [x0, x1, x2, x3], .int (2 : Int32) :: st, a, h) := Rn_go c236_1293 rfl
theorem c236_1294 : mcode 236 1294 = some (.iadd, 1, 0, 0, 0) := rfl
theorem r236_1294 : Rn 236 (1294, [x0, x1, x2, x3], .int j :: .int i :: st, a, h) = Rn 236 (1295, [x0, x1, x2, x3], .int (i + j) :: st, a, h) := Rn_go c236_1294 rfl
theorem c236_1295 : mcode 236 1295 = some (.iaload, 1, 0, 0, 0) := rfl
theorem r236_1295 : Rn 236 (1295, [x0, x1, x2, x3], .int i :: .ref q :: st, a, h) = Ki 236 1296 [x0, x1, x2, x3] st a h (mld h q i false) := Rn_iald c236_1295 rfl
theorem c236_1296 : mcode 236 1296 = some (.aload_n 0, 1, 0, 0, 0) := rfl
theorem r236_1296 : Rn 236 (1296, [some (.ref q), x1, x2, x3], st, a, h) = Rn 236 (1297, [some (.ref q), x1, x2, x3], .ref q :: st, a, h) := Rn_go c236_1296 rfl
theorem c236_1297 : mcode 236 1297 = some (.iload_n 3, 1, 0, 0, 0) := rfl
theorem r236_1297 : Rn 236 (1297, [x0, x1, x2, some (.int i)], st, a, h) = Rn 236 (1298, [x0, x1, x2, some (.int i)], .int i :: st, a, h) := Rn_go c236_1297 rfl
theorem c236_1298 : mcode 236 1298 = some (.iconst 3, 1, 0, 0, 0) := rfl
theorem r236_1298 : Rn 236 (1298, [x0, x1, x2, x3], st, a, h) = Rn 236 (1299, [x0, x1, x2, x3], .int (3 : Int32) :: st, a, h) := Rn_go c236_1298 rfl
theorem c236_1299 : mcode 236 1299 = some (.iadd, 1, 0, 0, 0) := rfl
theorem r236_1299 : Rn 236 (1299, [x0, x1, x2, x3], .int j :: .int i :: st, a, h) = Rn 236 (1300, [x0, x1, x2, x3], .int (i + j) :: st, a, h) := Rn_go c236_1299 rfl
theorem c236_1300 : mcode 236 1300 = some (.iaload, 1, 0, 0, 0) := rfl
theorem r236_1300 : Rn 236 (1300, [x0, x1, x2, x3], .int i :: .ref q :: st, a, h) = Ki 236 1301 [x0, x1, x2, x3] st a h (mld h q i false) := Rn_iald c236_1300 rfl
theorem c236_1301 : mcode 236 1301 = some (.invokevirtual 153, 3, 216, 3, 6) := rfl
theorem r236_1301 : Rn 236 (1301, [x0, x1, x2, x3], [v2, v1, v0, .ref q, .int i0], a, h) = if mis h q 6 = true then Bk 236 1304 [x0, x1, x2, x3] [.int i0] (Ec 216 [.ref q, v0, v1, v2] a h) else none := Rn_call1 c236_1301 rfl (Nat.le_of_ble_eq_true rfl) rfl rfl (Nat.le_of_ble_eq_true rfl)
theorem c236_1304 : mcode 236 1304 = some (.if_icmp .eq 199, 3, 0, 0, 0) := rfl
theorem r236_1304 : Rn 236 (1304, [x0, x1, x2, x3], .int j :: .int i :: st, a, h) = if i = j then Rn 236 (1503, [x0, x1, x2, x3], st, a, h) else Rn 236 (1307, [x0, x1, x2, x3], st, a, h) := Rn_icmp c236_1304 mc_eq rfl rfl
theorem c236_1307 : mcode 236 1307 = some (.iconst 0, 1, 0, 0, 0) := rfl
theorem r236_1307 : Rn 236 (1307, [x0, x1, x2, x3], st, a, h) = Rn 236 (1308, [x0, x1, x2, x3], .int (0 : Int32) :: st, a, h) := Rn_go c236_1307 rfl
theorem c236_1308 : mcode 236 1308 = some (.ireturn, 1, 1, 0, 0) := rfl
theorem r236_1308 : Rn 236 (1308, [x0, x1, x2, x3], [.int i], a, h) = if mrt 1 i = true then some (some (.int i), a, h) else none := Rn_iretz c236_1308
theorem c236_1309 : mcode 236 1309 = some (.aload_n 1, 1, 0, 0, 0) := rfl
theorem r236_1309 : Rn 236 (1309, [x0, some (.ref q), x2, x3], st, a, h) = Rn 236 (1310, [x0, some (.ref q), x2, x3], .ref q :: st, a, h) := Rn_go c236_1309 rfl
theorem c236_1310 : mcode 236 1310 = some (.aload_n 0, 1, 0, 0, 0) := rfl
theorem r236_1310 : Rn 236 (1310, [some (.ref q), x1, x2, x3], st, a, h) = Rn 236 (1311, [some (.ref q), x1, x2, x3], .ref q :: st, a, h) := Rn_go c236_1310 rfl
theorem c236_1311 : mcode 236 1311 = some (.iload_n 3, 1, 0, 0, 0) := rfl
theorem r236_1311 : Rn 236 (1311, [x0, x1, x2, some (.int i)], st, a, h) = Rn 236 (1312, [x0, x1, x2, some (.int i)], .int i :: st, a, h) := Rn_go c236_1311 rfl
theorem c236_1312 : mcode 236 1312 = some (.iconst 1, 1, 0, 0, 0) := rfl
theorem r236_1312 : Rn 236 (1312, [x0, x1, x2, x3], st, a, h) = Rn 236 (1313, [x0, x1, x2, x3], .int (1 : Int32) :: st, a, h) := Rn_go c236_1312 rfl
theorem c236_1313 : mcode 236 1313 = some (.iadd, 1, 0, 0, 0) := rfl
theorem r236_1313 : Rn 236 (1313, [x0, x1, x2, x3], .int j :: .int i :: st, a, h) = Rn 236 (1314, [x0, x1, x2, x3], .int (i + j) :: st, a, h) := Rn_go c236_1313 rfl
theorem c236_1314 : mcode 236 1314 = some (.iaload, 1, 0, 0, 0) := rfl
theorem r236_1314 : Rn 236 (1314, [x0, x1, x2, x3], .int i :: .ref q :: st, a, h) = Ki 236 1315 [x0, x1, x2, x3] st a h (mld h q i false) := Rn_iald c236_1314 rfl
theorem c236_1315 : mcode 236 1315 = some (.aload_n 0, 1, 0, 0, 0) := rfl
theorem r236_1315 : Rn 236 (1315, [some (.ref q), x1, x2, x3], st, a, h) = Rn 236 (1316, [some (.ref q), x1, x2, x3], .ref q :: st, a, h) := Rn_go c236_1315 rfl
theorem c236_1316 : mcode 236 1316 = some (.iload_n 3, 1, 0, 0, 0) := rfl
theorem r236_1316 : Rn 236 (1316, [x0, x1, x2, some (.int i)], st, a, h) = Rn 236 (1317, [x0, x1, x2, some (.int i)], .int i :: st, a, h) := Rn_go c236_1316 rfl
theorem c236_1317 : mcode 236 1317 = some (.iconst 2, 1, 0, 0, 0) := rfl
theorem r236_1317 : Rn 236 (1317, [x0, x1, x2, x3], st, a, h) = Rn 236 (1318, [x0, x1, x2, x3], .int (2 : Int32) :: st, a, h) := Rn_go c236_1317 rfl
theorem c236_1318 : mcode 236 1318 = some (.iadd, 1, 0, 0, 0) := rfl
theorem r236_1318 : Rn 236 (1318, [x0, x1, x2, x3], .int j :: .int i :: st, a, h) = Rn 236 (1319, [x0, x1, x2, x3], .int (i + j) :: st, a, h) := Rn_go c236_1318 rfl
theorem c236_1319 : mcode 236 1319 = some (.iaload, 1, 0, 0, 0) := rfl
theorem r236_1319 : Rn 236 (1319, [x0, x1, x2, x3], .int i :: .ref q :: st, a, h) = Ki 236 1320 [x0, x1, x2, x3] st a h (mld h q i false) := Rn_iald c236_1319 rfl
theorem c236_1320 : mcode 236 1320 = some (.aload_n 0, 1, 0, 0, 0) := rfl
theorem r236_1320 : Rn 236 (1320, [some (.ref q), x1, x2, x3], st, a, h) = Rn 236 (1321, [some (.ref q), x1, x2, x3], .ref q :: st, a, h) := Rn_go c236_1320 rfl
theorem c236_1321 : mcode 236 1321 = some (.iload_n 3, 1, 0, 0, 0) := rfl
theorem r236_1321 : Rn 236 (1321, [x0, x1, x2, some (.int i)], st, a, h) = Rn 236 (1322, [x0, x1, x2, some (.int i)], .int i :: st, a, h) := Rn_go c236_1321 rfl
theorem c236_1322 : mcode 236 1322 = some (.iconst 3, 1, 0, 0, 0) := rfl
theorem r236_1322 : Rn 236 (1322, [x0, x1, x2, x3], st, a, h) = Rn 236 (1323, [x0, x1, x2, x3], .int (3 : Int32) :: st, a, h) := Rn_go c236_1322 rfl
theorem c236_1323 : mcode 236 1323 = some (.iadd, 1, 0, 0, 0) := rfl
theorem r236_1323 : Rn 236 (1323, [x0, x1, x2, x3], .int j :: .int i :: st, a, h) = Rn 236 (1324, [x0, x1, x2, x3], .int (i + j) :: st, a, h) := Rn_go c236_1323 rfl
theorem c236_1324 : mcode 236 1324 = some (.iaload, 1, 0, 0, 0) := rfl
theorem r236_1324 : Rn 236 (1324, [x0, x1, x2, x3], .int i :: .ref q :: st, a, h) = Ki 236 1325 [x0, x1, x2, x3] st a h (mld h q i false) := Rn_iald c236_1324 rfl
theorem c236_1325 : mcode 236 1325 = some (.aload_n 0, 1, 0, 0, 0) := rfl
theorem r236_1325 : Rn 236 (1325, [some (.ref q), x1, x2, x3], st, a, h) = Rn 236 (1326, [some (.ref q), x1, x2, x3], .ref q :: st, a, h) := Rn_go c236_1325 rfl
theorem c236_1326 : mcode 236 1326 = some (.iload_n 3, 1, 0, 0, 0) := rfl
theorem r236_1326 : Rn 236 (1326, [x0, x1, x2, some (.int i)], st, a, h) = Rn 236 (1327, [x0, x1, x2, some (.int i)], .int i :: st, a, h) := Rn_go c236_1326 rfl
theorem c236_1327 : mcode 236 1327 = some (.iconst 4, 1, 0, 0, 0) := rfl
theorem r236_1327 : Rn 236 (1327, [x0, x1, x2, x3], st, a, h) = Rn 236 (1328, [x0, x1, x2, x3], .int (4 : Int32) :: st, a, h) := Rn_go c236_1327 rfl
theorem c236_1328 : mcode 236 1328 = some (.iadd, 1, 0, 0, 0) := rfl
theorem r236_1328 : Rn 236 (1328, [x0, x1, x2, x3], .int j :: .int i :: st, a, h) = Rn 236 (1329, [x0, x1, x2, x3], .int (i + j) :: st, a, h) := Rn_go c236_1328 rfl
theorem c236_1329 : mcode 236 1329 = some (.iaload, 1, 0, 0, 0) := rfl
theorem r236_1329 : Rn 236 (1329, [x0, x1, x2, x3], .int i :: .ref q :: st, a, h) = Ki 236 1330 [x0, x1, x2, x3] st a h (mld h q i false) := Rn_iald c236_1329 rfl
theorem c236_1330 : mcode 236 1330 = some (.aload_n 0, 1, 0, 0, 0) := rfl
theorem r236_1330 : Rn 236 (1330, [some (.ref q), x1, x2, x3], st, a, h) = Rn 236 (1331, [some (.ref q), x1, x2, x3], .ref q :: st, a, h) := Rn_go c236_1330 rfl
theorem c236_1331 : mcode 236 1331 = some (.iload_n 3, 1, 0, 0, 0) := rfl
theorem r236_1331 : Rn 236 (1331, [x0, x1, x2, some (.int i)], st, a, h) = Rn 236 (1332, [x0, x1, x2, some (.int i)], .int i :: st, a, h) := Rn_go c236_1331 rfl
theorem c236_1332 : mcode 236 1332 = some (.iconst 5, 1, 0, 0, 0) := rfl
theorem r236_1332 : Rn 236 (1332, [x0, x1, x2, x3], st, a, h) = Rn 236 (1333, [x0, x1, x2, x3], .int (5 : Int32) :: st, a, h) := Rn_go c236_1332 rfl
theorem c236_1333 : mcode 236 1333 = some (.iadd, 1, 0, 0, 0) := rfl
theorem r236_1333 : Rn 236 (1333, [x0, x1, x2, x3], .int j :: .int i :: st, a, h) = Rn 236 (1334, [x0, x1, x2, x3], .int (i + j) :: st, a, h) := Rn_go c236_1333 rfl
theorem c236_1334 : mcode 236 1334 = some (.iaload, 1, 0, 0, 0) := rfl
theorem r236_1334 : Rn 236 (1334, [x0, x1, x2, x3], .int i :: .ref q :: st, a, h) = Ki 236 1335 [x0, x1, x2, x3] st a h (mld h q i false) := Rn_iald c236_1334 rfl
theorem c236_1335 : mcode 236 1335 = some (.invokevirtual 154, 3, 97, 5, 5) := rfl
theorem r236_1335 : Rn 236 (1335, [x0, x1, x2, x3], [v4, v3, v2, v1, v0, .ref q], a, h) = if mis h q 5 = true then Bk 236 1338 [x0, x1, x2, x3] [] (Ec 97 [.ref q, v0, v1, v2, v3, v4] a h) else none := Rn_call1 c236_1335 rfl (Nat.le_of_ble_eq_true rfl) rfl rfl (Nat.le_of_ble_eq_true rfl)
theorem c236_1338 : mcode 236 1338 = some (.aload_n 2, 1, 0, 0, 0) := rfl
theorem r236_1338 : Rn 236 (1338, [x0, x1, some (.ref q), x3], st, a, h) = Rn 236 (1339, [x0, x1, some (.ref q), x3], .ref q :: st, a, h) := Rn_go c236_1338 rfl
theorem c236_1339 : mcode 236 1339 = some (.aload_n 0, 1, 0, 0, 0) := rfl
theorem r236_1339 : Rn 236 (1339, [some (.ref q), x1, x2, x3], st, a, h) = Rn 236 (1340, [some (.ref q), x1, x2, x3], .ref q :: st, a, h) := Rn_go c236_1339 rfl
theorem c236_1340 : mcode 236 1340 = some (.iload_n 3, 1, 0, 0, 0) := rfl
theorem r236_1340 : Rn 236 (1340, [x0, x1, x2, some (.int i)], st, a, h) = Rn 236 (1341, [x0, x1, x2, some (.int i)], .int i :: st, a, h) := Rn_go c236_1340 rfl
theorem c236_1341 : mcode 236 1341 = some (.iconst 1, 1, 0, 0, 0) := rfl
theorem r236_1341 : Rn 236 (1341, [x0, x1, x2, x3], st, a, h) = Rn 236 (1342, [x0, x1, x2, x3], .int (1 : Int32) :: st, a, h) := Rn_go c236_1341 rfl
theorem c236_1342 : mcode 236 1342 = some (.iadd, 1, 0, 0, 0) := rfl
theorem r236_1342 : Rn 236 (1342, [x0, x1, x2, x3], .int j :: .int i :: st, a, h) = Rn 236 (1343, [x0, x1, x2, x3], .int (i + j) :: st, a, h) := Rn_go c236_1342 rfl
theorem c236_1343 : mcode 236 1343 = some (.iaload, 1, 0, 0, 0) := rfl
theorem r236_1343 : Rn 236 (1343, [x0, x1, x2, x3], .int i :: .ref q :: st, a, h) = Ki 236 1344 [x0, x1, x2, x3] st a h (mld h q i false) := Rn_iald c236_1343 rfl
theorem c236_1344 : mcode 236 1344 = some (.aload_n 0, 1, 0, 0, 0) := rfl
theorem r236_1344 : Rn 236 (1344, [some (.ref q), x1, x2, x3], st, a, h) = Rn 236 (1345, [some (.ref q), x1, x2, x3], .ref q :: st, a, h) := Rn_go c236_1344 rfl
theorem c236_1345 : mcode 236 1345 = some (.iload_n 3, 1, 0, 0, 0) := rfl
theorem r236_1345 : Rn 236 (1345, [x0, x1, x2, some (.int i)], st, a, h) = Rn 236 (1346, [x0, x1, x2, some (.int i)], .int i :: st, a, h) := Rn_go c236_1345 rfl
theorem c236_1346 : mcode 236 1346 = some (.iconst 2, 1, 0, 0, 0) := rfl
theorem r236_1346 : Rn 236 (1346, [x0, x1, x2, x3], st, a, h) = Rn 236 (1347, [x0, x1, x2, x3], .int (2 : Int32) :: st, a, h) := Rn_go c236_1346 rfl
theorem c236_1347 : mcode 236 1347 = some (.iadd, 1, 0, 0, 0) := rfl
theorem r236_1347 : Rn 236 (1347, [x0, x1, x2, x3], .int j :: .int i :: st, a, h) = Rn 236 (1348, [x0, x1, x2, x3], .int (i + j) :: st, a, h) := Rn_go c236_1347 rfl
theorem c236_1348 : mcode 236 1348 = some (.iaload, 1, 0, 0, 0) := rfl
theorem r236_1348 : Rn 236 (1348, [x0, x1, x2, x3], .int i :: .ref q :: st, a, h) = Ki 236 1349 [x0, x1, x2, x3] st a h (mld h q i false) := Rn_iald c236_1348 rfl
theorem c236_1349 : mcode 236 1349 = some (.aload_n 0, 1, 0, 0, 0) := rfl
theorem r236_1349 : Rn 236 (1349, [some (.ref q), x1, x2, x3], st, a, h) = Rn 236 (1350, [some (.ref q), x1, x2, x3], .ref q :: st, a, h) := Rn_go c236_1349 rfl
theorem c236_1350 : mcode 236 1350 = some (.iload_n 3, 1, 0, 0, 0) := rfl
theorem r236_1350 : Rn 236 (1350, [x0, x1, x2, some (.int i)], st, a, h) = Rn 236 (1351, [x0, x1, x2, some (.int i)], .int i :: st, a, h) := Rn_go c236_1350 rfl
theorem c236_1351 : mcode 236 1351 = some (.iconst 3, 1, 0, 0, 0) := rfl
theorem r236_1351 : Rn 236 (1351, [x0, x1, x2, x3], st, a, h) = Rn 236 (1352, [x0, x1, x2, x3], .int (3 : Int32) :: st, a, h) := Rn_go c236_1351 rfl
theorem c236_1352 : mcode 236 1352 = some (.iadd, 1, 0, 0, 0) := rfl
theorem r236_1352 : Rn 236 (1352, [x0, x1, x2, x3], .int j :: .int i :: st, a, h) = Rn 236 (1353, [x0, x1, x2, x3], .int (i + j) :: st, a, h) := Rn_go c236_1352 rfl
theorem c236_1353 : mcode 236 1353 = some (.iaload, 1, 0, 0, 0) := rfl
theorem r236_1353 : Rn 236 (1353, [x0, x1, x2, x3], .int i :: .ref q :: st, a, h) = Ki 236 1354 [x0, x1, x2, x3] st a h (mld h q i false) := Rn_iald c236_1353 rfl
theorem c236_1354 : mcode 236 1354 = some (.aload_n 0, 1, 0, 0, 0) := rfl
theorem r236_1354 : Rn 236 (1354, [some (.ref q), x1, x2, x3], st, a, h) = Rn 236 (1355, [some (.ref q), x1, x2, x3], .ref q :: st, a, h) := Rn_go c236_1354 rfl
theorem c236_1355 : mcode 236 1355 = some (.iload_n 3, 1, 0, 0, 0) := rfl
theorem r236_1355 : Rn 236 (1355, [x0, x1, x2, some (.int i)], st, a, h) = Rn 236 (1356, [x0, x1, x2, some (.int i)], .int i :: st, a, h) := Rn_go c236_1355 rfl
theorem c236_1356 : mcode 236 1356 = some (.iconst 4, 1, 0, 0, 0) := rfl
theorem r236_1356 : Rn 236 (1356, [x0, x1, x2, x3], st, a, h) = Rn 236 (1357, [x0, x1, x2, x3], .int (4 : Int32) :: st, a, h) := Rn_go c236_1356 rfl
theorem c236_1357 : mcode 236 1357 = some (.iadd, 1, 0, 0, 0) := rfl
theorem r236_1357 : Rn 236 (1357, [x0, x1, x2, x3], .int j :: .int i :: st, a, h) = Rn 236 (1358, [x0, x1, x2, x3], .int (i + j) :: st, a, h) := Rn_go c236_1357 rfl
theorem c236_1358 : mcode 236 1358 = some (.iaload, 1, 0, 0, 0) := rfl
theorem r236_1358 : Rn 236 (1358, [x0, x1, x2, x3], .int i :: .ref q :: st, a, h) = Ki 236 1359 [x0, x1, x2, x3] st a h (mld h q i false) := Rn_iald c236_1358 rfl
theorem c236_1359 : mcode 236 1359 = some (.aload_n 0, 1, 0, 0, 0) := rfl
theorem r236_1359 : Rn 236 (1359, [some (.ref q), x1, x2, x3], st, a, h) = Rn 236 (1360, [some (.ref q), x1, x2, x3], .ref q :: st, a, h) := Rn_go c236_1359 rfl
theorem c236_1360 : mcode 236 1360 = some (.iload_n 3, 1, 0, 0, 0) := rfl
theorem r236_1360 : Rn 236 (1360, [x0, x1, x2, some (.int i)], st, a, h) = Rn 236 (1361, [x0, x1, x2, some (.int i)], .int i :: st, a, h) := Rn_go c236_1360 rfl
theorem c236_1361 : mcode 236 1361 = some (.iconst 5, 1, 0, 0, 0) := rfl
theorem r236_1361 : Rn 236 (1361, [x0, x1, x2, x3], st, a, h) = Rn 236 (1362, [x0, x1, x2, x3], .int (5 : Int32) :: st, a, h) := Rn_go c236_1361 rfl
theorem c236_1362 : mcode 236 1362 = some (.iadd, 1, 0, 0, 0) := rfl
theorem r236_1362 : Rn 236 (1362, [x0, x1, x2, x3], .int j :: .int i :: st, a, h) = Rn 236 (1363, [x0, x1, x2, x3], .int (i + j) :: st, a, h) := Rn_go c236_1362 rfl
theorem c236_1363 : mcode 236 1363 = some (.iaload, 1, 0, 0, 0) := rfl
theorem r236_1363 : Rn 236 (1363, [x0, x1, x2, x3], .int i :: .ref q :: st, a, h) = Ki 236 1364 [x0, x1, x2, x3] st a h (mld h q i false) := Rn_iald c236_1363 rfl
theorem c236_1364 : mcode 236 1364 = some (.invokevirtual 158, 3, 217, 5, 6) := rfl
theorem r236_1364 : Rn 236 (1364, [x0, x1, x2, x3], [v4, v3, v2, v1, v0, .ref q, .int i0], a, h) = if mis h q 6 = true then Bk 236 1367 [x0, x1, x2, x3] [.int i0] (Ec 217 [.ref q, v0, v1, v2, v3, v4] a h) else none := Rn_call1 c236_1364 rfl (Nat.le_of_ble_eq_true rfl) rfl rfl (Nat.le_of_ble_eq_true rfl)
theorem c236_1367 : mcode 236 1367 = some (.if_icmp .eq 136, 3, 0, 0, 0) := rfl
theorem r236_1367 : Rn 236 (1367, [x0, x1, x2, x3], .int j :: .int i :: st, a, h) = if i = j then Rn 236 (1503, [x0, x1, x2, x3], st, a, h) else Rn 236 (1370, [x0, x1, x2, x3], st, a, h) := Rn_icmp c236_1367 mc_eq rfl rfl
theorem c236_1370 : mcode 236 1370 = some (.iconst 0, 1, 0, 0, 0) := rfl
theorem r236_1370 : Rn 236 (1370, [x0, x1, x2, x3], st, a, h) = Rn 236 (1371, [x0, x1, x2, x3], .int (0 : Int32) :: st, a, h) := Rn_go c236_1370 rfl
theorem c236_1371 : mcode 236 1371 = some (.ireturn, 1, 1, 0, 0) := rfl
theorem r236_1371 : Rn 236 (1371, [x0, x1, x2, x3], [.int i], a, h) = if mrt 1 i = true then some (some (.int i), a, h) else none := Rn_iretz c236_1371
theorem c236_1372 : mcode 236 1372 = some (.aload_n 1, 1, 0, 0, 0) := rfl
theorem r236_1372 : Rn 236 (1372, [x0, some (.ref q), x2, x3], st, a, h) = Rn 236 (1373, [x0, some (.ref q), x2, x3], .ref q :: st, a, h) := Rn_go c236_1372 rfl
theorem c236_1373 : mcode 236 1373 = some (.aload_n 0, 1, 0, 0, 0) := rfl
theorem r236_1373 : Rn 236 (1373, [some (.ref q), x1, x2, x3], st, a, h) = Rn 236 (1374, [some (.ref q), x1, x2, x3], .ref q :: st, a, h) := Rn_go c236_1373 rfl
theorem c236_1374 : mcode 236 1374 = some (.iload_n 3, 1, 0, 0, 0) := rfl
theorem r236_1374 : Rn 236 (1374, [x0, x1, x2, some (.int i)], st, a, h) = Rn 236 (1375, [x0, x1, x2, some (.int i)], .int i :: st, a, h) := Rn_go c236_1374 rfl
theorem c236_1375 : mcode 236 1375 = some (.iconst 1, 1, 0, 0, 0) := rfl
theorem r236_1375 : Rn 236 (1375, [x0, x1, x2, x3], st, a, h) = Rn 236 (1376, [x0, x1, x2, x3], .int (1 : Int32) :: st, a, h) := Rn_go c236_1375 rfl
theorem c236_1376 : mcode 236 1376 = some (.iadd, 1, 0, 0, 0) := rfl
theorem r236_1376 : Rn 236 (1376, [x0, x1, x2, x3], .int j :: .int i :: st, a, h) = Rn 236 (1377, [x0, x1, x2, x3], .int (i + j) :: st, a, h) := Rn_go c236_1376 rfl
theorem c236_1377 : mcode 236 1377 = some (.iaload, 1, 0, 0, 0) := rfl
theorem r236_1377 : Rn 236 (1377, [x0, x1, x2, x3], .int i :: .ref q :: st, a, h) = Ki 236 1378 [x0, x1, x2, x3] st a h (mld h q i false) := Rn_iald c236_1377 rfl
theorem c236_1378 : mcode 236 1378 = some (.invokevirtual 159, 3, 98, 1, 5) := rfl
theorem r236_1378 : Rn 236 (1378, [x0, x1, x2, x3], [v0, .ref q], a, h) = if mis h q 5 = true then Bk 236 1381 [x0, x1, x2, x3] [] (Ec 98 [.ref q, v0] a h) else none := Rn_call1 c236_1378 rfl (Nat.le_of_ble_eq_true rfl) rfl rfl (Nat.le_of_ble_eq_true rfl)
theorem c236_1381 : mcode 236 1381 = some (.aload_n 2, 1, 0, 0, 0) := rfl
theorem r236_1381 : Rn 236 (1381, [x0, x1, some (.ref q), x3], st, a, h) = Rn 236 (1382, [x0, x1, some (.ref q), x3], .ref q :: st, a, h) := Rn_go c236_1381 rfl
theorem c236_1382 : mcode 236 1382 = some (.aload_n 0, 1, 0, 0, 0) := rfl
theorem r236_1382 : Rn 236 (1382, [some (.ref q), x1, x2, x3], st, a, h) = Rn 236 (1383, [some (.ref q), x1, x2, x3], .ref q :: st, a, h) := Rn_go c236_1382 rfl
theorem c236_1383 : mcode 236 1383 = some (.iload_n 3, 1, 0, 0, 0) := rfl
theorem r236_1383 : Rn 236 (1383, [x0, x1, x2, some (.int i)], st, a, h) = Rn 236 (1384, [x0, x1, x2, some (.int i)], .int i :: st, a, h) := Rn_go c236_1383 rfl
theorem c236_1384 : mcode 236 1384 = some (.iconst 1, 1, 0, 0, 0) := rfl
theorem r236_1384 : Rn 236 (1384, [x0, x1, x2, x3], st, a, h) = Rn 236 (1385, [x0, x1, x2, x3], .int (1 : Int32) :: st, a, h) := Rn_go c236_1384 rfl
theorem c236_1385 : mcode 236 1385 = some (.iadd, 1, 0, 0, 0) := rfl
theorem r236_1385 : Rn 236 (1385, [x0, x1, x2, x3], .int j :: .int i :: st, a, h) = Rn 236 (1386, [x0, x1, x2, x3], .int (i + j) :: st, a, h) := Rn_go c236_1385 rfl
theorem c236_1386 : mcode 236 1386 = some (.iaload, 1, 0, 0, 0) := rfl
theorem r236_1386 : Rn 236 (1386, [x0, x1, x2, x3], .int i :: .ref q :: st, a, h) = Ki 236 1387 [x0, x1, x2, x3] st a h (mld h q i false) := Rn_iald c236_1386 rfl
theorem c236_1387 : mcode 236 1387 = some (.invokevirtual 162, 3, 219, 1, 6) := rfl
theorem r236_1387 : Rn 236 (1387, [x0, x1, x2, x3], [v0, .ref q, .int i0], a, h) = if mis h q 6 = true then Bk 236 1390 [x0, x1, x2, x3] [.int i0] (Ec 219 [.ref q, v0] a h) else none := Rn_call1 c236_1387 rfl (Nat.le_of_ble_eq_true rfl) rfl rfl (Nat.le_of_ble_eq_true rfl)
theorem c236_1390 : mcode 236 1390 = some (.if_icmp .eq 113, 3, 0, 0, 0) := rfl
theorem r236_1390 : Rn 236 (1390, [x0, x1, x2, x3], .int j :: .int i :: st, a, h) = if i = j then Rn 236 (1503, [x0, x1, x2, x3], st, a, h) else Rn 236 (1393, [x0, x1, x2, x3], st, a, h) := Rn_icmp c236_1390 mc_eq rfl rfl
theorem c236_1393 : mcode 236 1393 = some (.iconst 0, 1, 0, 0, 0) := rfl
theorem r236_1393 : Rn 236 (1393, [x0, x1, x2, x3], st, a, h) = Rn 236 (1394, [x0, x1, x2, x3], .int (0 : Int32) :: st, a, h) := Rn_go c236_1393 rfl
theorem c236_1394 : mcode 236 1394 = some (.ireturn, 1, 1, 0, 0) := rfl
theorem r236_1394 : Rn 236 (1394, [x0, x1, x2, x3], [.int i], a, h) = if mrt 1 i = true then some (some (.int i), a, h) else none := Rn_iretz c236_1394
theorem c236_1395 : mcode 236 1395 = some (.aload_n 1, 1, 0, 0, 0) := rfl
theorem r236_1395 : Rn 236 (1395, [x0, some (.ref q), x2, x3], st, a, h) = Rn 236 (1396, [x0, some (.ref q), x2, x3], .ref q :: st, a, h) := Rn_go c236_1395 rfl
theorem c236_1396 : mcode 236 1396 = some (.aload_n 0, 1, 0, 0, 0) := rfl
theorem r236_1396 : Rn 236 (1396, [some (.ref q), x1, x2, x3], st, a, h) = Rn 236 (1397, [some (.ref q), x1, x2, x3], .ref q :: st, a, h) := Rn_go c236_1396 rfl
theorem c236_1397 : mcode 236 1397 = some (.iload_n 3, 1, 0, 0, 0) := rfl
theorem r236_1397 : Rn 236 (1397, [x0, x1, x2, some (.int i)], st, a, h) = Rn 236 (1398, [x0, x1, x2, some (.int i)], .int i :: st, a, h) := Rn_go c236_1397 rfl
theorem c236_1398 : mcode 236 1398 = some (.iconst 1, 1, 0, 0, 0) := rfl
theorem r236_1398 : Rn 236 (1398, [x0, x1, x2, x3], st, a, h) = Rn 236 (1399, [x0, x1, x2, x3], .int (1 : Int32) :: st, a, h) := Rn_go c236_1398 rfl
theorem c236_1399 : mcode 236 1399 = some (.iadd, 1, 0, 0, 0) := rfl
theorem r236_1399 : Rn 236 (1399, [x0, x1, x2, x3], .int j :: .int i :: st, a, h) = Rn 236 (1400, [x0, x1, x2, x3], .int (i + j) :: st, a, h) := Rn_go c236_1399 rfl
theorem c236_1400 : mcode 236 1400 = some (.iaload, 1, 0, 0, 0) := rfl
theorem r236_1400 : Rn 236 (1400, [x0, x1, x2, x3], .int i :: .ref q :: st, a, h) = Ki 236 1401 [x0, x1, x2, x3] st a h (mld h q i false) := Rn_iald c236_1400 rfl
theorem c236_1401 : mcode 236 1401 = some (.invokevirtual 163, 3, 99, 1, 5) := rfl
theorem r236_1401 : Rn 236 (1401, [x0, x1, x2, x3], [v0, .ref q], a, h) = if mis h q 5 = true then Bk 236 1404 [x0, x1, x2, x3] [] (Ec 99 [.ref q, v0] a h) else none := Rn_call1 c236_1401 rfl (Nat.le_of_ble_eq_true rfl) rfl rfl (Nat.le_of_ble_eq_true rfl)
theorem c236_1404 : mcode 236 1404 = some (.aload_n 2, 1, 0, 0, 0) := rfl
theorem r236_1404 : Rn 236 (1404, [x0, x1, some (.ref q), x3], st, a, h) = Rn 236 (1405, [x0, x1, some (.ref q), x3], .ref q :: st, a, h) := Rn_go c236_1404 rfl
theorem c236_1405 : mcode 236 1405 = some (.aload_n 0, 1, 0, 0, 0) := rfl
theorem r236_1405 : Rn 236 (1405, [some (.ref q), x1, x2, x3], st, a, h) = Rn 236 (1406, [some (.ref q), x1, x2, x3], .ref q :: st, a, h) := Rn_go c236_1405 rfl
theorem c236_1406 : mcode 236 1406 = some (.iload_n 3, 1, 0, 0, 0) := rfl
theorem r236_1406 : Rn 236 (1406, [x0, x1, x2, some (.int i)], st, a, h) = Rn 236 (1407, [x0, x1, x2, some (.int i)], .int i :: st, a, h) := Rn_go c236_1406 rfl
theorem c236_1407 : mcode 236 1407 = some (.iconst 1, 1, 0, 0, 0) := rfl
theorem r236_1407 : Rn 236 (1407, [x0, x1, x2, x3], st, a, h) = Rn 236 (1408, [x0, x1, x2, x3], .int (1 : Int32) :: st, a, h) := Rn_go c236_1407 rfl
theorem c236_1408 : mcode 236 1408 = some (.iadd, 1, 0, 0, 0) := rfl
theorem r236_1408 : Rn 236 (1408, [x0, x1, x2, x3], .int j :: .int i :: st, a, h) = Rn 236 (1409, [x0, x1, x2, x3], .int (i + j) :: st, a, h) := Rn_go c236_1408 rfl
theorem c236_1409 : mcode 236 1409 = some (.iaload, 1, 0, 0, 0) := rfl
theorem r236_1409 : Rn 236 (1409, [x0, x1, x2, x3], .int i :: .ref q :: st, a, h) = Ki 236 1410 [x0, x1, x2, x3] st a h (mld h q i false) := Rn_iald c236_1409 rfl
theorem c236_1410 : mcode 236 1410 = some (.invokevirtual 166, 3, 220, 1, 6) := rfl
theorem r236_1410 : Rn 236 (1410, [x0, x1, x2, x3], [v0, .ref q, .int i0], a, h) = if mis h q 6 = true then Bk 236 1413 [x0, x1, x2, x3] [.int i0] (Ec 220 [.ref q, v0] a h) else none := Rn_call1 c236_1410 rfl (Nat.le_of_ble_eq_true rfl) rfl rfl (Nat.le_of_ble_eq_true rfl)
theorem c236_1413 : mcode 236 1413 = some (.if_icmp .eq 90, 3, 0, 0, 0) := rfl
theorem r236_1413 : Rn 236 (1413, [x0, x1, x2, x3], .int j :: .int i :: st, a, h) = if i = j then Rn 236 (1503, [x0, x1, x2, x3], st, a, h) else Rn 236 (1416, [x0, x1, x2, x3], st, a, h) := Rn_icmp c236_1413 mc_eq rfl rfl
theorem c236_1416 : mcode 236 1416 = some (.iconst 0, 1, 0, 0, 0) := rfl
theorem r236_1416 : Rn 236 (1416, [x0, x1, x2, x3], st, a, h) = Rn 236 (1417, [x0, x1, x2, x3], .int (0 : Int32) :: st, a, h) := Rn_go c236_1416 rfl
theorem c236_1417 : mcode 236 1417 = some (.ireturn, 1, 1, 0, 0) := rfl
theorem r236_1417 : Rn 236 (1417, [x0, x1, x2, x3], [.int i], a, h) = if mrt 1 i = true then some (some (.int i), a, h) else none := Rn_iretz c236_1417
theorem c236_1418 : mcode 236 1418 = some (.aload_n 1, 1, 0, 0, 0) := rfl
theorem r236_1418 : Rn 236 (1418, [x0, some (.ref q), x2, x3], st, a, h) = Rn 236 (1419, [x0, some (.ref q), x2, x3], .ref q :: st, a, h) := Rn_go c236_1418 rfl
theorem c236_1419 : mcode 236 1419 = some (.invokevirtual 167, 3, 100, 0, 5) := rfl
theorem r236_1419 : Rn 236 (1419, [x0, x1, x2, x3], [.ref q], a, h) = if mis h q 5 = true then Bk 236 1422 [x0, x1, x2, x3] [] (Ec 100 [.ref q] a h) else none := Rn_call1 c236_1419 rfl (Nat.le_of_ble_eq_true rfl) rfl rfl (Nat.le_of_ble_eq_true rfl)
theorem c236_1422 : mcode 236 1422 = some (.aload_n 2, 1, 0, 0, 0) := rfl
theorem r236_1422 : Rn 236 (1422, [x0, x1, some (.ref q), x3], st, a, h) = Rn 236 (1423, [x0, x1, some (.ref q), x3], .ref q :: st, a, h) := Rn_go c236_1422 rfl
theorem c236_1423 : mcode 236 1423 = some (.invokevirtual 170, 3, 221, 0, 6) := rfl
theorem r236_1423 : Rn 236 (1423, [x0, x1, x2, x3], [.ref q, .int i0], a, h) = if mis h q 6 = true then Bk 236 1426 [x0, x1, x2, x3] [.int i0] (Ec 221 [.ref q] a h) else none := Rn_call1 c236_1423 rfl (Nat.le_of_ble_eq_true rfl) rfl rfl (Nat.le_of_ble_eq_true rfl)
theorem c236_1426 : mcode 236 1426 = some (.if_icmp .eq 77, 3, 0, 0, 0) := rfl
theorem r236_1426 : Rn 236 (1426, [x0, x1, x2, x3], .int j :: .int i :: st, a, h) = if i = j then Rn 236 (1503, [x0, x1, x2, x3], st, a, h) else Rn 236 (1429, [x0, x1, x2, x3], st, a, h) := Rn_icmp c236_1426 mc_eq rfl rfl
theorem c236_1429 : mcode 236 1429 = some (.iconst 0, 1, 0, 0, 0) := rfl
theorem r236_1429 : Rn 236 (1429, [x0, x1, x2, x3], st, a, h) = Rn 236 (1430, [x0, x1, x2, x3], .int (0 : Int32) :: st, a, h) := Rn_go c236_1429 rfl
theorem c236_1430 : mcode 236 1430 = some (.ireturn, 1, 1, 0, 0) := rfl
theorem r236_1430 : Rn 236 (1430, [x0, x1, x2, x3], [.int i], a, h) = if mrt 1 i = true then some (some (.int i), a, h) else none := Rn_iretz c236_1430
theorem c236_1431 : mcode 236 1431 = some (.aload_n 1, 1, 0, 0, 0) := rfl
theorem r236_1431 : Rn 236 (1431, [x0, some (.ref q), x2, x3], st, a, h) = Rn 236 (1432, [x0, some (.ref q), x2, x3], .ref q :: st, a, h) := Rn_go c236_1431 rfl
theorem c236_1432 : mcode 236 1432 = some (.invokevirtual 171, 3, 101, 0, 5) := rfl
theorem r236_1432 : Rn 236 (1432, [x0, x1, x2, x3], [.ref q], a, h) = if mis h q 5 = true then Bk 236 1435 [x0, x1, x2, x3] [] (Ec 101 [.ref q] a h) else none := Rn_call1 c236_1432 rfl (Nat.le_of_ble_eq_true rfl) rfl rfl (Nat.le_of_ble_eq_true rfl)
theorem c236_1435 : mcode 236 1435 = some (.aload_n 2, 1, 0, 0, 0) := rfl
theorem r236_1435 : Rn 236 (1435, [x0, x1, some (.ref q), x3], st, a, h) = Rn 236 (1436, [x0, x1, some (.ref q), x3], .ref q :: st, a, h) := Rn_go c236_1435 rfl
theorem c236_1436 : mcode 236 1436 = some (.invokevirtual 174, 3, 222, 0, 6) := rfl
theorem r236_1436 : Rn 236 (1436, [x0, x1, x2, x3], [.ref q, .int i0], a, h) = if mis h q 6 = true then Bk 236 1439 [x0, x1, x2, x3] [.int i0] (Ec 222 [.ref q] a h) else none := Rn_call1 c236_1436 rfl (Nat.le_of_ble_eq_true rfl) rfl rfl (Nat.le_of_ble_eq_true rfl)
theorem c236_1439 : mcode 236 1439 = some (.if_icmp .eq 64, 3, 0, 0, 0) := rfl
theorem r236_1439 : Rn 236 (1439, [x0, x1, x2, x3], .int j :: .int i :: st, a, h) = if i = j then Rn 236 (1503, [x0, x1, x2, x3], st, a, h) else Rn 236 (1442, [x0, x1, x2, x3], st, a, h) := Rn_icmp c236_1439 mc_eq rfl rfl
theorem c236_1442 : mcode 236 1442 = some (.iconst 0, 1, 0, 0, 0) := rfl
theorem r236_1442 : Rn 236 (1442, [x0, x1, x2, x3], st, a, h) = Rn 236 (1443, [x0, x1, x2, x3], .int (0 : Int32) :: st, a, h) := Rn_go c236_1442 rfl
theorem c236_1443 : mcode 236 1443 = some (.ireturn, 1, 1, 0, 0) := rfl
theorem r236_1443 : Rn 236 (1443, [x0, x1, x2, x3], [.int i], a, h) = if mrt 1 i = true then some (some (.int i), a, h) else none := Rn_iretz c236_1443
theorem c236_1444 : mcode 236 1444 = some (.aload_n 1, 1, 0, 0, 0) := rfl
theorem r236_1444 : Rn 236 (1444, [x0, some (.ref q), x2, x3], st, a, h) = Rn 236 (1445, [x0, some (.ref q), x2, x3], .ref q :: st, a, h) := Rn_go c236_1444 rfl
theorem c236_1445 : mcode 236 1445 = some (.invokevirtual 175, 3, 102, 0, 5) := rfl
theorem r236_1445 : Rn 236 (1445, [x0, x1, x2, x3], [.ref q], a, h) = if mis h q 5 = true then Bk 236 1448 [x0, x1, x2, x3] [] (Ec 102 [.ref q] a h) else none := Rn_call1 c236_1445 rfl (Nat.le_of_ble_eq_true rfl) rfl rfl (Nat.le_of_ble_eq_true rfl)
theorem c236_1448 : mcode 236 1448 = some (.aload_n 2, 1, 0, 0, 0) := rfl
theorem r236_1448 : Rn 236 (1448, [x0, x1, some (.ref q), x3], st, a, h) = Rn 236 (1449, [x0, x1, some (.ref q), x3], .ref q :: st, a, h) := Rn_go c236_1448 rfl
theorem c236_1449 : mcode 236 1449 = some (.invokevirtual 178, 3, 223, 0, 6) := rfl
theorem r236_1449 : Rn 236 (1449, [x0, x1, x2, x3], [.ref q, .int i0], a, h) = if mis h q 6 = true then Bk 236 1452 [x0, x1, x2, x3] [.int i0] (Ec 223 [.ref q] a h) else none := Rn_call1 c236_1449 rfl (Nat.le_of_ble_eq_true rfl) rfl rfl (Nat.le_of_ble_eq_true rfl)
theorem c236_1452 : mcode 236 1452 = some (.if_icmp .eq 51, 3, 0, 0, 0) := rfl
theorem r236_1452 : Rn 236 (1452, [x0, x1, x2, x3], .int j :: .int i :: st, a, h) = if i = j then Rn 236 (1503, [x0, x1, x2, x3], st, a, h) else Rn 236 (1455, [x0, x1, x2, x3], st, a, h) := Rn_icmp c236_1452 mc_eq rfl rfl
theorem c236_1455 : mcode 236 1455 = some (.iconst 0, 1, 0, 0, 0) := rfl
theorem r236_1455 : Rn 236 (1455, [x0, x1, x2, x3], st, a, h) = Rn 236 (1456, [x0, x1, x2, x3], .int (0 : Int32) :: st, a, h) := Rn_go c236_1455 rfl
theorem c236_1456 : mcode 236 1456 = some (.ireturn, 1, 1, 0, 0) := rfl
theorem r236_1456 : Rn 236 (1456, [x0, x1, x2, x3], [.int i], a, h) = if mrt 1 i = true then some (some (.int i), a, h) else none := Rn_iretz c236_1456
theorem c236_1457 : mcode 236 1457 = some (.aload_n 1, 1, 0, 0, 0) := rfl
theorem r236_1457 : Rn 236 (1457, [x0, some (.ref q), x2, x3], st, a, h) = Rn 236 (1458, [x0, some (.ref q), x2, x3], .ref q :: st, a, h) := Rn_go c236_1457 rfl
theorem c236_1458 : mcode 236 1458 = some (.aload_n 0, 1, 0, 0, 0) := rfl
theorem r236_1458 : Rn 236 (1458, [some (.ref q), x1, x2, x3], st, a, h) = Rn 236 (1459, [some (.ref q), x1, x2, x3], .ref q :: st, a, h) := Rn_go c236_1458 rfl
theorem c236_1459 : mcode 236 1459 = some (.iload_n 3, 1, 0, 0, 0) := rfl
theorem r236_1459 : Rn 236 (1459, [x0, x1, x2, some (.int i)], st, a, h) = Rn 236 (1460, [x0, x1, x2, some (.int i)], .int i :: st, a, h) := Rn_go c236_1459 rfl
theorem c236_1460 : mcode 236 1460 = some (.iconst 1, 1, 0, 0, 0) := rfl
theorem r236_1460 : Rn 236 (1460, [x0, x1, x2, x3], st, a, h) = Rn 236 (1461, [x0, x1, x2, x3], .int (1 : Int32) :: st, a, h) := Rn_go c236_1460 rfl
theorem c236_1461 : mcode 236 1461 = some (.iadd, 1, 0, 0, 0) := rfl
theorem r236_1461 : Rn 236 (1461, [x0, x1, x2, x3], .int j :: .int i :: st, a, h) = Rn 236 (1462, [x0, x1, x2, x3], .int (i + j) :: st, a, h) := Rn_go c236_1461 rfl
theorem c236_1462 : mcode 236 1462 = some (.iaload, 1, 0, 0, 0) := rfl
theorem r236_1462 : Rn 236 (1462, [x0, x1, x2, x3], .int i :: .ref q :: st, a, h) = Ki 236 1463 [x0, x1, x2, x3] st a h (mld h q i false) := Rn_iald c236_1462 rfl
theorem c236_1463 : mcode 236 1463 = some (.invokevirtual 179, 3, 103, 1, 5) := rfl
theorem r236_1463 : Rn 236 (1463, [x0, x1, x2, x3], [v0, .ref q], a, h) = if mis h q 5 = true then Bk 236 1466 [x0, x1, x2, x3] [] (Ec 103 [.ref q, v0] a h) else none := Rn_call1 c236_1463 rfl (Nat.le_of_ble_eq_true rfl) rfl rfl (Nat.le_of_ble_eq_true rfl)
theorem c236_1466 : mcode 236 1466 = some (.aload_n 2, 1, 0, 0, 0) := rfl
theorem r236_1466 : Rn 236 (1466, [x0, x1, some (.ref q), x3], st, a, h) = Rn 236 (1467, [x0, x1, some (.ref q), x3], .ref q :: st, a, h) := Rn_go c236_1466 rfl
theorem c236_1467 : mcode 236 1467 = some (.aload_n 0, 1, 0, 0, 0) := rfl
theorem r236_1467 : Rn 236 (1467, [some (.ref q), x1, x2, x3], st, a, h) = Rn 236 (1468, [some (.ref q), x1, x2, x3], .ref q :: st, a, h) := Rn_go c236_1467 rfl
theorem c236_1468 : mcode 236 1468 = some (.iload_n 3, 1, 0, 0, 0) := rfl
theorem r236_1468 : Rn 236 (1468, [x0, x1, x2, some (.int i)], st, a, h) = Rn 236 (1469, [x0, x1, x2, some (.int i)], .int i :: st, a, h) := Rn_go c236_1468 rfl
theorem c236_1469 : mcode 236 1469 = some (.iconst 1, 1, 0, 0, 0) := rfl
theorem r236_1469 : Rn 236 (1469, [x0, x1, x2, x3], st, a, h) = Rn 236 (1470, [x0, x1, x2, x3], .int (1 : Int32) :: st, a, h) := Rn_go c236_1469 rfl
theorem c236_1470 : mcode 236 1470 = some (.iadd, 1, 0, 0, 0) := rfl
theorem r236_1470 : Rn 236 (1470, [x0, x1, x2, x3], .int j :: .int i :: st, a, h) = Rn 236 (1471, [x0, x1, x2, x3], .int (i + j) :: st, a, h) := Rn_go c236_1470 rfl
theorem c236_1471 : mcode 236 1471 = some (.iaload, 1, 0, 0, 0) := rfl
theorem r236_1471 : Rn 236 (1471, [x0, x1, x2, x3], .int i :: .ref q :: st, a, h) = Ki 236 1472 [x0, x1, x2, x3] st a h (mld h q i false) := Rn_iald c236_1471 rfl
theorem c236_1472 : mcode 236 1472 = some (.invokevirtual 182, 3, 224, 1, 6) := rfl
theorem r236_1472 : Rn 236 (1472, [x0, x1, x2, x3], [v0, .ref q, .int i0], a, h) = if mis h q 6 = true then Bk 236 1475 [x0, x1, x2, x3] [.int i0] (Ec 224 [.ref q, v0] a h) else none := Rn_call1 c236_1472 rfl (Nat.le_of_ble_eq_true rfl) rfl rfl (Nat.le_of_ble_eq_true rfl)
theorem c236_1475 : mcode 236 1475 = some (.if_icmp .eq 28, 3, 0, 0, 0) := rfl
theorem r236_1475 : Rn 236 (1475, [x0, x1, x2, x3], .int j :: .int i :: st, a, h) = if i = j then Rn 236 (1503, [x0, x1, x2, x3], st, a, h) else Rn 236 (1478, [x0, x1, x2, x3], st, a, h) := Rn_icmp c236_1475 mc_eq rfl rfl
theorem c236_1478 : mcode 236 1478 = some (.iconst 0, 1, 0, 0, 0) := rfl
theorem r236_1478 : Rn 236 (1478, [x0, x1, x2, x3], st, a, h) = Rn 236 (1479, [x0, x1, x2, x3], .int (0 : Int32) :: st, a, h) := Rn_go c236_1478 rfl
theorem c236_1479 : mcode 236 1479 = some (.ireturn, 1, 1, 0, 0) := rfl
theorem r236_1479 : Rn 236 (1479, [x0, x1, x2, x3], [.int i], a, h) = if mrt 1 i = true then some (some (.int i), a, h) else none := Rn_iretz c236_1479
theorem c236_1480 : mcode 236 1480 = some (.aload_n 1, 1, 0, 0, 0) := rfl
theorem r236_1480 : Rn 236 (1480, [x0, some (.ref q), x2, x3], st, a, h) = Rn 236 (1481, [x0, some (.ref q), x2, x3], .ref q :: st, a, h) := Rn_go c236_1480 rfl
theorem c236_1481 : mcode 236 1481 = some (.aload_n 0, 1, 0, 0, 0) := rfl
theorem r236_1481 : Rn 236 (1481, [some (.ref q), x1, x2, x3], st, a, h) = Rn 236 (1482, [some (.ref q), x1, x2, x3], .ref q :: st, a, h) := Rn_go c236_1481 rfl
theorem c236_1482 : mcode 236 1482 = some (.iload_n 3, 1, 0, 0, 0) := rfl
theorem r236_1482 : Rn 236 (1482, [x0, x1, x2, some (.int i)], st, a, h) = Rn 236 (1483, [x0, x1, x2, some (.int i)], .int i :: st, a, h) := Rn_go c236_1482 rfl
theorem c236_1483 : mcode 236 1483 = some (.iconst 1, 1, 0, 0, 0) := rfl
theorem r236_1483 : Rn 236 (1483, [x0, x1, x2, x3], st, a, h) = Rn 236 (1484, [x0, x1, x2, x3], .int (1 : Int32) :: st, a, h) := Rn_go c236_1483 rfl
theorem c236_1484 : mcode 236 1484 = some (.iadd, 1, 0, 0, 0) := rfl
theorem r236_1484 : Rn 236 (1484, [x0, x1, x2, x3], .int j :: .int i :: st, a, h) = Rn 236 (1485, [x0, x1, x2, x3], .int (i + j) :: st, a, h) := Rn_go c236_1484 rfl
theorem c236_1485 : mcode 236 1485 = some (.iaload, 1, 0, 0, 0) := rfl
theorem r236_1485 : Rn 236 (1485, [x0, x1, x2, x3], .int i :: .ref q :: st, a, h) = Ki 236 1486 [x0, x1, x2, x3] st a h (mld h q i false) := Rn_iald c236_1485 rfl
theorem c236_1486 : mcode 236 1486 = some (.invokevirtual 183, 3, 104, 1, 5) := rfl
theorem r236_1486 : Rn 236 (1486, [x0, x1, x2, x3], [v0, .ref q], a, h) = if mis h q 5 = true then Bk 236 1489 [x0, x1, x2, x3] [] (Ec 104 [.ref q, v0] a h) else none := Rn_call1 c236_1486 rfl (Nat.le_of_ble_eq_true rfl) rfl rfl (Nat.le_of_ble_eq_true rfl)
theorem c236_1489 : mcode 236 1489 = some (.aload_n 2, 1, 0, 0, 0) := rfl
theorem r236_1489 : Rn 236 (1489, [x0, x1, some (.ref q), x3], st, a, h) = Rn 236 (1490, [x0, x1, some (.ref q), x3], .ref q :: st, a, h) := Rn_go c236_1489 rfl
theorem c236_1490 : mcode 236 1490 = some (.aload_n 0, 1, 0, 0, 0) := rfl
theorem r236_1490 : Rn 236 (1490, [some (.ref q), x1, x2, x3], st, a, h) = Rn 236 (1491, [some (.ref q), x1, x2, x3], .ref q :: st, a, h) := Rn_go c236_1490 rfl
theorem c236_1491 : mcode 236 1491 = some (.iload_n 3, 1, 0, 0, 0) := rfl
theorem r236_1491 : Rn 236 (1491, [x0, x1, x2, some (.int i)], st, a, h) = Rn 236 (1492, [x0, x1, x2, some (.int i)], .int i :: st, a, h) := Rn_go c236_1491 rfl
theorem c236_1492 : mcode 236 1492 = some (.iconst 1, 1, 0, 0, 0) := rfl
theorem r236_1492 : Rn 236 (1492, [x0, x1, x2, x3], st, a, h) = Rn 236 (1493, [x0, x1, x2, x3], .int (1 : Int32) :: st, a, h) := Rn_go c236_1492 rfl
theorem c236_1493 : mcode 236 1493 = some (.iadd, 1, 0, 0, 0) := rfl
theorem r236_1493 : Rn 236 (1493, [x0, x1, x2, x3], .int j :: .int i :: st, a, h) = Rn 236 (1494, [x0, x1, x2, x3], .int (i + j) :: st, a, h) := Rn_go c236_1493 rfl
theorem c236_1494 : mcode 236 1494 = some (.iaload, 1, 0, 0, 0) := rfl
theorem r236_1494 : Rn 236 (1494, [x0, x1, x2, x3], .int i :: .ref q :: st, a, h) = Ki 236 1495 [x0, x1, x2, x3] st a h (mld h q i false) := Rn_iald c236_1494 rfl
theorem c236_1495 : mcode 236 1495 = some (.invokevirtual 186, 3, 225, 1, 6) := rfl
theorem r236_1495 : Rn 236 (1495, [x0, x1, x2, x3], [v0, .ref q, .int i0], a, h) = if mis h q 6 = true then Bk 236 1498 [x0, x1, x2, x3] [.int i0] (Ec 225 [.ref q, v0] a h) else none := Rn_call1 c236_1495 rfl (Nat.le_of_ble_eq_true rfl) rfl rfl (Nat.le_of_ble_eq_true rfl)
theorem c236_1498 : mcode 236 1498 = some (.if_icmp .eq 5, 3, 0, 0, 0) := rfl
theorem r236_1498 : Rn 236 (1498, [x0, x1, x2, x3], .int j :: .int i :: st, a, h) = if i = j then Rn 236 (1503, [x0, x1, x2, x3], st, a, h) else Rn 236 (1501, [x0, x1, x2, x3], st, a, h) := Rn_icmp c236_1498 mc_eq rfl rfl
theorem c236_1501 : mcode 236 1501 = some (.iconst 0, 1, 0, 0, 0) := rfl
theorem r236_1501 : Rn 236 (1501, [x0, x1, x2, x3], st, a, h) = Rn 236 (1502, [x0, x1, x2, x3], .int (0 : Int32) :: st, a, h) := Rn_go c236_1501 rfl
theorem c236_1502 : mcode 236 1502 = some (.ireturn, 1, 1, 0, 0) := rfl
theorem r236_1502 : Rn 236 (1502, [x0, x1, x2, x3], [.int i], a, h) = if mrt 1 i = true then some (some (.int i), a, h) else none := Rn_iretz c236_1502
theorem c236_1503 : mcode 236 1503 = some (.iinc 3 6, 3, 0, 0, 0) := rfl
theorem r236_1503 : Rn 236 (1503, [x0, x1, x2, some (.int i)], st, a, h) = Nl x2 (Rn 236 (1506, [x0, x1, x2, some (.int (i + (6 : Int32)))], st, a, h)) := Rn_st1 (k := 3) (v := .int (i + (6 : Int32))) x2 c236_1503 rfl rfl rfl rfl
theorem c236_1506 : mcode 236 1506 = some (.goto (-1488), 3, 0, 0, 0) := rfl
theorem r236_1506 : Rn 236 (1506, [x0, x1, x2, x3], st, a, h) = Rn 236 (18, [x0, x1, x2, x3], st, a, h) := Rn_goto c236_1506 rfl
theorem c236_1509 : mcode 236 1509 = some (.iconst 1, 1, 0, 0, 0) := rfl
theorem r236_1509 : Rn 236 (1509, [x0, x1, x2, x3], st, a, h) = Rn 236 (1510, [x0, x1, x2, x3], .int (1 : Int32) :: st, a, h) := Rn_go c236_1509 rfl
theorem c236_1510 : mcode 236 1510 = some (.ireturn, 1, 1, 0, 0) := rfl
theorem r236_1510 : Rn 236 (1510, [x0, x1, x2, x3], [.int i], a, h) = if mrt 1 i = true then some (some (.int i), a, h) else none := Rn_iretz c236_1510
end
