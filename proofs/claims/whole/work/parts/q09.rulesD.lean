section
variable {x0 x1 x2 x3 x4 x5 x6 x7 x8 x9 : Option Value} {i j k i0 i1 i2 i3 i4 i5 i6 : Int32} {p q q0 q1 q2 q3 q4 q5 : Nat} {l m l0 l1 l2 : Int64} {u v w v0 v1 v2 v3 v4 v5 : Value} {st : List Value} {a : MA} {h : MH}
theorem c237_0 : mcode 237 0 = some (.new 7, 3, 5, 0, 0) := rfl
theorem r237_0 {b c d : Nat} (hb : b < 999) : Rn 237 (0, [x0, x1, x2, x3], st, (b, c, d), h) = Rn 237 (3, [x0, x1, x2, x3], .ref b :: st, (b + 1, c + 1, d + 8), mup h b (.inr (.inr (5, mdf 5)))) := Rn_new c237_0 rfl hb
theorem c237_3 : mcode 237 3 = some (.dup, 1, 0, 0, 0) := rfl
theorem r237_3 : Rn 237 (3, [x0, x1, x2, x3], .ref q :: st, a, h) = Rn 237 (4, [x0, x1, x2, x3], .ref q :: .ref q :: st, a, h) := Rn_go c237_3 rfl
theorem c237_4 : mcode 237 4 = some (.invokespecial 9, 3, 62, 0, 0) := rfl
theorem r237_4 : Rn 237 (4, [x0, x1, x2, x3], [.ref q, .ref q0], a, h) = Bk 237 7 [x0, x1, x2, x3] [.ref q0] (Ec 62 [.ref q] a h) := Rn_call2 c237_4 (fun z => nomatch z) rfl (Nat.le_of_ble_eq_true rfl) rfl rfl (Nat.le_of_ble_eq_true rfl)
theorem c237_7 : mcode 237 7 = some (.astore_n 1, 1, 0, 0, 0) := rfl
theorem r237_7 : Rn 237 (7, [x0, x1, x2, x3], .ref q :: st, a, h) = Nl x0 (Rn 237 (8, [x0, some (.ref q), x2, x3], st, a, h)) := Rn_st1 (k := 1) (v := .ref q) x0 c237_7 rfl rfl rfl rfl
theorem c237_8 : mcode 237 8 = some (.new 10, 3, 6, 0, 0) := rfl
theorem r237_8 {b c d : Nat} (hb : b < 999) : Rn 237 (8, [x0, x1, x2, x3], st, (b, c, d), h) = Rn 237 (11, [x0, x1, x2, x3], .ref b :: st, (b + 1, c + 1, d + 18), mup h b (.inr (.inr (6, mdf 6)))) := Rn_new c237_8 rfl hb
theorem c237_11 : mcode 237 11 = some (.dup, 1, 0, 0, 0) := rfl
theorem r237_11 : Rn 237 (11, [x0, x1, x2, x3], .ref q :: st, a, h) = Rn 237 (12, [x0, x1, x2, x3], .ref q :: .ref q :: st, a, h) := Rn_go c237_11 rfl
theorem c237_12 : mcode 237 12 = some (.invokespecial 12, 3, 123, 0, 0) := rfl
theorem r237_12 : Rn 237 (12, [x0, x1, x2, x3], [.ref q, .ref q0], a, h) = Bk 237 15 [x0, x1, x2, x3] [.ref q0] (Ec 123 [.ref q] a h) := Rn_call2 c237_12 (fun z => nomatch z) rfl (Nat.le_of_ble_eq_true rfl) rfl rfl (Nat.le_of_ble_eq_true rfl)
theorem c237_15 : mcode 237 15 = some (.astore_n 2, 1, 0, 0, 0) := rfl
theorem r237_15 : Rn 237 (15, [x0, x1, x2, x3], .ref q :: st, a, h) = Nl x1 (Rn 237 (16, [x0, x1, some (.ref q), x3], st, a, h)) := Rn_st1 (k := 2) (v := .ref q) x1 c237_15 rfl rfl rfl rfl
theorem c237_16 : mcode 237 16 = some (.iconst 0, 1, 0, 0, 0) := rfl
theorem r237_16 : Rn 237 (16, [x0, x1, x2, x3], st, a, h) = Rn 237 (17, [x0, x1, x2, x3], .int (0 : Int32) :: st, a, h) := Rn_go c237_16 rfl
theorem c237_17 : mcode 237 17 = some (.istore_n 3, 1, 0, 0, 0) := rfl
theorem r237_17 : Rn 237 (17, [x0, x1, x2, x3], .int i :: st, a, h) = Nl x2 (Rn 237 (18, [x0, x1, x2, some (.int i)], st, a, h)) := Rn_st1 (k := 3) (v := .int i) x2 c237_17 rfl rfl rfl rfl
theorem c237_18 : mcode 237 18 = some (.iload_n 3, 1, 0, 0, 0) := rfl
theorem r237_18 : Rn 237 (18, [x0, x1, x2, some (.int i)], st, a, h) = Rn 237 (19, [x0, x1, x2, some (.int i)], .int i :: st, a, h) := Rn_go c237_18 rfl
theorem c237_19 : mcode 237 19 = some (.aload_n 0, 1, 0, 0, 0) := rfl
theorem r237_19 : Rn 237 (19, [some (.ref q), x1, x2, x3], st, a, h) = Rn 237 (20, [some (.ref q), x1, x2, x3], .ref q :: st, a, h) := Rn_go c237_19 rfl
theorem c237_20 : mcode 237 20 = some (.arraylength, 1, 0, 0, 0) := rfl
theorem r237_20 : Rn 237 (20, [x0, x1, x2, x3], .ref q :: st, a, h) = Ki 237 21 [x0, x1, x2, x3] st a h (mlen h q) := Rn_alen c237_20 rfl
theorem c237_21 : mcode 237 21 = some (.bipush 6, 2, 0, 0, 0) := rfl
theorem r237_21 : Rn 237 (21, [x0, x1, x2, x3], st, a, h) = Rn 237 (23, [x0, x1, x2, x3], .int (6 : Int32) :: st, a, h) := Rn_go c237_21 rfl
theorem c237_23 : mcode 237 23 = some (.isub, 1, 0, 0, 0) := rfl
theorem r237_23 : Rn 237 (23, [x0, x1, x2, x3], .int j :: .int i :: st, a, h) = Rn 237 (24, [x0, x1, x2, x3], .int (i - j) :: st, a, h) := Rn_go c237_23 rfl
theorem c237_24 : mcode 237 24 = some (.if_icmp .gt 1485, 3, 0, 0, 0) := rfl
theorem r237_24 : Rn 237 (24, [x0, x1, x2, x3], .int j :: .int i :: st, a, h) = if j < i then Rn 237 (1509, [x0, x1, x2, x3], st, a, h) else Rn 237 (27, [x0, x1, x2, x3], st, a, h) := Rn_icmp c237_24 mc_gt rfl rfl
theorem c237_27 : mcode 237 27 = some (.aload_n 0, 1, 0, 0, 0) := rfl
theorem r237_27 : Rn 237 (27, [some (.ref q), x1, x2, x3], st, a, h) = Rn 237 (28, [some (.ref q), x1, x2, x3], .ref q :: st, a, h) := Rn_go c237_27 rfl
theorem c237_28 : mcode 237 28 = some (.iload_n 3, 1, 0, 0, 0) := rfl
theorem r237_28 : Rn 237 (28, [x0, x1, x2, some (.int i)], st, a, h) = Rn 237 (29, [x0, x1, x2, some (.int i)], .int i :: st, a, h) := Rn_go c237_28 rfl
theorem c237_29 : mcode 237 29 = some (.iaload, 1, 0, 0, 0) := rfl
theorem r237_29 : Rn 237 (29, [x0, x1, x2, x3], .int i :: .ref q :: st, a, h) = Ki 237 30 [x0, x1, x2, x3] st a h (mld h q i false) := Rn_iald c237_29 rfl
theorem c237_30 : mcode 237 30 = some (.bipush 63, 2, 0, 0, 0) := rfl
theorem r237_30 : Rn 237 (30, [x0, x1, x2, x3], st, a, h) = Rn 237 (32, [x0, x1, x2, x3], .int (63 : Int32) :: st, a, h) := Rn_go c237_30 rfl
theorem c237_32 : mcode 237 32 = some (.iand, 1, 0, 0, 0) := rfl
theorem r237_32 : Rn 237 (32, [x0, x1, x2, x3], .int j :: .int i :: st, a, h) = Rn 237 (33, [x0, x1, x2, x3], .int (i &&& j) :: st, a, h) := Rn_go c237_32 rfl
theorem c237_33 : mcode 237 33 = some (.tableswitch 1470 0 41 #[183, 226, 259, 282, 315, 348, 381, 424, 447, 470, 513, 556, 579, 612, 635, 668, 701, 734, 767, 800, 833, 866, 909, 952, 985, 1008, 1042, 1065, 1098, 1111, 1124, 1157, 1190, 1233, 1276, 1339, 1362, 1385, 1398, 1411, 1424, 1447], 183, 0, 0, 0) := rfl
theorem r237_33_0 : Rn 237 (33, [x0, x1, x2, x3], .int (0 : Int32) :: st, a, h) = Rn 237 (216, [x0, x1, x2, x3], st, a, h) := Rn_swAt c237_33 rfl rfl
theorem r237_33_1 : Rn 237 (33, [x0, x1, x2, x3], .int (1 : Int32) :: st, a, h) = Rn 237 (259, [x0, x1, x2, x3], st, a, h) := Rn_swAt c237_33 rfl rfl
theorem r237_33_2 : Rn 237 (33, [x0, x1, x2, x3], .int (2 : Int32) :: st, a, h) = Rn 237 (292, [x0, x1, x2, x3], st, a, h) := Rn_swAt c237_33 rfl rfl
theorem r237_33_3 : Rn 237 (33, [x0, x1, x2, x3], .int (3 : Int32) :: st, a, h) = Rn 237 (315, [x0, x1, x2, x3], st, a, h) := Rn_swAt c237_33 rfl rfl
theorem r237_33_4 : Rn 237 (33, [x0, x1, x2, x3], .int (4 : Int32) :: st, a, h) = Rn 237 (348, [x0, x1, x2, x3], st, a, h) := Rn_swAt c237_33 rfl rfl
theorem r237_33_5 : Rn 237 (33, [x0, x1, x2, x3], .int (5 : Int32) :: st, a, h) = Rn 237 (381, [x0, x1, x2, x3], st, a, h) := Rn_swAt c237_33 rfl rfl
theorem r237_33_6 : Rn 237 (33, [x0, x1, x2, x3], .int (6 : Int32) :: st, a, h) = Rn 237 (414, [x0, x1, x2, x3], st, a, h) := Rn_swAt c237_33 rfl rfl
theorem r237_33_7 : Rn 237 (33, [x0, x1, x2, x3], .int (7 : Int32) :: st, a, h) = Rn 237 (457, [x0, x1, x2, x3], st, a, h) := Rn_swAt c237_33 rfl rfl
theorem r237_33_8 : Rn 237 (33, [x0, x1, x2, x3], .int (8 : Int32) :: st, a, h) = Rn 237 (480, [x0, x1, x2, x3], st, a, h) := Rn_swAt c237_33 rfl rfl
theorem r237_33_9 : Rn 237 (33, [x0, x1, x2, x3], .int (9 : Int32) :: st, a, h) = Rn 237 (503, [x0, x1, x2, x3], st, a, h) := Rn_swAt c237_33 rfl rfl
theorem r237_33_10 : Rn 237 (33, [x0, x1, x2, x3], .int (10 : Int32) :: st, a, h) = Rn 237 (546, [x0, x1, x2, x3], st, a, h) := Rn_swAt c237_33 rfl rfl
theorem r237_33_11 : Rn 237 (33, [x0, x1, x2, x3], .int (11 : Int32) :: st, a, h) = Rn 237 (589, [x0, x1, x2, x3], st, a, h) := Rn_swAt c237_33 rfl rfl
theorem r237_33_12 : Rn 237 (33, [x0, x1, x2, x3], .int (12 : Int32) :: st, a, h) = Rn 237 (612, [x0, x1, x2, x3], st, a, h) := Rn_swAt c237_33 rfl rfl
theorem r237_33_13 : Rn 237 (33, [x0, x1, x2, x3], .int (13 : Int32) :: st, a, h) = Rn 237 (645, [x0, x1, x2, x3], st, a, h) := Rn_swAt c237_33 rfl rfl
theorem r237_33_14 : Rn 237 (33, [x0, x1, x2, x3], .int (14 : Int32) :: st, a, h) = Rn 237 (668, [x0, x1, x2, x3], st, a, h) := Rn_swAt c237_33 rfl rfl
theorem r237_33_15 : Rn 237 (33, [x0, x1, x2, x3], .int (15 : Int32) :: st, a, h) = Rn 237 (701, [x0, x1, x2, x3], st, a, h) := Rn_swAt c237_33 rfl rfl
theorem r237_33_16 : Rn 237 (33, [x0, x1, x2, x3], .int (16 : Int32) :: st, a, h) = Rn 237 (734, [x0, x1, x2, x3], st, a, h) := Rn_swAt c237_33 rfl rfl
theorem r237_33_17 : Rn 237 (33, [x0, x1, x2, x3], .int (17 : Int32) :: st, a, h) = Rn 237 (767, [x0, x1, x2, x3], st, a, h) := Rn_swAt c237_33 rfl rfl
theorem r237_33_18 : Rn 237 (33, [x0, x1, x2, x3], .int (18 : Int32) :: st, a, h) = Rn 237 (800, [x0, x1, x2, x3], st, a, h) := Rn_swAt c237_33 rfl rfl
theorem r237_33_19 : Rn 237 (33, [x0, x1, x2, x3], .int (19 : Int32) :: st, a, h) = Rn 237 (833, [x0, x1, x2, x3], st, a, h) := Rn_swAt c237_33 rfl rfl
theorem r237_33_20 : Rn 237 (33, [x0, x1, x2, x3], .int (20 : Int32) :: st, a, h) = Rn 237 (866, [x0, x1, x2, x3], st, a, h) := Rn_swAt c237_33 rfl rfl
theorem r237_33_21 : Rn 237 (33, [x0, x1, x2, x3], .int (21 : Int32) :: st, a, h) = Rn 237 (899, [x0, x1, x2, x3], st, a, h) := Rn_swAt c237_33 rfl rfl
theorem r237_33_22 : Rn 237 (33, [x0, x1, x2, x3], .int (22 : Int32) :: st, a, h) = Rn 237 (942, [x0, x1, x2, x3], st, a, h) := Rn_swAt c237_33 rfl rfl
theorem r237_33_23 : Rn 237 (33, [x0, x1, x2, x3], .int (23 : Int32) :: st, a, h) = Rn 237 (985, [x0, x1, x2, x3], st, a, h) := Rn_swAt c237_33 rfl rfl
theorem r237_33_24 : Rn 237 (33, [x0, x1, x2, x3], .int (24 : Int32) :: st, a, h) = Rn 237 (1018, [x0, x1, x2, x3], st, a, h) := Rn_swAt c237_33 rfl rfl
theorem r237_33_25 : Rn 237 (33, [x0, x1, x2, x3], .int (25 : Int32) :: st, a, h) = Rn 237 (1041, [x0, x1, x2, x3], st, a, h) := Rn_swAt c237_33 rfl rfl
theorem r237_33_26 : Rn 237 (33, [x0, x1, x2, x3], .int (26 : Int32) :: st, a, h) = Rn 237 (1075, [x0, x1, x2, x3], st, a, h) := Rn_swAt c237_33 rfl rfl
theorem r237_33_27 : Rn 237 (33, [x0, x1, x2, x3], .int (27 : Int32) :: st, a, h) = Rn 237 (1098, [x0, x1, x2, x3], st, a, h) := Rn_swAt c237_33 rfl rfl
theorem r237_33_28 : Rn 237 (33, [x0, x1, x2, x3], .int (28 : Int32) :: st, a, h) = Rn 237 (1131, [x0, x1, x2, x3], st, a, h) := Rn_swAt c237_33 rfl rfl
theorem r237_33_29 : Rn 237 (33, [x0, x1, x2, x3], .int (29 : Int32) :: st, a, h) = Rn 237 (1144, [x0, x1, x2, x3], st, a, h) := Rn_swAt c237_33 rfl rfl
theorem r237_33_30 : Rn 237 (33, [x0, x1, x2, x3], .int (30 : Int32) :: st, a, h) = Rn 237 (1157, [x0, x1, x2, x3], st, a, h) := Rn_swAt c237_33 rfl rfl
theorem r237_33_31 : Rn 237 (33, [x0, x1, x2, x3], .int (31 : Int32) :: st, a, h) = Rn 237 (1190, [x0, x1, x2, x3], st, a, h) := Rn_swAt c237_33 rfl rfl
theorem r237_33_32 : Rn 237 (33, [x0, x1, x2, x3], .int (32 : Int32) :: st, a, h) = Rn 237 (1223, [x0, x1, x2, x3], st, a, h) := Rn_swAt c237_33 rfl rfl
theorem r237_33_33 : Rn 237 (33, [x0, x1, x2, x3], .int (33 : Int32) :: st, a, h) = Rn 237 (1266, [x0, x1, x2, x3], st, a, h) := Rn_swAt c237_33 rfl rfl
theorem r237_33_34 : Rn 237 (33, [x0, x1, x2, x3], .int (34 : Int32) :: st, a, h) = Rn 237 (1309, [x0, x1, x2, x3], st, a, h) := Rn_swAt c237_33 rfl rfl
theorem r237_33_35 : Rn 237 (33, [x0, x1, x2, x3], .int (35 : Int32) :: st, a, h) = Rn 237 (1372, [x0, x1, x2, x3], st, a, h) := Rn_swAt c237_33 rfl rfl
theorem r237_33_36 : Rn 237 (33, [x0, x1, x2, x3], .int (36 : Int32) :: st, a, h) = Rn 237 (1395, [x0, x1, x2, x3], st, a, h) := Rn_swAt c237_33 rfl rfl
theorem r237_33_37 : Rn 237 (33, [x0, x1, x2, x3], .int (37 : Int32) :: st, a, h) = Rn 237 (1418, [x0, x1, x2, x3], st, a, h) := Rn_swAt c237_33 rfl rfl
theorem r237_33_38 : Rn 237 (33, [x0, x1, x2, x3], .int (38 : Int32) :: st, a, h) = Rn 237 (1431, [x0, x1, x2, x3], st, a, h) := Rn_swAt c237_33 rfl rfl
theorem r237_33_39 : Rn 237 (33, [x0, x1, x2, x3], .int (39 : Int32) :: st, a, h) = Rn 237 (1444, [x0, x1, x2, x3], st, a, h) := Rn_swAt c237_33 rfl rfl
theorem r237_33_40 : Rn 237 (33, [x0, x1, x2, x3], .int (40 : Int32) :: st, a, h) = Rn 237 (1457, [x0, x1, x2, x3], st, a, h) := Rn_swAt c237_33 rfl rfl
theorem r237_33_41 : Rn 237 (33, [x0, x1, x2, x3], .int (41 : Int32) :: st, a, h) = Rn 237 (1480, [x0, x1, x2, x3], st, a, h) := Rn_swAt c237_33 rfl rfl
theorem r237_33_d (hi : i.toInt < 0 ∨ 41 < i.toInt) : Rn 237 (33, [x0, x1, x2, x3], .int i :: st, a, h) = Rn 237 (1503, [x0, x1, x2, x3], st, a, h) := Rn_swAt c237_33 (if_pos hi) rfl
theorem c237_216 : mcode 237 216 = some (.aload_n 1, 1, 0, 0, 0) := rfl
theorem r237_216 : Rn 237 (216, [x0, some (.ref q), x2, x3], st, a, h) = Rn 237 (217, [x0, some (.ref q), x2, x3], .ref q :: st, a, h) := Rn_go c237_216 rfl
theorem c237_217 : mcode 237 217 = some (.aload_n 0, 1, 0, 0, 0) := rfl
theorem r237_217 : Rn 237 (217, [some (.ref q), x1, x2, x3], st, a, h) = Rn 237 (218, [some (.ref q), x1, x2, x3], .ref q :: st, a, h) := Rn_go c237_217 rfl
theorem c237_218 : mcode 237 218 = some (.iload_n 3, 1, 0, 0, 0) := rfl
theorem r237_218 : Rn 237 (218, [x0, x1, x2, some (.int i)], st, a, h) = Rn 237 (219, [x0, x1, x2, some (.int i)], .int i :: st, a, h) := Rn_go c237_218 rfl
theorem c237_219 : mcode 237 219 = some (.iconst 1, 1, 0, 0, 0) := rfl
theorem r237_219 : Rn 237 (219, [x0, x1, x2, x3], st, a, h) = Rn 237 (220, [x0, x1, x2, x3], .int (1 : Int32) :: st, a, h) := Rn_go c237_219 rfl
theorem c237_220 : mcode 237 220 = some (.iadd, 1, 0, 0, 0) := rfl
theorem r237_220 : Rn 237 (220, [x0, x1, x2, x3], .int j :: .int i :: st, a, h) = Rn 237 (221, [x0, x1, x2, x3], .int (i + j) :: st, a, h) := Rn_go c237_220 rfl
theorem c237_221 : mcode 237 221 = some (.iaload, 1, 0, 0, 0) := rfl
theorem r237_221 : Rn 237 (221, [x0, x1, x2, x3], .int i :: .ref q :: st, a, h) = Ki 237 222 [x0, x1, x2, x3] st a h (mld h q i false) := Rn_iald c237_221 rfl
theorem c237_222 : mcode 237 222 = some (.aload_n 0, 1, 0, 0, 0) := rfl
theorem r237_222 : Rn 237 (222, [some (.ref q), x1, x2, x3], st, a, h) = Rn 237 (223, [some (.ref q), x1, x2, x3], .ref q :: st, a, h) := Rn_go c237_222 rfl
theorem c237_223 : mcode 237 223 = some (.iload_n 3, 1, 0, 0, 0) := rfl
theorem r237_223 : Rn 237 (223, [x0, x1, x2, some (.int i)], st, a, h) = Rn 237 (224, [x0, x1, x2, some (.int i)], .int i :: st, a, h) := Rn_go c237_223 rfl
theorem c237_224 : mcode 237 224 = some (.iconst 2, 1, 0, 0, 0) := rfl
theorem r237_224 : Rn 237 (224, [x0, x1, x2, x3], st, a, h) = Rn 237 (225, [x0, x1, x2, x3], .int (2 : Int32) :: st, a, h) := Rn_go c237_224 rfl
theorem c237_225 : mcode 237 225 = some (.iadd, 1, 0, 0, 0) := rfl
theorem r237_225 : Rn 237 (225, [x0, x1, x2, x3], .int j :: .int i :: st, a, h) = Rn 237 (226, [x0, x1, x2, x3], .int (i + j) :: st, a, h) := Rn_go c237_225 rfl
theorem c237_226 : mcode 237 226 = some (.iaload, 1, 0, 0, 0) := rfl
theorem r237_226 : Rn 237 (226, [x0, x1, x2, x3], .int i :: .ref q :: st, a, h) = Ki 237 227 [x0, x1, x2, x3] st a h (mld h q i false) := Rn_iald c237_226 rfl
theorem c237_227 : mcode 237 227 = some (.aload_n 0, 1, 0, 0, 0) := rfl
theorem r237_227 : Rn 237 (227, [some (.ref q), x1, x2, x3], st, a, h) = Rn 237 (228, [some (.ref q), x1, x2, x3], .ref q :: st, a, h) := Rn_go c237_227 rfl
theorem c237_228 : mcode 237 228 = some (.iload_n 3, 1, 0, 0, 0) := rfl
theorem r237_228 : Rn 237 (228, [x0, x1, x2, some (.int i)], st, a, h) = Rn 237 (229, [x0, x1, x2, some (.int i)], .int i :: st, a, h) := Rn_go c237_228 rfl
theorem c237_229 : mcode 237 229 = some (.iconst 3, 1, 0, 0, 0) := rfl
theorem r237_229 : Rn 237 (229, [x0, x1, x2, x3], st, a, h) = Rn 237 (230, [x0, x1, x2, x3], .int (3 : Int32) :: st, a, h) := Rn_go c237_229 rfl
theorem c237_230 : mcode 237 230 = some (.iadd, 1, 0, 0, 0) := rfl
theorem r237_230 : Rn 237 (230, [x0, x1, x2, x3], .int j :: .int i :: st, a, h) = Rn 237 (231, [x0, x1, x2, x3], .int (i + j) :: st, a, h) := Rn_go c237_230 rfl
theorem c237_231 : mcode 237 231 = some (.iaload, 1, 0, 0, 0) := rfl
theorem r237_231 : Rn 237 (231, [x0, x1, x2, x3], .int i :: .ref q :: st, a, h) = Ki 237 232 [x0, x1, x2, x3] st a h (mld h q i false) := Rn_iald c237_231 rfl
theorem c237_232 : mcode 237 232 = some (.invokevirtual 13, 3, 63, 3, 5) := rfl
theorem r237_232 : Rn 237 (232, [x0, x1, x2, x3], [v2, v1, v0, .ref q], a, h) = if mis h q 5 = true then Bk 237 235 [x0, x1, x2, x3] [] (Ec 63 [.ref q, v0, v1, v2] a h) else none := Rn_call1 c237_232 rfl (Nat.le_of_ble_eq_true rfl) rfl rfl (Nat.le_of_ble_eq_true rfl)
theorem c237_235 : mcode 237 235 = some (.aload_n 2, 1, 0, 0, 0) := rfl
theorem r237_235 : Rn 237 (235, [x0, x1, some (.ref q), x3], st, a, h) = Rn 237 (236, [x0, x1, some (.ref q), x3], .ref q :: st, a, h) := Rn_go c237_235 rfl
theorem c237_236 : mcode 237 236 = some (.aload_n 0, 1, 0, 0, 0) := rfl
theorem r237_236 : Rn 237 (236, [some (.ref q), x1, x2, x3], st, a, h) = Rn 237 (237, [some (.ref q), x1, x2, x3], .ref q :: st, a, h) := Rn_go c237_236 rfl
theorem c237_237 : mcode 237 237 = some (.iload_n 3, 1, 0, 0, 0) := rfl
theorem r237_237 : Rn 237 (237, [x0, x1, x2, some (.int i)], st, a, h) = Rn 237 (238, [x0, x1, x2, some (.int i)], .int i :: st, a, h) := Rn_go c237_237 rfl
theorem c237_238 : mcode 237 238 = some (.iconst 1, 1, 0, 0, 0) := rfl
theorem r237_238 : Rn 237 (238, [x0, x1, x2, x3], st, a, h) = Rn 237 (239, [x0, x1, x2, x3], .int (1 : Int32) :: st, a, h) := Rn_go c237_238 rfl
theorem c237_239 : mcode 237 239 = some (.iadd, 1, 0, 0, 0) := rfl
theorem r237_239 : Rn 237 (239, [x0, x1, x2, x3], .int j :: .int i :: st, a, h) = Rn 237 (240, [x0, x1, x2, x3], .int (i + j) :: st, a, h) := Rn_go c237_239 rfl
theorem c237_240 : mcode 237 240 = some (.iaload, 1, 0, 0, 0) := rfl
theorem r237_240 : Rn 237 (240, [x0, x1, x2, x3], .int i :: .ref q :: st, a, h) = Ki 237 241 [x0, x1, x2, x3] st a h (mld h q i false) := Rn_iald c237_240 rfl
theorem c237_241 : mcode 237 241 = some (.aload_n 0, 1, 0, 0, 0) := rfl
theorem r237_241 : Rn 237 (241, [some (.ref q), x1, x2, x3], st, a, h) = Rn 237 (242, [some (.ref q), x1, x2, x3], .ref q :: st, a, h) := Rn_go c237_241 rfl
theorem c237_242 : mcode 237 242 = some (.iload_n 3, 1, 0, 0, 0) := rfl
theorem r237_242 : Rn 237 (242, [x0, x1, x2, some (.int i)], st, a, h) = Rn 237 (243, [x0, x1, x2, some (.int i)], .int i :: st, a, h) := Rn_go c237_242 rfl
theorem c237_243 : mcode 237 243 = some (.iconst 2, 1, 0, 0, 0) := rfl
theorem r237_243 : Rn 237 (243, [x0, x1, x2, x3], st, a, h) = Rn 237 (244, [x0, x1, x2, x3], .int (2 : Int32) :: st, a, h) := Rn_go c237_243 rfl
theorem c237_244 : mcode 237 244 = some (.iadd, 1, 0, 0, 0) := rfl
theorem r237_244 : Rn 237 (244, [x0, x1, x2, x3], .int j :: .int i :: st, a, h) = Rn 237 (245, [x0, x1, x2, x3], .int (i + j) :: st, a, h) := Rn_go c237_244 rfl
theorem c237_245 : mcode 237 245 = some (.iaload, 1, 0, 0, 0) := rfl
theorem r237_245 : Rn 237 (245, [x0, x1, x2, x3], .int i :: .ref q :: st, a, h) = Ki 237 246 [x0, x1, x2, x3] st a h (mld h q i false) := Rn_iald c237_245 rfl
theorem c237_246 : mcode 237 246 = some (.aload_n 0, 1, 0, 0, 0) := rfl
theorem r237_246 : Rn 237 (246, [some (.ref q), x1, x2, x3], st, a, h) = Rn 237 (247, [some (.ref q), x1, x2, x3], .ref q :: st, a, h) := Rn_go c237_246 rfl
theorem c237_247 : mcode 237 247 = some (.iload_n 3, 1, 0, 0, 0) := rfl
theorem r237_247 : Rn 237 (247, [x0, x1, x2, some (.int i)], st, a, h) = Rn 237 (248, [x0, x1, x2, some (.int i)], .int i :: st, a, h) := Rn_go c237_247 rfl
theorem c237_248 : mcode 237 248 = some (.iconst 3, 1, 0, 0, 0) := rfl
theorem r237_248 : Rn 237 (248, [x0, x1, x2, x3], st, a, h) = Rn 237 (249, [x0, x1, x2, x3], .int (3 : Int32) :: st, a, h) := Rn_go c237_248 rfl
theorem c237_249 : mcode 237 249 = some (.iadd, 1, 0, 0, 0) := rfl
theorem r237_249 : Rn 237 (249, [x0, x1, x2, x3], .int j :: .int i :: st, a, h) = Rn 237 (250, [x0, x1, x2, x3], .int (i + j) :: st, a, h) := Rn_go c237_249 rfl
theorem c237_250 : mcode 237 250 = some (.iaload, 1, 0, 0, 0) := rfl
theorem r237_250 : Rn 237 (250, [x0, x1, x2, x3], .int i :: .ref q :: st, a, h) = Ki 237 251 [x0, x1, x2, x3] st a h (mld h q i false) := Rn_iald c237_250 rfl
theorem c237_251 : mcode 237 251 = some (.invokevirtual 17, 3, 138, 3, 6) := rfl
theorem r237_251 : Rn 237 (251, [x0, x1, x2, x3], [v2, v1, v0, .ref q, .int i0], a, h) = if mis h q 6 = true then Bk 237 254 [x0, x1, x2, x3] [.int i0] (Ec 138 [.ref q, v0, v1, v2] a h) else none := Rn_call1 c237_251 rfl (Nat.le_of_ble_eq_true rfl) rfl rfl (Nat.le_of_ble_eq_true rfl)
theorem c237_254 : mcode 237 254 = some (.if_icmp .eq 1249, 3, 0, 0, 0) := rfl
theorem r237_254 : Rn 237 (254, [x0, x1, x2, x3], .int j :: .int i :: st, a, h) = if i = j then Rn 237 (1503, [x0, x1, x2, x3], st, a, h) else Rn 237 (257, [x0, x1, x2, x3], st, a, h) := Rn_icmp c237_254 mc_eq rfl rfl
theorem c237_257 : mcode 237 257 = some (.iconst 0, 1, 0, 0, 0) := rfl
theorem r237_257 : Rn 237 (257, [x0, x1, x2, x3], st, a, h) = Rn 237 (258, [x0, x1, x2, x3], .int (0 : Int32) :: st, a, h) := Rn_go c237_257 rfl
theorem c237_258 : mcode 237 258 = some (.ireturn, 1, 1, 0, 0) := rfl
theorem r237_258 : Rn 237 (258, [x0, x1, x2, x3], [.int i], a, h) = if mrt 1 i = true then some (some (.int i), a, h) else none := Rn_iretz c237_258
theorem c237_259 : mcode 237 259 = some (.aload_n 1, 1, 0, 0, 0) := rfl
theorem r237_259 : Rn 237 (259, [x0, some (.ref q), x2, x3], st, a, h) = Rn 237 (260, [x0, some (.ref q), x2, x3], .ref q :: st, a, h) := Rn_go c237_259 rfl
theorem c237_260 : mcode 237 260 = some (.aload_n 0, 1, 0, 0, 0) := rfl
theorem r237_260 : Rn 237 (260, [some (.ref q), x1, x2, x3], st, a, h) = Rn 237 (261, [some (.ref q), x1, x2, x3], .ref q :: st, a, h) := Rn_go c237_260 rfl
theorem c237_261 : mcode 237 261 = some (.iload_n 3, 1, 0, 0, 0) := rfl
theorem r237_261 : Rn 237 (261, [x0, x1, x2, some (.int i)], st, a, h) = Rn 237 (262, [x0, x1, x2, some (.int i)], .int i :: st, a, h) := Rn_go c237_261 rfl
theorem c237_262 : mcode 237 262 = some (.iconst 1, 1, 0, 0, 0) := rfl
theorem r237_262 : Rn 237 (262, [x0, x1, x2, x3], st, a, h) = Rn 237 (263, [x0, x1, x2, x3], .int (1 : Int32) :: st, a, h) := Rn_go c237_262 rfl
theorem c237_263 : mcode 237 263 = some (.iadd, 1, 0, 0, 0) := rfl
theorem r237_263 : Rn 237 (263, [x0, x1, x2, x3], .int j :: .int i :: st, a, h) = Rn 237 (264, [x0, x1, x2, x3], .int (i + j) :: st, a, h) := Rn_go c237_263 rfl
theorem c237_264 : mcode 237 264 = some (.iaload, 1, 0, 0, 0) := rfl
theorem r237_264 : Rn 237 (264, [x0, x1, x2, x3], .int i :: .ref q :: st, a, h) = Ki 237 265 [x0, x1, x2, x3] st a h (mld h q i false) := Rn_iald c237_264 rfl
theorem c237_265 : mcode 237 265 = some (.aload_n 0, 1, 0, 0, 0) := rfl
theorem r237_265 : Rn 237 (265, [some (.ref q), x1, x2, x3], st, a, h) = Rn 237 (266, [some (.ref q), x1, x2, x3], .ref q :: st, a, h) := Rn_go c237_265 rfl
theorem c237_266 : mcode 237 266 = some (.iload_n 3, 1, 0, 0, 0) := rfl
theorem r237_266 : Rn 237 (266, [x0, x1, x2, some (.int i)], st, a, h) = Rn 237 (267, [x0, x1, x2, some (.int i)], .int i :: st, a, h) := Rn_go c237_266 rfl
theorem c237_267 : mcode 237 267 = some (.iconst 2, 1, 0, 0, 0) := rfl
theorem r237_267 : Rn 237 (267, [x0, x1, x2, x3], st, a, h) = Rn 237 (268, [x0, x1, x2, x3], .int (2 : Int32) :: st, a, h) := Rn_go c237_267 rfl
theorem c237_268 : mcode 237 268 = some (.iadd, 1, 0, 0, 0) := rfl
theorem r237_268 : Rn 237 (268, [x0, x1, x2, x3], .int j :: .int i :: st, a, h) = Rn 237 (269, [x0, x1, x2, x3], .int (i + j) :: st, a, h) := Rn_go c237_268 rfl
theorem c237_269 : mcode 237 269 = some (.iaload, 1, 0, 0, 0) := rfl
theorem r237_269 : Rn 237 (269, [x0, x1, x2, x3], .int i :: .ref q :: st, a, h) = Ki 237 270 [x0, x1, x2, x3] st a h (mld h q i false) := Rn_iald c237_269 rfl
theorem c237_270 : mcode 237 270 = some (.invokevirtual 18, 3, 64, 2, 5) := rfl
theorem r237_270 : Rn 237 (270, [x0, x1, x2, x3], [v1, v0, .ref q], a, h) = if mis h q 5 = true then Bk 237 273 [x0, x1, x2, x3] [] (Ec 64 [.ref q, v0, v1] a h) else none := Rn_call1 c237_270 rfl (Nat.le_of_ble_eq_true rfl) rfl rfl (Nat.le_of_ble_eq_true rfl)
theorem c237_273 : mcode 237 273 = some (.aload_n 2, 1, 0, 0, 0) := rfl
theorem r237_273 : Rn 237 (273, [x0, x1, some (.ref q), x3], st, a, h) = Rn 237 (274, [x0, x1, some (.ref q), x3], .ref q :: st, a, h) := Rn_go c237_273 rfl
theorem c237_274 : mcode 237 274 = some (.aload_n 0, 1, 0, 0, 0) := rfl
theorem r237_274 : Rn 237 (274, [some (.ref q), x1, x2, x3], st, a, h) = Rn 237 (275, [some (.ref q), x1, x2, x3], .ref q :: st, a, h) := Rn_go c237_274 rfl
theorem c237_275 : mcode 237 275 = some (.iload_n 3, 1, 0, 0, 0) := rfl
theorem r237_275 : Rn 237 (275, [x0, x1, x2, some (.int i)], st, a, h) = Rn 237 (276, [x0, x1, x2, some (.int i)], .int i :: st, a, h) := Rn_go c237_275 rfl
theorem c237_276 : mcode 237 276 = some (.iconst 1, 1, 0, 0, 0) := rfl
theorem r237_276 : Rn 237 (276, [x0, x1, x2, x3], st, a, h) = Rn 237 (277, [x0, x1, x2, x3], .int (1 : Int32) :: st, a, h) := Rn_go c237_276 rfl
theorem c237_277 : mcode 237 277 = some (.iadd, 1, 0, 0, 0) := rfl
theorem r237_277 : Rn 237 (277, [x0, x1, x2, x3], .int j :: .int i :: st, a, h) = Rn 237 (278, [x0, x1, x2, x3], .int (i + j) :: st, a, h) := Rn_go c237_277 rfl
theorem c237_278 : mcode 237 278 = some (.iaload, 1, 0, 0, 0) := rfl
theorem r237_278 : Rn 237 (278, [x0, x1, x2, x3], .int i :: .ref q :: st, a, h) = Ki 237 279 [x0, x1, x2, x3] st a h (mld h q i false) := Rn_iald c237_278 rfl
theorem c237_279 : mcode 237 279 = some (.aload_n 0, 1, 0, 0, 0) := rfl
theorem r237_279 : Rn 237 (279, [some (.ref q), x1, x2, x3], st, a, h) = Rn 237 (280, [some (.ref q), x1, x2, x3], .ref q :: st, a, h) := Rn_go c237_279 rfl
theorem c237_280 : mcode 237 280 = some (.iload_n 3, 1, 0, 0, 0) := rfl
theorem r237_280 : Rn 237 (280, [x0, x1, x2, some (.int i)], st, a, h) = Rn 237 (281, [x0, x1, x2, some (.int i)], .int i :: st, a, h) := Rn_go c237_280 rfl
theorem c237_281 : mcode 237 281 = some (.iconst 2, 1, 0, 0, 0) := rfl
theorem r237_281 : Rn 237 (281, [x0, x1, x2, x3], st, a, h) = Rn 237 (282, [x0, x1, x2, x3], .int (2 : Int32) :: st, a, h) := Rn_go c237_281 rfl
theorem c237_282 : mcode 237 282 = some (.iadd, 1, 0, 0, 0) := rfl
theorem r237_282 : Rn 237 (282, [x0, x1, x2, x3], .int j :: .int i :: st, a, h) = Rn 237 (283, [x0, x1, x2, x3], .int (i + j) :: st, a, h) := Rn_go c237_282 rfl
theorem c237_283 : mcode 237 283 = some (.iaload, 1, 0, 0, 0) := rfl
theorem r237_283 : Rn 237 (283, [x0, x1, x2, x3], .int i :: .ref q :: st, a, h) = Ki 237 284 [x0, x1, x2, x3] st a h (mld h q i false) := Rn_iald c237_283 rfl
theorem c237_284 : mcode 237 284 = some (.invokevirtual 22, 3, 142, 2, 6) := rfl
theorem r237_284 : Rn 237 (284, [x0, x1, x2, x3], [v1, v0, .ref q, .int i0], a, h) = if mis h q 6 = true then Bk 237 287 [x0, x1, x2, x3] [.int i0] (Ec 142 [.ref q, v0, v1] a h) else none := Rn_call1 c237_284 rfl (Nat.le_of_ble_eq_true rfl) rfl rfl (Nat.le_of_ble_eq_true rfl)
theorem c237_287 : mcode 237 287 = some (.if_icmp .eq 1216, 3, 0, 0, 0) := rfl
theorem r237_287 : Rn 237 (287, [x0, x1, x2, x3], .int j :: .int i :: st, a, h) = if i = j then Rn 237 (1503, [x0, x1, x2, x3], st, a, h) else Rn 237 (290, [x0, x1, x2, x3], st, a, h) := Rn_icmp c237_287 mc_eq rfl rfl
theorem c237_290 : mcode 237 290 = some (.iconst 0, 1, 0, 0, 0) := rfl
theorem r237_290 : Rn 237 (290, [x0, x1, x2, x3], st, a, h) = Rn 237 (291, [x0, x1, x2, x3], .int (0 : Int32) :: st, a, h) := Rn_go c237_290 rfl
theorem c237_291 : mcode 237 291 = some (.ireturn, 1, 1, 0, 0) := rfl
theorem r237_291 : Rn 237 (291, [x0, x1, x2, x3], [.int i], a, h) = if mrt 1 i = true then some (some (.int i), a, h) else none := Rn_iretz c237_291
theorem c237_292 : mcode 237 292 = some (.aload_n 1, 1, 0, 0, 0) := rfl
theorem r237_292 : Rn 237 (292, [x0, some (.ref q), x2, x3], st, a, h) = Rn 237 (293, [x0, some (.ref q), x2, x3], .ref q :: st, a, h) := Rn_go c237_292 rfl
theorem c237_293 : mcode 237 293 = some (.aload_n 0, 1, 0, 0, 0) := rfl
theorem r237_293 : Rn 237 (293, [some (.ref q), x1, x2, x3], st, a, h) = Rn 237 (294, [some (.ref q), x1, x2, x3], .ref q :: st, a, h) := Rn_go c237_293 rfl
theorem c237_294 : mcode 237 294 = some (.iload_n 3, 1, 0, 0, 0) := rfl
theorem r237_294 : Rn 237 (294, [x0, x1, x2, some (.int i)], st, a, h) = Rn 237 (295, [x0, x1, x2, some (.int i)], .int i :: st, a, h) := Rn_go c237_294 rfl
theorem c237_295 : mcode 237 295 = some (.iconst 1, 1, 0, 0, 0) := rfl
theorem r237_295 : Rn 237 (295, [x0, x1, x2, x3], st, a, h) = Rn 237 (296, [x0, x1, x2, x3], .int (1 : Int32) :: st, a, h) := Rn_go c237_295 rfl
theorem c237_296 : mcode 237 296 = some (.iadd, 1, 0, 0, 0) := rfl
theorem r237_296 : Rn 237 (296, [x0, x1, x2, x3], .int j :: .int i :: st, a, h) = Rn 237 (297, [x0, x1, x2, x3], .int (i + j) :: st, a, h) := Rn_go c237_296 rfl
theorem c237_297 : mcode 237 297 = some (.iaload, 1, 0, 0, 0) := rfl
theorem r237_297 : Rn 237 (297, [x0, x1, x2, x3], .int i :: .ref q :: st, a, h) = Ki 237 298 [x0, x1, x2, x3] st a h (mld h q i false) := Rn_iald c237_297 rfl
theorem c237_298 : mcode 237 298 = some (.invokevirtual 23, 3, 65, 1, 5) := rfl
theorem r237_298 : Rn 237 (298, [x0, x1, x2, x3], [v0, .ref q], a, h) = if mis h q 5 = true then Bk 237 301 [x0, x1, x2, x3] [] (Ec 65 [.ref q, v0] a h) else none := Rn_call1 c237_298 rfl (Nat.le_of_ble_eq_true rfl) rfl rfl (Nat.le_of_ble_eq_true rfl)
theorem c237_301 : mcode 237 301 = some (.aload_n 2, 1, 0, 0, 0) := rfl
theorem r237_301 : Rn 237 (301, [x0, x1, some (.ref q), x3], st, a, h) = Rn 237 (302, [x0, x1, some (.ref q), x3], .ref q :: st, a, h) := Rn_go c237_301 rfl
theorem c237_302 : mcode 237 302 = some (.aload_n 0, 1, 0, 0, 0) := rfl
theorem r237_302 : Rn 237 (302, [some (.ref q), x1, x2, x3], st, a, h) = Rn 237 (303, [some (.ref q), x1, x2, x3], .ref q :: st, a, h) := Rn_go c237_302 rfl
theorem c237_303 : mcode 237 303 = some (.iload_n 3, 1, 0, 0, 0) := rfl
theorem r237_303 : Rn 237 (303, [x0, x1, x2, some (.int i)], st, a, h) = Rn 237 (304, [x0, x1, x2, some (.int i)], .int i :: st, a, h) := Rn_go c237_303 rfl
theorem c237_304 : mcode 237 304 = some (.iconst 1, 1, 0, 0, 0) := rfl
theorem r237_304 : Rn 237 (304, [x0, x1, x2, x3], st, a, h) = Rn 237 (305, [x0, x1, x2, x3], .int (1 : Int32) :: st, a, h) := Rn_go c237_304 rfl
theorem c237_305 : mcode 237 305 = some (.iadd, 1, 0, 0, 0) := rfl
theorem r237_305 : Rn 237 (305, [x0, x1, x2, x3], .int j :: .int i :: st, a, h) = Rn 237 (306, [x0, x1, x2, x3], .int (i + j) :: st, a, h) := Rn_go c237_305 rfl
theorem c237_306 : mcode 237 306 = some (.iaload, 1, 0, 0, 0) := rfl
theorem r237_306 : Rn 237 (306, [x0, x1, x2, x3], .int i :: .ref q :: st, a, h) = Ki 237 307 [x0, x1, x2, x3] st a h (mld h q i false) := Rn_iald c237_306 rfl
theorem c237_307 : mcode 237 307 = some (.invokevirtual 27, 3, 143, 1, 6) := rfl
theorem r237_307 : Rn 237 (307, [x0, x1, x2, x3], [v0, .ref q, .int i0], a, h) = if mis h q 6 = true then Bk 237 310 [x0, x1, x2, x3] [.int i0] (Ec 143 [.ref q, v0] a h) else none := Rn_call1 c237_307 rfl (Nat.le_of_ble_eq_true rfl) rfl rfl (Nat.le_of_ble_eq_true rfl)
theorem c237_310 : mcode 237 310 = some (.if_icmp .eq 1193, 3, 0, 0, 0) := rfl
theorem r237_310 : Rn 237 (310, [x0, x1, x2, x3], .int j :: .int i :: st, a, h) = if i = j then Rn 237 (1503, [x0, x1, x2, x3], st, a, h) else Rn 237 (313, [x0, x1, x2, x3], st, a, h) := Rn_icmp c237_310 mc_eq rfl rfl
theorem c237_313 : mcode 237 313 = some (.iconst 0, 1, 0, 0, 0) := rfl
theorem r237_313 : Rn 237 (313, [x0, x1, x2, x3], st, a, h) = Rn 237 (314, [x0, x1, x2, x3], .int (0 : Int32) :: st, a, h) := Rn_go c237_313 rfl
theorem c237_314 : mcode 237 314 = some (.ireturn, 1, 1, 0, 0) := rfl
theorem r237_314 : Rn 237 (314, [x0, x1, x2, x3], [.int i], a, h) = if mrt 1 i = true then some (some (.int i), a, h) else none := Rn_iretz c237_314
theorem c237_315 : mcode 237 315 = some (.aload_n 1, 1, 0, 0, 0) := rfl
theorem r237_315 : Rn 237 (315, [x0, some (.ref q), x2, x3], st, a, h) = Rn 237 (316, [x0, some (.ref q), x2, x3], .ref q :: st, a, h) := Rn_go c237_315 rfl
theorem c237_316 : mcode 237 316 = some (.aload_n 0, 1, 0, 0, 0) := rfl
theorem r237_316 : Rn 237 (316, [some (.ref q), x1, x2, x3], st, a, h) = Rn 237 (317, [some (.ref q), x1, x2, x3], .ref q :: st, a, h) := Rn_go c237_316 rfl
theorem c237_317 : mcode 237 317 = some (.iload_n 3, 1, 0, 0, 0) := rfl
theorem r237_317 : Rn 237 (317, [x0, x1, x2, some (.int i)], st, a, h) = Rn 237 (318, [x0, x1, x2, some (.int i)], .int i :: st, a, h) := Rn_go c237_317 rfl
theorem c237_318 : mcode 237 318 = some (.iconst 1, 1, 0, 0, 0) := rfl
theorem r237_318 : Rn 237 (318, [x0, x1, x2, x3], st, a, h) = Rn 237 (319, [x0, x1, x2, x3], .int (1 : Int32) :: st, a, h) := Rn_go c237_318 rfl
theorem c237_319 : mcode 237 319 = some (.iadd, 1, 0, 0, 0) := rfl
theorem r237_319 : Rn 237 (319, [x0, x1, x2, x3], .int j :: .int i :: st, a, h) = Rn 237 (320, [x0, x1, x2, x3], .int (i + j) :: st, a, h) := Rn_go c237_319 rfl
theorem c237_320 : mcode 237 320 = some (.iaload, 1, 0, 0, 0) := rfl
theorem r237_320 : Rn 237 (320, [x0, x1, x2, x3], .int i :: .ref q :: st, a, h) = Ki 237 321 [x0, x1, x2, x3] st a h (mld h q i false) := Rn_iald c237_320 rfl
theorem c237_321 : mcode 237 321 = some (.aload_n 0, 1, 0, 0, 0) := rfl
theorem r237_321 : Rn 237 (321, [some (.ref q), x1, x2, x3], st, a, h) = Rn 237 (322, [some (.ref q), x1, x2, x3], .ref q :: st, a, h) := Rn_go c237_321 rfl
theorem c237_322 : mcode 237 322 = some (.iload_n 3, 1, 0, 0, 0) := rfl
theorem r237_322 : Rn 237 (322, [x0, x1, x2, some (.int i)], st, a, h) = Rn 237 (323, [x0, x1, x2, some (.int i)], .int i :: st, a, h) := Rn_go c237_322 rfl
theorem c237_323 : mcode 237 323 = some (.iconst 2, 1, 0, 0, 0) := rfl
theorem r237_323 : Rn 237 (323, [x0, x1, x2, x3], st, a, h) = Rn 237 (324, [x0, x1, x2, x3], .int (2 : Int32) :: st, a, h) := Rn_go c237_323 rfl
theorem c237_324 : mcode 237 324 = some (.iadd, 1, 0, 0, 0) := rfl
theorem r237_324 : Rn 237 (324, [x0, x1, x2, x3], .int j :: .int i :: st, a, h) = Rn 237 (325, [x0, x1, x2, x3], .int (i + j) :: st, a, h) := Rn_go c237_324 rfl
theorem c237_325 : mcode 237 325 = some (.iaload, 1, 0, 0, 0) := rfl
theorem r237_325 : Rn 237 (325, [x0, x1, x2, x3], .int i :: .ref q :: st, a, h) = Ki 237 326 [x0, x1, x2, x3] st a h (mld h q i false) := Rn_iald c237_325 rfl
theorem c237_326 : mcode 237 326 = some (.invokevirtual 28, 3, 66, 2, 5) := rfl
theorem r237_326 : Rn 237 (326, [x0, x1, x2, x3], [v1, v0, .ref q], a, h) = if mis h q 5 = true then Bk 237 329 [x0, x1, x2, x3] [] (Ec 66 [.ref q, v0, v1] a h) else none := Rn_call1 c237_326 rfl (Nat.le_of_ble_eq_true rfl) rfl rfl (Nat.le_of_ble_eq_true rfl)
theorem c237_329 : mcode 237 329 = some (.aload_n 2, 1, 0, 0, 0) := rfl
theorem r237_329 : Rn 237 (329, [x0, x1, some (.ref q), x3], st, a, h) = Rn 237 (330, [x0, x1, some (.ref q), x3], .ref q :: st, a, h) := Rn_go c237_329 rfl
theorem c237_330 : mcode 237 330 = some (.aload_n 0, 1, 0, 0, 0) := rfl
theorem r237_330 : Rn 237 (330, [some (.ref q), x1, x2, x3], st, a, h) = Rn 237 (331, [some (.ref q), x1, x2, x3], .ref q :: st, a, h) := Rn_go c237_330 rfl
theorem c237_331 : mcode 237 331 = some (.iload_n 3, 1, 0, 0, 0) := rfl
theorem r237_331 : Rn 237 (331, [x0, x1, x2, some (.int i)], st, a, h) = Rn 237 (332, [x0, x1, x2, some (.int i)], .int i :: st, a, h) := Rn_go c237_331 rfl
theorem c237_332 : mcode 237 332 = some (.iconst 1, 1, 0, 0, 0) := rfl
theorem r237_332 : Rn 237 (332, [x0, x1, x2, x3], st, a, h) = Rn 237 (333, [x0, x1, x2, x3], .int (1 : Int32) :: st, a, h) := Rn_go c237_332 rfl
theorem c237_333 : mcode 237 333 = some (.iadd, 1, 0, 0, 0) := rfl
theorem r237_333 : Rn 237 (333, [x0, x1, x2, x3], .int j :: .int i :: st, a, h) = Rn 237 (334, [x0, x1, x2, x3], .int (i + j) :: st, a, h) := Rn_go c237_333 rfl
theorem c237_334 : mcode 237 334 = some (.iaload, 1, 0, 0, 0) := rfl
theorem r237_334 : Rn 237 (334, [x0, x1, x2, x3], .int i :: .ref q :: st, a, h) = Ki 237 335 [x0, x1, x2, x3] st a h (mld h q i false) := Rn_iald c237_334 rfl
theorem c237_335 : mcode 237 335 = some (.aload_n 0, 1, 0, 0, 0) := rfl
theorem r237_335 : Rn 237 (335, [some (.ref q), x1, x2, x3], st, a, h) = Rn 237 (336, [some (.ref q), x1, x2, x3], .ref q :: st, a, h) := Rn_go c237_335 rfl
theorem c237_336 : mcode 237 336 = some (.iload_n 3, 1, 0, 0, 0) := rfl
theorem r237_336 : Rn 237 (336, [x0, x1, x2, some (.int i)], st, a, h) = Rn 237 (337, [x0, x1, x2, some (.int i)], .int i :: st, a, h) := Rn_go c237_336 rfl
theorem c237_337 : mcode 237 337 = some (.iconst 2, 1, 0, 0, 0) := rfl
theorem r237_337 : Rn 237 (337, [x0, x1, x2, x3], st, a, h) = Rn 237 (338, [x0, x1, x2, x3], .int (2 : Int32) :: st, a, h) := Rn_go c237_337 rfl
theorem c237_338 : mcode 237 338 = some (.iadd, 1, 0, 0, 0) := rfl
theorem r237_338 : Rn 237 (338, [x0, x1, x2, x3], .int j :: .int i :: st, a, h) = Rn 237 (339, [x0, x1, x2, x3], .int (i + j) :: st, a, h) := Rn_go c237_338 rfl
theorem c237_339 : mcode 237 339 = some (.iaload, 1, 0, 0, 0) := rfl
theorem r237_339 : Rn 237 (339, [x0, x1, x2, x3], .int i :: .ref q :: st, a, h) = Ki 237 340 [x0, x1, x2, x3] st a h (mld h q i false) := Rn_iald c237_339 rfl
theorem c237_340 : mcode 237 340 = some (.invokevirtual 31, 3, 145, 2, 6) := rfl
theorem r237_340 : Rn 237 (340, [x0, x1, x2, x3], [v1, v0, .ref q, .int i0], a, h) = if mis h q 6 = true then Bk 237 343 [x0, x1, x2, x3] [.int i0] (Ec 145 [.ref q, v0, v1] a h) else none := Rn_call1 c237_340 rfl (Nat.le_of_ble_eq_true rfl) rfl rfl (Nat.le_of_ble_eq_true rfl)
theorem c237_343 : mcode 237 343 = some (.if_icmp .eq 1160, 3, 0, 0, 0) := rfl
theorem r237_343 : Rn 237 (343, [x0, x1, x2, x3], .int j :: .int i :: st, a, h) = if i = j then Rn 237 (1503, [x0, x1, x2, x3], st, a, h) else Rn 237 (346, [x0, x1, x2, x3], st, a, h) := Rn_icmp c237_343 mc_eq rfl rfl
theorem c237_346 : mcode 237 346 = some (.iconst 0, 1, 0, 0, 0) := rfl
theorem r237_346 : Rn 237 (346, [x0, x1, x2, x3], st, a, h) = Rn 237 (347, [x0, x1, x2, x3], .int (0 : Int32) :: st, a, h) := Rn_go c237_346 rfl
theorem c237_347 : mcode 237 347 = some (.ireturn, 1, 1, 0, 0) := rfl
theorem r237_347 : Rn 237 (347, [x0, x1, x2, x3], [.int i], a, h) = if mrt 1 i = true then some (some (.int i), a, h) else none := Rn_iretz c237_347
theorem c237_348 : mcode 237 348 = some (.aload_n 1, 1, 0, 0, 0) := rfl
theorem r237_348 : Rn 237 (348, [x0, some (.ref q), x2, x3], st, a, h) = Rn 237 (349, [x0, some (.ref q), x2, x3], .ref q :: st, a, h) := Rn_go c237_348 rfl
theorem c237_349 : mcode 237 349 = some (.aload_n 0, 1, 0, 0, 0) := rfl
theorem r237_349 : Rn 237 (349, [some (.ref q), x1, x2, x3], st, a, h) = Rn 237 (350, [some (.ref q), x1, x2, x3], .ref q :: st, a, h) := Rn_go c237_349 rfl
theorem c237_350 : mcode 237 350 = some (.iload_n 3, 1, 0, 0, 0) := rfl
theorem r237_350 : Rn 237 (350, [x0, x1, x2, some (.int i)], st, a, h) = Rn 237 (351, [x0, x1, x2, some (.int i)], .int i :: st, a, h) := Rn_go c237_350 rfl
theorem c237_351 : mcode 237 351 = some (.iconst 1, 1, 0, 0, 0) := rfl
theorem r237_351 : Rn 237 (351, [x0, x1, x2, x3], st, a, h) = Rn 237 (352, [x0, x1, x2, x3], .int (1 : Int32) :: st, a, h) := Rn_go c237_351 rfl
theorem c237_352 : mcode 237 352 = some (.iadd, 1, 0, 0, 0) := rfl
theorem r237_352 : Rn 237 (352, [x0, x1, x2, x3], .int j :: .int i :: st, a, h) = Rn 237 (353, [x0, x1, x2, x3], .int (i + j) :: st, a, h) := Rn_go c237_352 rfl
theorem c237_353 : mcode 237 353 = some (.iaload, 1, 0, 0, 0) := rfl
theorem r237_353 : Rn 237 (353, [x0, x1, x2, x3], .int i :: .ref q :: st, a, h) = Ki 237 354 [x0, x1, x2, x3] st a h (mld h q i false) := Rn_iald c237_353 rfl
theorem c237_354 : mcode 237 354 = some (.aload_n 0, 1, 0, 0, 0) := rfl
theorem r237_354 : Rn 237 (354, [some (.ref q), x1, x2, x3], st, a, h) = Rn 237 (355, [some (.ref q), x1, x2, x3], .ref q :: st, a, h) := Rn_go c237_354 rfl
theorem c237_355 : mcode 237 355 = some (.iload_n 3, 1, 0, 0, 0) := rfl
theorem r237_355 : Rn 237 (355, [x0, x1, x2, some (.int i)], st, a, h) = Rn 237 (356, [x0, x1, x2, some (.int i)], .int i :: st, a, h) := Rn_go c237_355 rfl
theorem c237_356 : mcode 237 356 = some (.iconst 2, 1, 0, 0, 0) := rfl
theorem r237_356 : Rn 237 (356, [x0, x1, x2, x3], st, a, h) = Rn 237 (357, [x0, x1, x2, x3], .int (2 : Int32) :: st, a, h) := Rn_go c237_356 rfl
theorem c237_357 : mcode 237 357 = some (.iadd, 1, 0, 0, 0) := rfl
theorem r237_357 : Rn 237 (357, [x0, x1, x2, x3], .int j :: .int i :: st, a, h) = Rn 237 (358, [x0, x1, x2, x3], .int (i + j) :: st, a, h) := Rn_go c237_357 rfl
theorem c237_358 : mcode 237 358 = some (.iaload, 1, 0, 0, 0) := rfl
theorem r237_358 : Rn 237 (358, [x0, x1, x2, x3], .int i :: .ref q :: st, a, h) = Ki 237 359 [x0, x1, x2, x3] st a h (mld h q i false) := Rn_iald c237_358 rfl
theorem c237_359 : mcode 237 359 = some (.invokevirtual 32, 3, 67, 2, 5) := rfl
theorem r237_359 : Rn 237 (359, [x0, x1, x2, x3], [v1, v0, .ref q], a, h) = if mis h q 5 = true then Bk 237 362 [x0, x1, x2, x3] [] (Ec 67 [.ref q, v0, v1] a h) else none := Rn_call1 c237_359 rfl (Nat.le_of_ble_eq_true rfl) rfl rfl (Nat.le_of_ble_eq_true rfl)
theorem c237_362 : mcode 237 362 = some (.aload_n 2, 1, 0, 0, 0) := rfl
theorem r237_362 : Rn 237 (362, [x0, x1, some (.ref q), x3], st, a, h) = Rn 237 (363, [x0, x1, some (.ref q), x3], .ref q :: st, a, h) := Rn_go c237_362 rfl
theorem c237_363 : mcode 237 363 = some (.aload_n 0, 1, 0, 0, 0) := rfl
theorem r237_363 : Rn 237 (363, [some (.ref q), x1, x2, x3], st, a, h) = Rn 237 (364, [some (.ref q), x1, x2, x3], .ref q :: st, a, h) := Rn_go c237_363 rfl
theorem c237_364 : mcode 237 364 = some (.iload_n 3, 1, 0, 0, 0) := rfl
theorem r237_364 : Rn 237 (364, [x0, x1, x2, some (.int i)], st, a, h) = Rn 237 (365, [x0, x1, x2, some (.int i)], .int i :: st, a, h) := Rn_go c237_364 rfl
theorem c237_365 : mcode 237 365 = some (.iconst 1, 1, 0, 0, 0) := rfl
theorem r237_365 : Rn 237 (365, [x0, x1, x2, x3], st, a, h) = Rn 237 (366, [x0, x1, x2, x3], .int (1 : Int32) :: st, a, h) := Rn_go c237_365 rfl
theorem c237_366 : mcode 237 366 = some (.iadd, 1, 0, 0, 0) := rfl
theorem r237_366 : Rn 237 (366, [x0, x1, x2, x3], .int j :: .int i :: st, a, h) = Rn 237 (367, [x0, x1, x2, x3], .int (i + j) :: st, a, h) := Rn_go c237_366 rfl
theorem c237_367 : mcode 237 367 = some (.iaload, 1, 0, 0, 0) := rfl
theorem r237_367 : Rn 237 (367, [x0, x1, x2, x3], .int i :: .ref q :: st, a, h) = Ki 237 368 [x0, x1, x2, x3] st a h (mld h q i false) := Rn_iald c237_367 rfl
theorem c237_368 : mcode 237 368 = some (.aload_n 0, 1, 0, 0, 0) := rfl
theorem r237_368 : Rn 237 (368, [some (.ref q), x1, x2, x3], st, a, h) = Rn 237 (369, [some (.ref q), x1, x2, x3], .ref q :: st, a, h) := Rn_go c237_368 rfl
theorem c237_369 : mcode 237 369 = some (.iload_n 3, 1, 0, 0, 0) := rfl
theorem r237_369 : Rn 237 (369, [x0, x1, x2, some (.int i)], st, a, h) = Rn 237 (370, [x0, x1, x2, some (.int i)], .int i :: st, a, h) := Rn_go c237_369 rfl
theorem c237_370 : mcode 237 370 = some (.iconst 2, 1, 0, 0, 0) := rfl
theorem r237_370 : Rn 237 (370, [x0, x1, x2, x3], st, a, h) = Rn 237 (371, [x0, x1, x2, x3], .int (2 : Int32) :: st, a, h) := Rn_go c237_370 rfl
theorem c237_371 : mcode 237 371 = some (.iadd, 1, 0, 0, 0) := rfl
theorem r237_371 : Rn 237 (371, [x0, x1, x2, x3], .int j :: .int i :: st, a, h) = Rn 237 (372, [x0, x1, x2, x3], .int (i + j) :: st, a, h) := Rn_go c237_371 rfl
theorem c237_372 : mcode 237 372 = some (.iaload, 1, 0, 0, 0) := rfl
theorem r237_372 : Rn 237 (372, [x0, x1, x2, x3], .int i :: .ref q :: st, a, h) = Ki 237 373 [x0, x1, x2, x3] st a h (mld h q i false) := Rn_iald c237_372 rfl
theorem c237_373 : mcode 237 373 = some (.invokevirtual 35, 3, 147, 2, 6) := rfl
theorem r237_373 : Rn 237 (373, [x0, x1, x2, x3], [v1, v0, .ref q, .int i0], a, h) = if mis h q 6 = true then Bk 237 376 [x0, x1, x2, x3] [.int i0] (Ec 147 [.ref q, v0, v1] a h) else none := Rn_call1 c237_373 rfl (Nat.le_of_ble_eq_true rfl) rfl rfl (Nat.le_of_ble_eq_true rfl)
theorem c237_376 : mcode 237 376 = some (.if_icmp .eq 1127, 3, 0, 0, 0) := rfl
theorem r237_376 : Rn 237 (376, [x0, x1, x2, x3], .int j :: .int i :: st, a, h) = if i = j then Rn 237 (1503, [x0, x1, x2, x3], st, a, h) else Rn 237 (379, [x0, x1, x2, x3], st, a, h) := Rn_icmp c237_376 mc_eq rfl rfl
theorem c237_379 : mcode 237 379 = some (.iconst 0, 1, 0, 0, 0) := rfl
theorem r237_379 : Rn 237 (379, [x0, x1, x2, x3], st, a, h) = Rn 237 (380, [x0, x1, x2, x3], .int (0 : Int32) :: st, a, h) := Rn_go c237_379 rfl
theorem c237_380 : mcode 237 380 = some (.ireturn, 1, 1, 0, 0) := rfl
theorem r237_380 : Rn 237 (380, [x0, x1, x2, x3], [.int i], a, h) = if mrt 1 i = true then some (some (.int i), a, h) else none := Rn_iretz c237_380
theorem c237_381 : mcode 237 381 = some (.aload_n 1, 1, 0, 0, 0) := rfl
theorem r237_381 : Rn 237 (381, [x0, some (.ref q), x2, x3], st, a, h) = Rn 237 (382, [x0, some (.ref q), x2, x3], .ref q :: st, a, h) := Rn_go c237_381 rfl
theorem c237_382 : mcode 237 382 = some (.aload_n 0, 1, 0, 0, 0) := rfl
theorem r237_382 : Rn 237 (382, [some (.ref q), x1, x2, x3], st, a, h) = Rn 237 (383, [some (.ref q), x1, x2, x3], .ref q :: st, a, h) := Rn_go c237_382 rfl
theorem c237_383 : mcode 237 383 = some (.iload_n 3, 1, 0, 0, 0) := rfl
theorem r237_383 : Rn 237 (383, [x0, x1, x2, some (.int i)], st, a, h) = Rn 237 (384, [x0, x1, x2, some (.int i)], .int i :: st, a, h) := Rn_go c237_383 rfl
theorem c237_384 : mcode 237 384 = some (.iconst 1, 1, 0, 0, 0) := rfl
theorem r237_384 : Rn 237 (384, [x0, x1, x2, x3], st, a, h) = Rn 237 (385, [x0, x1, x2, x3], .int (1 : Int32) :: st, a, h) := Rn_go c237_384 rfl
theorem c237_385 : mcode 237 385 = some (.iadd, 1, 0, 0, 0) := rfl
theorem r237_385 : Rn 237 (385, [x0, x1, x2, x3], .int j :: .int i :: st, a, h) = Rn 237 (386, [x0, x1, x2, x3], .int (i + j) :: st, a, h) := Rn_go c237_385 rfl
theorem c237_386 : mcode 237 386 = some (.iaload, 1, 0, 0, 0) := rfl
theorem r237_386 : Rn 237 (386, [x0, x1, x2, x3], .int i :: .ref q :: st, a, h) = Ki 237 387 [x0, x1, x2, x3] st a h (mld h q i false) := Rn_iald c237_386 rfl
theorem c237_387 : mcode 237 387 = some (.aload_n 0, 1, 0, 0, 0) := rfl
theorem r237_387 : Rn 237 (387, [some (.ref q), x1, x2, x3], st, a, h) = Rn 237 (388, [some (.ref q), x1, x2, x3], .ref q :: st, a, h) := Rn_go c237_387 rfl
theorem c237_388 : mcode 237 388 = some (.iload_n 3, 1, 0, 0, 0) := rfl
theorem r237_388 : Rn 237 (388, [x0, x1, x2, some (.int i)], st, a, h) = Rn 237 (389, [x0, x1, x2, some (.int i)], .int i :: st, a, h) := Rn_go c237_388 rfl
theorem c237_389 : mcode 237 389 = some (.iconst 2, 1, 0, 0, 0) := rfl
theorem r237_389 : Rn 237 (389, [x0, x1, x2, x3], st, a, h) = Rn 237 (390, [x0, x1, x2, x3], .int (2 : Int32) :: st, a, h) := Rn_go c237_389 rfl
theorem c237_390 : mcode 237 390 = some (.iadd, 1, 0, 0, 0) := rfl
theorem r237_390 : Rn 237 (390, [x0, x1, x2, x3], .int j :: .int i :: st, a, h) = Rn 237 (391, [x0, x1, x2, x3], .int (i + j) :: st, a, h) := Rn_go c237_390 rfl
theorem c237_391 : mcode 237 391 = some (.iaload, 1, 0, 0, 0) := rfl
theorem r237_391 : Rn 237 (391, [x0, x1, x2, x3], .int i :: .ref q :: st, a, h) = Ki 237 392 [x0, x1, x2, x3] st a h (mld h q i false) := Rn_iald c237_391 rfl
theorem c237_392 : mcode 237 392 = some (.invokevirtual 36, 3, 68, 2, 5) := rfl
theorem r237_392 : Rn 237 (392, [x0, x1, x2, x3], [v1, v0, .ref q], a, h) = if mis h q 5 = true then Bk 237 395 [x0, x1, x2, x3] [] (Ec 68 [.ref q, v0, v1] a h) else none := Rn_call1 c237_392 rfl (Nat.le_of_ble_eq_true rfl) rfl rfl (Nat.le_of_ble_eq_true rfl)
theorem c237_395 : mcode 237 395 = some (.aload_n 2, 1, 0, 0, 0) := rfl
theorem r237_395 : Rn 237 (395, [x0, x1, some (.ref q), x3], st, a, h) = Rn 237 (396, [x0, x1, some (.ref q), x3], .ref q :: st, a, h) := Rn_go c237_395 rfl
theorem c237_396 : mcode 237 396 = some (.aload_n 0, 1, 0, 0, 0) := rfl
theorem r237_396 : Rn 237 (396, [some (.ref q), x1, x2, x3], st, a, h) = Rn 237 (397, [some (.ref q), x1, x2, x3], .ref q :: st, a, h) := Rn_go c237_396 rfl
theorem c237_397 : mcode 237 397 = some (.iload_n 3, 1, 0, 0, 0) := rfl
theorem r237_397 : Rn 237 (397, [x0, x1, x2, some (.int i)], st, a, h) = Rn 237 (398, [x0, x1, x2, some (.int i)], .int i :: st, a, h) := Rn_go c237_397 rfl
theorem c237_398 : mcode 237 398 = some (.iconst 1, 1, 0, 0, 0) := rfl
theorem r237_398 : Rn 237 (398, [x0, x1, x2, x3], st, a, h) = Rn 237 (399, [x0, x1, x2, x3], .int (1 : Int32) :: st, a, h) := Rn_go c237_398 rfl
theorem c237_399 : mcode 237 399 = some (.iadd, 1, 0, 0, 0) := rfl
theorem r237_399 : Rn 237 (399, [x0, x1, x2, x3], .int j :: .int i :: st, a, h) = Rn 237 (400, [x0, x1, x2, x3], .int (i + j) :: st, a, h) := Rn_go c237_399 rfl
theorem c237_400 : mcode 237 400 = some (.iaload, 1, 0, 0, 0) := rfl
theorem r237_400 : Rn 237 (400, [x0, x1, x2, x3], .int i :: .ref q :: st, a, h) = Ki 237 401 [x0, x1, x2, x3] st a h (mld h q i false) := Rn_iald c237_400 rfl
theorem c237_401 : mcode 237 401 = some (.aload_n 0, 1, 0, 0, 0) := rfl
theorem r237_401 : Rn 237 (401, [some (.ref q), x1, x2, x3], st, a, h) = Rn 237 (402, [some (.ref q), x1, x2, x3], .ref q :: st, a, h) := Rn_go c237_401 rfl
theorem c237_402 : mcode 237 402 = some (.iload_n 3, 1, 0, 0, 0) := rfl
theorem r237_402 : Rn 237 (402, [x0, x1, x2, some (.int i)], st, a, h) = Rn 237 (403, [x0, x1, x2, some (.int i)], .int i :: st, a, h) := Rn_go c237_402 rfl
theorem c237_403 : mcode 237 403 = some (.iconst 2, 1, 0, 0, 0) := rfl
theorem r237_403 : Rn 237 (403, [x0, x1, x2, x3], st, a, h) = Rn 237 (404, [x0, x1, x2, x3], .int (2 : Int32) :: st, a, h) := Rn_go c237_403 rfl
theorem c237_404 : mcode 237 404 = some (.iadd, 1, 0, 0, 0) := rfl
theorem r237_404 : Rn 237 (404, [x0, x1, x2, x3], .int j :: .int i :: st, a, h) = Rn 237 (405, [x0, x1, x2, x3], .int (i + j) :: st, a, h) := Rn_go c237_404 rfl
theorem c237_405 : mcode 237 405 = some (.iaload, 1, 0, 0, 0) := rfl
theorem r237_405 : Rn 237 (405, [x0, x1, x2, x3], .int i :: .ref q :: st, a, h) = Ki 237 406 [x0, x1, x2, x3] st a h (mld h q i false) := Rn_iald c237_405 rfl
theorem c237_406 : mcode 237 406 = some (.invokevirtual 39, 3, 151, 2, 6) := rfl
theorem r237_406 : Rn 237 (406, [x0, x1, x2, x3], [v1, v0, .ref q, .int i0], a, h) = if mis h q 6 = true then Bk 237 409 [x0, x1, x2, x3] [.int i0] (Ec 151 [.ref q, v0, v1] a h) else none := Rn_call1 c237_406 rfl (Nat.le_of_ble_eq_true rfl) rfl rfl (Nat.le_of_ble_eq_true rfl)
theorem c237_409 : mcode 237 409 = some (.if_icmp .eq 1094, 3, 0, 0, 0) := rfl
theorem r237_409 : Rn 237 (409, [x0, x1, x2, x3], .int j :: .int i :: st, a, h) = if i = j then Rn 237 (1503, [x0, x1, x2, x3], st, a, h) else Rn 237 (412, [x0, x1, x2, x3], st, a, h) := Rn_icmp c237_409 mc_eq rfl rfl
theorem c237_412 : mcode 237 412 = some (.iconst 0, 1, 0, 0, 0) := rfl
theorem r237_412 : Rn 237 (412, [x0, x1, x2, x3], st, a, h) = Rn 237 (413, [x0, x1, x2, x3], .int (0 : Int32) :: st, a, h) := Rn_go c237_412 rfl
theorem c237_413 : mcode 237 413 = some (.ireturn, 1, 1, 0, 0) := rfl
theorem r237_413 : Rn 237 (413, [x0, x1, x2, x3], [.int i], a, h) = if mrt 1 i = true then some (some (.int i), a, h) else none := Rn_iretz c237_413
theorem c237_414 : mcode 237 414 = some (.aload_n 1, 1, 0, 0, 0) := rfl
theorem r237_414 : Rn 237 (414, [x0, some (.ref q), x2, x3], st, a, h) = Rn 237 (415, [x0, some (.ref q), x2, x3], .ref q :: st, a, h) := Rn_go c237_414 rfl
theorem c237_415 : mcode 237 415 = some (.aload_n 0, 1, 0, 0, 0) := rfl
theorem r237_415 : Rn 237 (415, [some (.ref q), x1, x2, x3], st, a, h) = Rn 237 (416, [some (.ref q), x1, x2, x3], .ref q :: st, a, h) := Rn_go c237_415 rfl
theorem c237_416 : mcode 237 416 = some (.iload_n 3, 1, 0, 0, 0) := rfl
theorem r237_416 : Rn 237 (416, [x0, x1, x2, some (.int i)], st, a, h) = Rn 237 (417, [x0, x1, x2, some (.int i)], .int i :: st, a, h) := Rn_go c237_416 rfl
theorem c237_417 : mcode 237 417 = some (.iconst 1, 1, 0, 0, 0) := rfl
theorem r237_417 : Rn 237 (417, [x0, x1, x2, x3], st, a, h) = Rn 237 (418, [x0, x1, x2, x3], .int (1 : Int32) :: st, a, h) := Rn_go c237_417 rfl
theorem c237_418 : mcode 237 418 = some (.iadd, 1, 0, 0, 0) := rfl
theorem r237_418 : Rn 237 (418, [x0, x1, x2, x3], .int j :: .int i :: st, a, h) = Rn 237 (419, [x0, x1, x2, x3], .int (i + j) :: st, a, h) := Rn_go c237_418 rfl
theorem c237_419 : mcode 237 419 = some (.iaload, 1, 0, 0, 0) := rfl
theorem r237_419 : Rn 237 (419, [x0, x1, x2, x3], .int i :: .ref q :: st, a, h) = Ki 237 420 [x0, x1, x2, x3] st a h (mld h q i false) := Rn_iald c237_419 rfl
theorem c237_420 : mcode 237 420 = some (.aload_n 0, 1, 0, 0, 0) := rfl
theorem r237_420 : Rn 237 (420, [some (.ref q), x1, x2, x3], st, a, h) = Rn 237 (421, [some (.ref q), x1, x2, x3], .ref q :: st, a, h) := Rn_go c237_420 rfl
theorem c237_421 : mcode 237 421 = some (.iload_n 3, 1, 0, 0, 0) := rfl
theorem r237_421 : Rn 237 (421, [x0, x1, x2, some (.int i)], st, a, h) = Rn 237 (422, [x0, x1, x2, some (.int i)], .int i :: st, a, h) := Rn_go c237_421 rfl
theorem c237_422 : mcode 237 422 = some (.iconst 2, 1, 0, 0, 0) := rfl
theorem r237_422 : Rn 237 (422, [x0, x1, x2, x3], st, a, h) = Rn 237 (423, [x0, x1, x2, x3], .int (2 : Int32) :: st, a, h) := Rn_go c237_422 rfl
theorem c237_423 : mcode 237 423 = some (.iadd, 1, 0, 0, 0) := rfl
theorem r237_423 : Rn 237 (423, [x0, x1, x2, x3], .int j :: .int i :: st, a, h) = Rn 237 (424, [x0, x1, x2, x3], .int (i + j) :: st, a, h) := Rn_go c237_423 rfl
theorem c237_424 : mcode 237 424 = some (.iaload, 1, 0, 0, 0) := rfl
theorem r237_424 : Rn 237 (424, [x0, x1, x2, x3], .int i :: .ref q :: st, a, h) = Ki 237 425 [x0, x1, x2, x3] st a h (mld h q i false) := Rn_iald c237_424 rfl
theorem c237_425 : mcode 237 425 = some (.aload_n 0, 1, 0, 0, 0) := rfl
theorem r237_425 : Rn 237 (425, [some (.ref q), x1, x2, x3], st, a, h) = Rn 237 (426, [some (.ref q), x1, x2, x3], .ref q :: st, a, h) := Rn_go c237_425 rfl
theorem c237_426 : mcode 237 426 = some (.iload_n 3, 1, 0, 0, 0) := rfl
theorem r237_426 : Rn 237 (426, [x0, x1, x2, some (.int i)], st, a, h) = Rn 237 (427, [x0, x1, x2, some (.int i)], .int i :: st, a, h) := Rn_go c237_426 rfl
theorem c237_427 : mcode 237 427 = some (.iconst 3, 1, 0, 0, 0) := rfl
theorem r237_427 : Rn 237 (427, [x0, x1, x2, x3], st, a, h) = Rn 237 (428, [x0, x1, x2, x3], .int (3 : Int32) :: st, a, h) := Rn_go c237_427 rfl
theorem c237_428 : mcode 237 428 = some (.iadd, 1, 0, 0, 0) := rfl
theorem r237_428 : Rn 237 (428, [x0, x1, x2, x3], .int j :: .int i :: st, a, h) = Rn 237 (429, [x0, x1, x2, x3], .int (i + j) :: st, a, h) := Rn_go c237_428 rfl
theorem c237_429 : mcode 237 429 = some (.iaload, 1, 0, 0, 0) := rfl
theorem r237_429 : Rn 237 (429, [x0, x1, x2, x3], .int i :: .ref q :: st, a, h) = Ki 237 430 [x0, x1, x2, x3] st a h (mld h q i false) := Rn_iald c237_429 rfl
theorem c237_430 : mcode 237 430 = some (.invokevirtual 40, 3, 69, 3, 5) := rfl
theorem r237_430 : Rn 237 (430, [x0, x1, x2, x3], [v2, v1, v0, .ref q], a, h) = if mis h q 5 = true then Bk 237 433 [x0, x1, x2, x3] [] (Ec 69 [.ref q, v0, v1, v2] a h) else none := Rn_call1 c237_430 rfl (Nat.le_of_ble_eq_true rfl) rfl rfl (Nat.le_of_ble_eq_true rfl)
theorem c237_433 : mcode 237 433 = some (.aload_n 2, 1, 0, 0, 0) := rfl
theorem r237_433 : Rn 237 (433, [x0, x1, some (.ref q), x3], st, a, h) = Rn 237 (434, [x0, x1, some (.ref q), x3], .ref q :: st, a, h) := Rn_go c237_433 rfl
theorem c237_434 : mcode 237 434 = some (.aload_n 0, 1, 0, 0, 0) := rfl
theorem r237_434 : Rn 237 (434, [some (.ref q), x1, x2, x3], st, a, h) = Rn 237 (435, [some (.ref q), x1, x2, x3], .ref q :: st, a, h) := Rn_go c237_434 rfl
theorem c237_435 : mcode 237 435 = some (.iload_n 3, 1, 0, 0, 0) := rfl
theorem r237_435 : Rn 237 (435, [x0, x1, x2, some (.int i)], st, a, h) = Rn 237 (436, [x0, x1, x2, some (.int i)], .int i :: st, a, h) := Rn_go c237_435 rfl
theorem c237_436 : mcode 237 436 = some (.iconst 1, 1, 0, 0, 0) := rfl
theorem r237_436 : Rn 237 (436, [x0, x1, x2, x3], st, a, h) = Rn 237 (437, [x0, x1, x2, x3], .int (1 : Int32) :: st, a, h) := Rn_go c237_436 rfl
theorem c237_437 : mcode 237 437 = some (.iadd, 1, 0, 0, 0) := rfl
theorem r237_437 : Rn 237 (437, [x0, x1, x2, x3], .int j :: .int i :: st, a, h) = Rn 237 (438, [x0, x1, x2, x3], .int (i + j) :: st, a, h) := Rn_go c237_437 rfl
theorem c237_438 : mcode 237 438 = some (.iaload, 1, 0, 0, 0) := rfl
theorem r237_438 : Rn 237 (438, [x0, x1, x2, x3], .int i :: .ref q :: st, a, h) = Ki 237 439 [x0, x1, x2, x3] st a h (mld h q i false) := Rn_iald c237_438 rfl
theorem c237_439 : mcode 237 439 = some (.aload_n 0, 1, 0, 0, 0) := rfl
theorem r237_439 : Rn 237 (439, [some (.ref q), x1, x2, x3], st, a, h) = Rn 237 (440, [some (.ref q), x1, x2, x3], .ref q :: st, a, h) := Rn_go c237_439 rfl
theorem c237_440 : mcode 237 440 = some (.iload_n 3, 1, 0, 0, 0) := rfl
theorem r237_440 : Rn 237 (440, [x0, x1, x2, some (.int i)], st, a, h) = Rn 237 (441, [x0, x1, x2, some (.int i)], .int i :: st, a, h) := Rn_go c237_440 rfl
theorem c237_441 : mcode 237 441 = some (.iconst 2, 1, 0, 0, 0) := rfl
theorem r237_441 : Rn 237 (441, [x0, x1, x2, x3], st, a, h) = Rn 237 (442, [x0, x1, x2, x3], .int (2 : Int32) :: st, a, h) := Rn_go c237_441 rfl
theorem c237_442 : mcode 237 442 = some (.iadd, 1, 0, 0, 0) := rfl
theorem r237_442 : Rn 237 (442, [x0, x1, x2, x3], .int j :: .int i :: st, a, h) = Rn 237 (443, [x0, x1, x2, x3], .int (i + j) :: st, a, h) := Rn_go c237_442 rfl
theorem c237_443 : mcode 237 443 = some (.iaload, 1, 0, 0, 0) := rfl
theorem r237_443 : Rn 237 (443, [x0, x1, x2, x3], .int i :: .ref q :: st, a, h) = Ki 237 444 [x0, x1, x2, x3] st a h (mld h q i false) := Rn_iald c237_443 rfl
theorem c237_444 : mcode 237 444 = some (.aload_n 0, 1, 0, 0, 0) := rfl
theorem r237_444 : Rn 237 (444, [some (.ref q), x1, x2, x3], st, a, h) = Rn 237 (445, [some (.ref q), x1, x2, x3], .ref q :: st, a, h) := Rn_go c237_444 rfl
theorem c237_445 : mcode 237 445 = some (.iload_n 3, 1, 0, 0, 0) := rfl
theorem r237_445 : Rn 237 (445, [x0, x1, x2, some (.int i)], st, a, h) = Rn 237 (446, [x0, x1, x2, some (.int i)], .int i :: st, a, h) := Rn_go c237_445 rfl
theorem c237_446 : mcode 237 446 = some (.iconst 3, 1, 0, 0, 0) := rfl
theorem r237_446 : Rn 237 (446, [x0, x1, x2, x3], st, a, h) = Rn 237 (447, [x0, x1, x2, x3], .int (3 : Int32) :: st, a, h) := Rn_go c237_446 rfl
theorem c237_447 : mcode 237 447 = some (.iadd, 1, 0, 0, 0) := rfl
theorem r237_447 : Rn 237 (447, [x0, x1, x2, x3], .int j :: .int i :: st, a, h) = Rn 237 (448, [x0, x1, x2, x3], .int (i + j) :: st, a, h) := Rn_go c237_447 rfl
theorem c237_448 : mcode 237 448 = some (.iaload, 1, 0, 0, 0) := rfl
theorem r237_448 : Rn 237 (448, [x0, x1, x2, x3], .int i :: .ref q :: st, a, h) = Ki 237 449 [x0, x1, x2, x3] st a h (mld h q i false) := Rn_iald c237_448 rfl
theorem c237_449 : mcode 237 449 = some (.invokevirtual 43, 3, 153, 3, 6) := rfl
theorem r237_449 : Rn 237 (449, [x0, x1, x2, x3], [v2, v1, v0, .ref q, .int i0], a, h) = if mis h q 6 = true then Bk 237 452 [x0, x1, x2, x3] [.int i0] (Ec 153 [.ref q, v0, v1, v2] a h) else none := Rn_call1 c237_449 rfl (Nat.le_of_ble_eq_true rfl) rfl rfl (Nat.le_of_ble_eq_true rfl)
theorem c237_452 : mcode 237 452 = some (.if_icmp .eq 1051, 3, 0, 0, 0) := rfl
theorem r237_452 : Rn 237 (452, [x0, x1, x2, x3], .int j :: .int i :: st, a, h) = if i = j then Rn 237 (1503, [x0, x1, x2, x3], st, a, h) else Rn 237 (455, [x0, x1, x2, x3], st, a, h) := Rn_icmp c237_452 mc_eq rfl rfl
theorem c237_455 : mcode 237 455 = some (.iconst 0, 1, 0, 0, 0) := rfl
theorem r237_455 : Rn 237 (455, [x0, x1, x2, x3], st, a, h) = Rn 237 (456, [x0, x1, x2, x3], .int (0 : Int32) :: st, a, h) := Rn_go c237_455 rfl
theorem c237_456 : mcode 237 456 = some (.ireturn, 1, 1, 0, 0) := rfl
theorem r237_456 : Rn 237 (456, [x0, x1, x2, x3], [.int i], a, h) = if mrt 1 i = true then some (some (.int i), a, h) else none := Rn_iretz c237_456
theorem c237_457 : mcode 237 457 = some (.aload_n 1, 1, 0, 0, 0) := rfl
theorem r237_457 : Rn 237 (457, [x0, some (.ref q), x2, x3], st, a, h) = Rn 237 (458, [x0, some (.ref q), x2, x3], .ref q :: st, a, h) := Rn_go c237_457 rfl
theorem c237_458 : mcode 237 458 = some (.aload_n 0, 1, 0, 0, 0) := rfl
theorem r237_458 : Rn 237 (458, [some (.ref q), x1, x2, x3], st, a, h) = Rn 237 (459, [some (.ref q), x1, x2, x3], .ref q :: st, a, h) := Rn_go c237_458 rfl
theorem c237_459 : mcode 237 459 = some (.iload_n 3, 1, 0, 0, 0) := rfl
theorem r237_459 : Rn 237 (459, [x0, x1, x2, some (.int i)], st, a, h) = Rn 237 (460, [x0, x1, x2, some (.int i)], .int i :: st, a, h) := Rn_go c237_459 rfl
theorem c237_460 : mcode 237 460 = some (.iconst 1, 1, 0, 0, 0) := rfl
theorem r237_460 : Rn 237 (460, [x0, x1, x2, x3], st, a, h) = Rn 237 (461, [x0, x1, x2, x3], .int (1 : Int32) :: st, a, h) := Rn_go c237_460 rfl
theorem c237_461 : mcode 237 461 = some (.iadd, 1, 0, 0, 0) := rfl
theorem r237_461 : Rn 237 (461, [x0, x1, x2, x3], .int j :: .int i :: st, a, h) = Rn 237 (462, [x0, x1, x2, x3], .int (i + j) :: st, a, h) := Rn_go c237_461 rfl
theorem c237_462 : mcode 237 462 = some (.iaload, 1, 0, 0, 0) := rfl
theorem r237_462 : Rn 237 (462, [x0, x1, x2, x3], .int i :: .ref q :: st, a, h) = Ki 237 463 [x0, x1, x2, x3] st a h (mld h q i false) := Rn_iald c237_462 rfl
theorem c237_463 : mcode 237 463 = some (.invokevirtual 44, 3, 70, 1, 5) := rfl
theorem r237_463 : Rn 237 (463, [x0, x1, x2, x3], [v0, .ref q], a, h) = if mis h q 5 = true then Bk 237 466 [x0, x1, x2, x3] [] (Ec 70 [.ref q, v0] a h) else none := Rn_call1 c237_463 rfl (Nat.le_of_ble_eq_true rfl) rfl rfl (Nat.le_of_ble_eq_true rfl)
theorem c237_466 : mcode 237 466 = some (.aload_n 2, 1, 0, 0, 0) := rfl
theorem r237_466 : Rn 237 (466, [x0, x1, some (.ref q), x3], st, a, h) = Rn 237 (467, [x0, x1, some (.ref q), x3], .ref q :: st, a, h) := Rn_go c237_466 rfl
theorem c237_467 : mcode 237 467 = some (.aload_n 0, 1, 0, 0, 0) := rfl
theorem r237_467 : Rn 237 (467, [some (.ref q), x1, x2, x3], st, a, h) = Rn 237 (468, [some (.ref q), x1, x2, x3], .ref q :: st, a, h) := Rn_go c237_467 rfl
theorem c237_468 : mcode 237 468 = some (.iload_n 3, 1, 0, 0, 0) := rfl
theorem r237_468 : Rn 237 (468, [x0, x1, x2, some (.int i)], st, a, h) = Rn 237 (469, [x0, x1, x2, some (.int i)], .int i :: st, a, h) := Rn_go c237_468 rfl
theorem c237_469 : mcode 237 469 = some (.iconst 1, 1, 0, 0, 0) := rfl
theorem r237_469 : Rn 237 (469, [x0, x1, x2, x3], st, a, h) = Rn 237 (470, [x0, x1, x2, x3], .int (1 : Int32) :: st, a, h) := Rn_go c237_469 rfl
theorem c237_470 : mcode 237 470 = some (.iadd, 1, 0, 0, 0) := rfl
theorem r237_470 : Rn 237 (470, [x0, x1, x2, x3], .int j :: .int i :: st, a, h) = Rn 237 (471, [x0, x1, x2, x3], .int (i + j) :: st, a, h) := Rn_go c237_470 rfl
theorem c237_471 : mcode 237 471 = some (.iaload, 1, 0, 0, 0) := rfl
theorem r237_471 : Rn 237 (471, [x0, x1, x2, x3], .int i :: .ref q :: st, a, h) = Ki 237 472 [x0, x1, x2, x3] st a h (mld h q i false) := Rn_iald c237_471 rfl
theorem c237_472 : mcode 237 472 = some (.invokevirtual 47, 3, 162, 1, 6) := rfl
theorem r237_472 : Rn 237 (472, [x0, x1, x2, x3], [v0, .ref q, .int i0], a, h) = if mis h q 6 = true then Bk 237 475 [x0, x1, x2, x3] [.int i0] (Ec 162 [.ref q, v0] a h) else none := Rn_call1 c237_472 rfl (Nat.le_of_ble_eq_true rfl) rfl rfl (Nat.le_of_ble_eq_true rfl)
theorem c237_475 : mcode 237 475 = some (.if_icmp .eq 1028, 3, 0, 0, 0) := rfl
theorem r237_475 : Rn 237 (475, [x0, x1, x2, x3], .int j :: .int i :: st, a, h) = if i = j then Rn 237 (1503, [x0, x1, x2, x3], st, a, h) else Rn 237 (478, [x0, x1, x2, x3], st, a, h) := Rn_icmp c237_475 mc_eq rfl rfl
theorem c237_478 : mcode 237 478 = some (.iconst 0, 1, 0, 0, 0) := rfl
theorem r237_478 : Rn 237 (478, [x0, x1, x2, x3], st, a, h) = Rn 237 (479, [x0, x1, x2, x3], .int (0 : Int32) :: st, a, h) := Rn_go c237_478 rfl
theorem c237_479 : mcode 237 479 = some (.ireturn, 1, 1, 0, 0) := rfl
theorem r237_479 : Rn 237 (479, [x0, x1, x2, x3], [.int i], a, h) = if mrt 1 i = true then some (some (.int i), a, h) else none := Rn_iretz c237_479
theorem c237_480 : mcode 237 480 = some (.aload_n 1, 1, 0, 0, 0) := rfl
theorem r237_480 : Rn 237 (480, [x0, some (.ref q), x2, x3], st, a, h) = Rn 237 (481, [x0, some (.ref q), x2, x3], .ref q :: st, a, h) := Rn_go c237_480 rfl
theorem c237_481 : mcode 237 481 = some (.aload_n 0, 1, 0, 0, 0) := rfl
theorem r237_481 : Rn 237 (481, [some (.ref q), x1, x2, x3], st, a, h) = Rn 237 (482, [some (.ref q), x1, x2, x3], .ref q :: st, a, h) := Rn_go c237_481 rfl
theorem c237_482 : mcode 237 482 = some (.iload_n 3, 1, 0, 0, 0) := rfl
theorem r237_482 : Rn 237 (482, [x0, x1, x2, some (.int i)], st, a, h) = Rn 237 (483, [x0, x1, x2, some (.int i)], .int i :: st, a, h) := Rn_go c237_482 rfl
theorem c237_483 : mcode 237 483 = some (.iconst 1, 1, 0, 0, 0) := rfl
theorem r237_483 : Rn 237 (483, [x0, x1, x2, x3], st, a, h) = Rn 237 (484, [x0, x1, x2, x3], .int (1 : Int32) :: st, a, h) := Rn_go c237_483 rfl
theorem c237_484 : mcode 237 484 = some (.iadd, 1, 0, 0, 0) := rfl
theorem r237_484 : Rn 237 (484, [x0, x1, x2, x3], .int j :: .int i :: st, a, h) = Rn 237 (485, [x0, x1, x2, x3], .int (i + j) :: st, a, h) := Rn_go c237_484 rfl
theorem c237_485 : mcode 237 485 = some (.iaload, 1, 0, 0, 0) := rfl
theorem r237_485 : Rn 237 (485, [x0, x1, x2, x3], .int i :: .ref q :: st, a, h) = Ki 237 486 [x0, x1, x2, x3] st a h (mld h q i false) := Rn_iald c237_485 rfl
theorem c237_486 : mcode 237 486 = some (.invokevirtual 48, 3, 71, 1, 5) := rfl
theorem r237_486 : Rn 237 (486, [x0, x1, x2, x3], [v0, .ref q], a, h) = if mis h q 5 = true then Bk 237 489 [x0, x1, x2, x3] [] (Ec 71 [.ref q, v0] a h) else none := Rn_call1 c237_486 rfl (Nat.le_of_ble_eq_true rfl) rfl rfl (Nat.le_of_ble_eq_true rfl)
theorem c237_489 : mcode 237 489 = some (.aload_n 2, 1, 0, 0, 0) := rfl
theorem r237_489 : Rn 237 (489, [x0, x1, some (.ref q), x3], st, a, h) = Rn 237 (490, [x0, x1, some (.ref q), x3], .ref q :: st, a, h) := Rn_go c237_489 rfl
theorem c237_490 : mcode 237 490 = some (.aload_n 0, 1, 0, 0, 0) := rfl
theorem r237_490 : Rn 237 (490, [some (.ref q), x1, x2, x3], st, a, h) = Rn 237 (491, [some (.ref q), x1, x2, x3], .ref q :: st, a, h) := Rn_go c237_490 rfl
theorem c237_491 : mcode 237 491 = some (.iload_n 3, 1, 0, 0, 0) := rfl
theorem r237_491 : Rn 237 (491, [x0, x1, x2, some (.int i)], st, a, h) = Rn 237 (492, [x0, x1, x2, some (.int i)], .int i :: st, a, h) := Rn_go c237_491 rfl
theorem c237_492 : mcode 237 492 = some (.iconst 1, 1, 0, 0, 0) := rfl
theorem r237_492 : Rn 237 (492, [x0, x1, x2, x3], st, a, h) = Rn 237 (493, [x0, x1, x2, x3], .int (1 : Int32) :: st, a, h) := Rn_go c237_492 rfl
theorem c237_493 : mcode 237 493 = some (.iadd, 1, 0, 0, 0) := rfl
theorem r237_493 : Rn 237 (493, [x0, x1, x2, x3], .int j :: .int i :: st, a, h) = Rn 237 (494, [x0, x1, x2, x3], .int (i + j) :: st, a, h) := Rn_go c237_493 rfl
theorem c237_494 : mcode 237 494 = some (.iaload, 1, 0, 0, 0) := rfl
theorem r237_494 : Rn 237 (494, [x0, x1, x2, x3], .int i :: .ref q :: st, a, h) = Ki 237 495 [x0, x1, x2, x3] st a h (mld h q i false) := Rn_iald c237_494 rfl
theorem c237_495 : mcode 237 495 = some (.invokevirtual 51, 3, 166, 1, 6) := rfl
theorem r237_495 : Rn 237 (495, [x0, x1, x2, x3], [v0, .ref q, .int i0], a, h) = if mis h q 6 = true then Bk 237 498 [x0, x1, x2, x3] [.int i0] (Ec 166 [.ref q, v0] a h) else none := Rn_call1 c237_495 rfl (Nat.le_of_ble_eq_true rfl) rfl rfl (Nat.le_of_ble_eq_true rfl)
theorem c237_498 : mcode 237 498 = some (.if_icmp .eq 1005, 3, 0, 0, 0) := rfl
theorem r237_498 : Rn 237 (498, [x0, x1, x2, x3], .int j :: .int i :: st, a, h) = if i = j then Rn 237 (1503, [x0, x1, x2, x3], st, a, h) else Rn 237 (501, [x0, x1, x2, x3], st, a, h) := Rn_icmp c237_498 mc_eq rfl rfl
theorem c237_501 : mcode 237 501 = some (.iconst 0, 1, 0, 0, 0) := rfl
theorem r237_501 : Rn 237 (501, [x0, x1, x2, x3], st, a, h) = Rn 237 (502, [x0, x1, x2, x3], .int (0 : Int32) :: st, a, h) := Rn_go c237_501 rfl
theorem c237_502 : mcode 237 502 = some (.ireturn, 1, 1, 0, 0) := rfl
theorem r237_502 : Rn 237 (502, [x0, x1, x2, x3], [.int i], a, h) = if mrt 1 i = true then some (some (.int i), a, h) else none := Rn_iretz c237_502
theorem c237_503 : mcode 237 503 = some (.aload_n 1, 1, 0, 0, 0) := rfl
theorem r237_503 : Rn 237 (503, [x0, some (.ref q), x2, x3], st, a, h) = Rn 237 (504, [x0, some (.ref q), x2, x3], .ref q :: st, a, h) := Rn_go c237_503 rfl
theorem c237_504 : mcode 237 504 = some (.aload_n 0, 1, 0, 0, 0) := rfl
theorem r237_504 : Rn 237 (504, [some (.ref q), x1, x2, x3], st, a, h) = Rn 237 (505, [some (.ref q), x1, x2, x3], .ref q :: st, a, h) := Rn_go c237_504 rfl
theorem c237_505 : mcode 237 505 = some (.iload_n 3, 1, 0, 0, 0) := rfl
theorem r237_505 : Rn 237 (505, [x0, x1, x2, some (.int i)], st, a, h) = Rn 237 (506, [x0, x1, x2, some (.int i)], .int i :: st, a, h) := Rn_go c237_505 rfl
theorem c237_506 : mcode 237 506 = some (.iconst 1, 1, 0, 0, 0) := rfl
theorem r237_506 : Rn 237 (506, [x0, x1, x2, x3], st, a, h) = Rn 237 (507, [x0, x1, x2, x3], .int (1 : Int32) :: st, a, h) := Rn_go c237_506 rfl
theorem c237_507 : mcode 237 507 = some (.iadd, 1, 0, 0, 0) := rfl
theorem r237_507 : Rn 237 (507, [x0, x1, x2, x3], .int j :: .int i :: st, a, h) = Rn 237 (508, [x0, x1, x2, x3], .int (i + j) :: st, a, h) := Rn_go c237_507 rfl
theorem c237_508 : mcode 237 508 = some (.iaload, 1, 0, 0, 0) := rfl
theorem r237_508 : Rn 237 (508, [x0, x1, x2, x3], .int i :: .ref q :: st, a, h) = Ki 237 509 [x0, x1, x2, x3] st a h (mld h q i false) := Rn_iald c237_508 rfl
theorem c237_509 : mcode 237 509 = some (.aload_n 0, 1, 0, 0, 0) := rfl
theorem r237_509 : Rn 237 (509, [some (.ref q), x1, x2, x3], st, a, h) = Rn 237 (510, [some (.ref q), x1, x2, x3], .ref q :: st, a, h) := Rn_go c237_509 rfl
theorem c237_510 : mcode 237 510 = some (.iload_n 3, 1, 0, 0, 0) := rfl
theorem r237_510 : Rn 237 (510, [x0, x1, x2, some (.int i)], st, a, h) = Rn 237 (511, [x0, x1, x2, some (.int i)], .int i :: st, a, h) := Rn_go c237_510 rfl
theorem c237_511 : mcode 237 511 = some (.iconst 2, 1, 0, 0, 0) := rfl
theorem r237_511 : Rn 237 (511, [x0, x1, x2, x3], st, a, h) = Rn 237 (512, [x0, x1, x2, x3], .int (2 : Int32) :: st, a, h) := Rn_go c237_511 rfl
theorem c237_512 : mcode 237 512 = some (.iadd, 1, 0, 0, 0) := rfl
theorem r237_512 : Rn 237 (512, [x0, x1, x2, x3], .int j :: .int i :: st, a, h) = Rn 237 (513, [x0, x1, x2, x3], .int (i + j) :: st, a, h) := Rn_go c237_512 rfl
theorem c237_513 : mcode 237 513 = some (.iaload, 1, 0, 0, 0) := rfl
theorem r237_513 : Rn 237 (513, [x0, x1, x2, x3], .int i :: .ref q :: st, a, h) = Ki 237 514 [x0, x1, x2, x3] st a h (mld h q i false) := Rn_iald c237_513 rfl
theorem c237_514 : mcode 237 514 = some (.aload_n 0, 1, 0, 0, 0) := rfl
theorem r237_514 : Rn 237 (514, [some (.ref q), x1, x2, x3], st, a, h) = Rn 237 (515, [some (.ref q), x1, x2, x3], .ref q :: st, a, h) := Rn_go c237_514 rfl
theorem c237_515 : mcode 237 515 = some (.iload_n 3, 1, 0, 0, 0) := rfl
theorem r237_515 : Rn 237 (515, [x0, x1, x2, some (.int i)], st, a, h) = Rn 237 (516, [x0, x1, x2, some (.int i)], .int i :: st, a, h) := Rn_go c237_515 rfl
theorem c237_516 : mcode 237 516 = some (.iconst 3, 1, 0, 0, 0) := rfl
theorem r237_516 : Rn 237 (516, [x0, x1, x2, x3], st, a, h) = Rn 237 (517, [x0, x1, x2, x3], .int (3 : Int32) :: st, a, h) := Rn_go c237_516 rfl
theorem c237_517 : mcode 237 517 = some (.iadd, 1, 0, 0, 0) := rfl
theorem r237_517 : Rn 237 (517, [x0, x1, x2, x3], .int j :: .int i :: st, a, h) = Rn 237 (518, [x0, x1, x2, x3], .int (i + j) :: st, a, h) := Rn_go c237_517 rfl
theorem c237_518 : mcode 237 518 = some (.iaload, 1, 0, 0, 0) := rfl
theorem r237_518 : Rn 237 (518, [x0, x1, x2, x3], .int i :: .ref q :: st, a, h) = Ki 237 519 [x0, x1, x2, x3] st a h (mld h q i false) := Rn_iald c237_518 rfl
theorem c237_519 : mcode 237 519 = some (.invokevirtual 52, 3, 72, 3, 5) := rfl
theorem r237_519 : Rn 237 (519, [x0, x1, x2, x3], [v2, v1, v0, .ref q], a, h) = if mis h q 5 = true then Bk 237 522 [x0, x1, x2, x3] [] (Ec 72 [.ref q, v0, v1, v2] a h) else none := Rn_call1 c237_519 rfl (Nat.le_of_ble_eq_true rfl) rfl rfl (Nat.le_of_ble_eq_true rfl)
theorem c237_522 : mcode 237 522 = some (.aload_n 2, 1, 0, 0, 0) := rfl
theorem r237_522 : Rn 237 (522, [x0, x1, some (.ref q), x3], st, a, h) = Rn 237 (523, [x0, x1, some (.ref q), x3], .ref q :: st, a, h) := Rn_go c237_522 rfl
theorem c237_523 : mcode 237 523 = some (.aload_n 0, 1, 0, 0, 0) := rfl
theorem r237_523 : Rn 237 (523, [some (.ref q), x1, x2, x3], st, a, h) = Rn 237 (524, [some (.ref q), x1, x2, x3], .ref q :: st, a, h) := Rn_go c237_523 rfl
theorem c237_524 : mcode 237 524 = some (.iload_n 3, 1, 0, 0, 0) := rfl
theorem r237_524 : Rn 237 (524, [x0, x1, x2, some (.int i)], st, a, h) = Rn 237 (525, [x0, x1, x2, some (.int i)], .int i :: st, a, h) := Rn_go c237_524 rfl
theorem c237_525 : mcode 237 525 = some (.iconst 1, 1, 0, 0, 0) := rfl
theorem r237_525 : Rn 237 (525, [x0, x1, x2, x3], st, a, h) = Rn 237 (526, [x0, x1, x2, x3], .int (1 : Int32) :: st, a, h) := Rn_go c237_525 rfl
theorem c237_526 : mcode 237 526 = some (.iadd, 1, 0, 0, 0) := rfl
theorem r237_526 : Rn 237 (526, [x0, x1, x2, x3], .int j :: .int i :: st, a, h) = Rn 237 (527, [x0, x1, x2, x3], .int (i + j) :: st, a, h) := Rn_go c237_526 rfl
theorem c237_527 : mcode 237 527 = some (.iaload, 1, 0, 0, 0) := rfl
theorem r237_527 : Rn 237 (527, [x0, x1, x2, x3], .int i :: .ref q :: st, a, h) = Ki 237 528 [x0, x1, x2, x3] st a h (mld h q i false) := Rn_iald c237_527 rfl
theorem c237_528 : mcode 237 528 = some (.aload_n 0, 1, 0, 0, 0) := rfl
theorem r237_528 : Rn 237 (528, [some (.ref q), x1, x2, x3], st, a, h) = Rn 237 (529, [some (.ref q), x1, x2, x3], .ref q :: st, a, h) := Rn_go c237_528 rfl
theorem c237_529 : mcode 237 529 = some (.iload_n 3, 1, 0, 0, 0) := rfl
theorem r237_529 : Rn 237 (529, [x0, x1, x2, some (.int i)], st, a, h) = Rn 237 (530, [x0, x1, x2, some (.int i)], .int i :: st, a, h) := Rn_go c237_529 rfl
theorem c237_530 : mcode 237 530 = some (.iconst 2, 1, 0, 0, 0) := rfl
theorem r237_530 : Rn 237 (530, [x0, x1, x2, x3], st, a, h) = Rn 237 (531, [x0, x1, x2, x3], .int (2 : Int32) :: st, a, h) := Rn_go c237_530 rfl
theorem c237_531 : mcode 237 531 = some (.iadd, 1, 0, 0, 0) := rfl
theorem r237_531 : Rn 237 (531, [x0, x1, x2, x3], .int j :: .int i :: st, a, h) = Rn 237 (532, [x0, x1, x2, x3], .int (i + j) :: st, a, h) := Rn_go c237_531 rfl
theorem c237_532 : mcode 237 532 = some (.iaload, 1, 0, 0, 0) := rfl
theorem r237_532 : Rn 237 (532, [x0, x1, x2, x3], .int i :: .ref q :: st, a, h) = Ki 237 533 [x0, x1, x2, x3] st a h (mld h q i false) := Rn_iald c237_532 rfl
theorem c237_533 : mcode 237 533 = some (.aload_n 0, 1, 0, 0, 0) := rfl
theorem r237_533 : Rn 237 (533, [some (.ref q), x1, x2, x3], st, a, h) = Rn 237 (534, [some (.ref q), x1, x2, x3], .ref q :: st, a, h) := Rn_go c237_533 rfl
theorem c237_534 : mcode 237 534 = some (.iload_n 3, 1, 0, 0, 0) := rfl
theorem r237_534 : Rn 237 (534, [x0, x1, x2, some (.int i)], st, a, h) = Rn 237 (535, [x0, x1, x2, some (.int i)], .int i :: st, a, h) := Rn_go c237_534 rfl
theorem c237_535 : mcode 237 535 = some (.iconst 3, 1, 0, 0, 0) := rfl
theorem r237_535 : Rn 237 (535, [x0, x1, x2, x3], st, a, h) = Rn 237 (536, [x0, x1, x2, x3], .int (3 : Int32) :: st, a, h) := Rn_go c237_535 rfl
theorem c237_536 : mcode 237 536 = some (.iadd, 1, 0, 0, 0) := rfl
theorem r237_536 : Rn 237 (536, [x0, x1, x2, x3], .int j :: .int i :: st, a, h) = Rn 237 (537, [x0, x1, x2, x3], .int (i + j) :: st, a, h) := Rn_go c237_536 rfl
theorem c237_537 : mcode 237 537 = some (.iaload, 1, 0, 0, 0) := rfl
theorem r237_537 : Rn 237 (537, [x0, x1, x2, x3], .int i :: .ref q :: st, a, h) = Ki 237 538 [x0, x1, x2, x3] st a h (mld h q i false) := Rn_iald c237_537 rfl
theorem c237_538 : mcode 237 538 = some (.invokevirtual 55, 3, 168, 3, 6) := rfl
theorem r237_538 : Rn 237 (538, [x0, x1, x2, x3], [v2, v1, v0, .ref q, .int i0], a, h) = if mis h q 6 = true then Bk 237 541 [x0, x1, x2, x3] [.int i0] (Ec 168 [.ref q, v0, v1, v2] a h) else none := Rn_call1 c237_538 rfl (Nat.le_of_ble_eq_true rfl) rfl rfl (Nat.le_of_ble_eq_true rfl)
theorem c237_541 : mcode 237 541 = some (.if_icmp .eq 962, 3, 0, 0, 0) := rfl
theorem r237_541 : Rn 237 (541, [x0, x1, x2, x3], .int j :: .int i :: st, a, h) = if i = j then Rn 237 (1503, [x0, x1, x2, x3], st, a, h) else Rn 237 (544, [x0, x1, x2, x3], st, a, h) := Rn_icmp c237_541 mc_eq rfl rfl
theorem c237_544 : mcode 237 544 = some (.iconst 0, 1, 0, 0, 0) := rfl
theorem r237_544 : Rn 237 (544, [x0, x1, x2, x3], st, a, h) = Rn 237 (545, [x0, x1, x2, x3], .int (0 : Int32) :: st, a, h) := Rn_go c237_544 rfl
theorem c237_545 : mcode 237 545 = some (.ireturn, 1, 1, 0, 0) := rfl
theorem r237_545 : Rn 237 (545, [x0, x1, x2, x3], [.int i], a, h) = if mrt 1 i = true then some (some (.int i), a, h) else none := Rn_iretz c237_545
theorem c237_546 : mcode 237 546 = some (.aload_n 1, 1, 0, 0, 0) := rfl
theorem r237_546 : Rn 237 (546, [x0, some (.ref q), x2, x3], st, a, h) = Rn 237 (547, [x0, some (.ref q), x2, x3], .ref q :: st, a, h) := Rn_go c237_546 rfl
theorem c237_547 : mcode 237 547 = some (.aload_n 0, 1, 0, 0, 0) := rfl
theorem r237_547 : Rn 237 (547, [some (.ref q), x1, x2, x3], st, a, h) = Rn 237 (548, [some (.ref q), x1, x2, x3], .ref q :: st, a, h) := Rn_go c237_547 rfl
theorem c237_548 : mcode 237 548 = some (.iload_n 3, 1, 0, 0, 0) := rfl
theorem r237_548 : Rn 237 (548, [x0, x1, x2, some (.int i)], st, a, h) = Rn 237 (549, [x0, x1, x2, some (.int i)], .int i :: st, a, h) := Rn_go c237_548 rfl
theorem c237_549 : mcode 237 549 = some (.iconst 1, 1, 0, 0, 0) := rfl
theorem r237_549 : Rn 237 (549, [x0, x1, x2, x3], st, a, h) = Rn 237 (550, [x0, x1, x2, x3], .int (1 : Int32) :: st, a, h) := Rn_go c237_549 rfl
theorem c237_550 : mcode 237 550 = some (.iadd, 1, 0, 0, 0) := rfl
theorem r237_550 : Rn 237 (550, [x0, x1, x2, x3], .int j :: .int i :: st, a, h) = Rn 237 (551, [x0, x1, x2, x3], .int (i + j) :: st, a, h) := Rn_go c237_550 rfl
theorem c237_551 : mcode 237 551 = some (.iaload, 1, 0, 0, 0) := rfl
theorem r237_551 : Rn 237 (551, [x0, x1, x2, x3], .int i :: .ref q :: st, a, h) = Ki 237 552 [x0, x1, x2, x3] st a h (mld h q i false) := Rn_iald c237_551 rfl
theorem c237_552 : mcode 237 552 = some (.aload_n 0, 1, 0, 0, 0) := rfl
theorem r237_552 : Rn 237 (552, [some (.ref q), x1, x2, x3], st, a, h) = Rn 237 (553, [some (.ref q), x1, x2, x3], .ref q :: st, a, h) := Rn_go c237_552 rfl
theorem c237_553 : mcode 237 553 = some (.iload_n 3, 1, 0, 0, 0) := rfl
theorem r237_553 : Rn 237 (553, [x0, x1, x2, some (.int i)], st, a, h) = Rn 237 (554, [x0, x1, x2, some (.int i)], .int i :: st, a, h) := Rn_go c237_553 rfl
theorem c237_554 : mcode 237 554 = some (.iconst 2, 1, 0, 0, 0) := rfl
theorem r237_554 : Rn 237 (554, [x0, x1, x2, x3], st, a, h) = Rn 237 (555, [x0, x1, x2, x3], .int (2 : Int32) :: st, a, h) := Rn_go c237_554 rfl
theorem c237_555 : mcode 237 555 = some (.iadd, 1, 0, 0, 0) := rfl
theorem r237_555 : Rn 237 (555, [x0, x1, x2, x3], .int j :: .int i :: st, a, h) = Rn 237 (556, [x0, x1, x2, x3], .int (i + j) :: st, a, h) := Rn_go c237_555 rfl
theorem c237_556 : mcode 237 556 = some (.iaload, 1, 0, 0, 0) := rfl
theorem r237_556 : Rn 237 (556, [x0, x1, x2, x3], .int i :: .ref q :: st, a, h) = Ki 237 557 [x0, x1, x2, x3] st a h (mld h q i false) := Rn_iald c237_556 rfl
theorem c237_557 : mcode 237 557 = some (.aload_n 0, 1, 0, 0, 0) := rfl
theorem r237_557 : Rn 237 (557, [some (.ref q), x1, x2, x3], st, a, h) = Rn 237 (558, [some (.ref q), x1, x2, x3], .ref q :: st, a, h) := Rn_go c237_557 rfl
theorem c237_558 : mcode 237 558 = some (.iload_n 3, 1, 0, 0, 0) := rfl
theorem r237_558 : Rn 237 (558, [x0, x1, x2, some (.int i)], st, a, h) = Rn 237 (559, [x0, x1, x2, some (.int i)], .int i :: st, a, h) := Rn_go c237_558 rfl
theorem c237_559 : mcode 237 559 = some (.iconst 3, 1, 0, 0, 0) := rfl
theorem r237_559 : Rn 237 (559, [x0, x1, x2, x3], st, a, h) = Rn 237 (560, [x0, x1, x2, x3], .int (3 : Int32) :: st, a, h) := Rn_go c237_559 rfl
theorem c237_560 : mcode 237 560 = some (.iadd, 1, 0, 0, 0) := rfl
theorem r237_560 : Rn 237 (560, [x0, x1, x2, x3], .int j :: .int i :: st, a, h) = Rn 237 (561, [x0, x1, x2, x3], .int (i + j) :: st, a, h) := Rn_go c237_560 rfl
theorem c237_561 : mcode 237 561 = some (.iaload, 1, 0, 0, 0) := rfl
theorem r237_561 : Rn 237 (561, [x0, x1, x2, x3], .int i :: .ref q :: st, a, h) = Ki 237 562 [x0, x1, x2, x3] st a h (mld h q i false) := Rn_iald c237_561 rfl
theorem c237_562 : mcode 237 562 = some (.invokevirtual 56, 3, 73, 3, 5) := rfl
theorem r237_562 : Rn 237 (562, [x0, x1, x2, x3], [v2, v1, v0, .ref q], a, h) = if mis h q 5 = true then Bk 237 565 [x0, x1, x2, x3] [] (Ec 73 [.ref q, v0, v1, v2] a h) else none := Rn_call1 c237_562 rfl (Nat.le_of_ble_eq_true rfl) rfl rfl (Nat.le_of_ble_eq_true rfl)
theorem c237_565 : mcode 237 565 = some (.aload_n 2, 1, 0, 0, 0) := rfl
theorem r237_565 : Rn 237 (565, [x0, x1, some (.ref q), x3], st, a, h) = Rn 237 (566, [x0, x1, some (.ref q), x3], .ref q :: st, a, h) := Rn_go c237_565 rfl
theorem c237_566 : mcode 237 566 = some (.aload_n 0, 1, 0, 0, 0) := rfl
theorem r237_566 : Rn 237 (566, [some (.ref q), x1, x2, x3], st, a, h) = Rn 237 (567, [some (.ref q), x1, x2, x3], .ref q :: st, a, h) := Rn_go c237_566 rfl
theorem c237_567 : mcode 237 567 = some (.iload_n 3, 1, 0, 0, 0) := rfl
theorem r237_567 : Rn 237 (567, [x0, x1, x2, some (.int i)], st, a, h) = Rn 237 (568, [x0, x1, x2, some (.int i)], .int i :: st, a, h) := Rn_go c237_567 rfl
theorem c237_568 : mcode 237 568 = some (.iconst 1, 1, 0, 0, 0) := rfl
theorem r237_568 : Rn 237 (568, [x0, x1, x2, x3], st, a, h) = Rn 237 (569, [x0, x1, x2, x3], .int (1 : Int32) :: st, a, h) := Rn_go c237_568 rfl
theorem c237_569 : mcode 237 569 = some (.iadd, 1, 0, 0, 0) := rfl
theorem r237_569 : Rn 237 (569, [x0, x1, x2, x3], .int j :: .int i :: st, a, h) = Rn 237 (570, [x0, x1, x2, x3], .int (i + j) :: st, a, h) := Rn_go c237_569 rfl
theorem c237_570 : mcode 237 570 = some (.iaload, 1, 0, 0, 0) := rfl
theorem r237_570 : Rn 237 (570, [x0, x1, x2, x3], .int i :: .ref q :: st, a, h) = Ki 237 571 [x0, x1, x2, x3] st a h (mld h q i false) := Rn_iald c237_570 rfl
theorem c237_571 : mcode 237 571 = some (.aload_n 0, 1, 0, 0, 0) := rfl
theorem r237_571 : Rn 237 (571, [some (.ref q), x1, x2, x3], st, a, h) = Rn 237 (572, [some (.ref q), x1, x2, x3], .ref q :: st, a, h) := Rn_go c237_571 rfl
theorem c237_572 : mcode 237 572 = some (.iload_n 3, 1, 0, 0, 0) := rfl
theorem r237_572 : Rn 237 (572, [x0, x1, x2, some (.int i)], st, a, h) = Rn 237 (573, [x0, x1, x2, some (.int i)], .int i :: st, a, h) := Rn_go c237_572 rfl
theorem c237_573 : mcode 237 573 = some (.iconst 2, 1, 0, 0, 0) := rfl
theorem r237_573 : Rn 237 (573, [x0, x1, x2, x3], st, a, h) = Rn 237 (574, [x0, x1, x2, x3], .int (2 : Int32) :: st, a, h) := Rn_go c237_573 rfl
theorem c237_574 : mcode 237 574 = some (.iadd, 1, 0, 0, 0) := rfl
theorem r237_574 : Rn 237 (574, [x0, x1, x2, x3], .int j :: .int i :: st, a, h) = Rn 237 (575, [x0, x1, x2, x3], .int (i + j) :: st, a, h) := Rn_go c237_574 rfl
theorem c237_575 : mcode 237 575 = some (.iaload, 1, 0, 0, 0) := rfl
theorem r237_575 : Rn 237 (575, [x0, x1, x2, x3], .int i :: .ref q :: st, a, h) = Ki 237 576 [x0, x1, x2, x3] st a h (mld h q i false) := Rn_iald c237_575 rfl
theorem c237_576 : mcode 237 576 = some (.aload_n 0, 1, 0, 0, 0) := rfl
theorem r237_576 : Rn 237 (576, [some (.ref q), x1, x2, x3], st, a, h) = Rn 237 (577, [some (.ref q), x1, x2, x3], .ref q :: st, a, h) := Rn_go c237_576 rfl
theorem c237_577 : mcode 237 577 = some (.iload_n 3, 1, 0, 0, 0) := rfl
theorem r237_577 : Rn 237 (577, [x0, x1, x2, some (.int i)], st, a, h) = Rn 237 (578, [x0, x1, x2, some (.int i)], .int i :: st, a, h) := Rn_go c237_577 rfl
theorem c237_578 : mcode 237 578 = some (.iconst 3, 1, 0, 0, 0) := rfl
theorem r237_578 : Rn 237 (578, [x0, x1, x2, x3], st, a, h) = Rn 237 (579, [x0, x1, x2, x3], .int (3 : Int32) :: st, a, h) := Rn_go c237_578 rfl
theorem c237_579 : mcode 237 579 = some (.iadd, 1, 0, 0, 0) := rfl
theorem r237_579 : Rn 237 (579, [x0, x1, x2, x3], .int j :: .int i :: st, a, h) = Rn 237 (580, [x0, x1, x2, x3], .int (i + j) :: st, a, h) := Rn_go c237_579 rfl
theorem c237_580 : mcode 237 580 = some (.iaload, 1, 0, 0, 0) := rfl
theorem r237_580 : Rn 237 (580, [x0, x1, x2, x3], .int i :: .ref q :: st, a, h) = Ki 237 581 [x0, x1, x2, x3] st a h (mld h q i false) := Rn_iald c237_580 rfl
theorem c237_581 : mcode 237 581 = some (.invokevirtual 59, 3, 169, 3, 6) := rfl
theorem r237_581 : Rn 237 (581, [x0, x1, x2, x3], [v2, v1, v0, .ref q, .int i0], a, h) = if mis h q 6 = true then Bk 237 584 [x0, x1, x2, x3] [.int i0] (Ec 169 [.ref q, v0, v1, v2] a h) else none := Rn_call1 c237_581 rfl (Nat.le_of_ble_eq_true rfl) rfl rfl (Nat.le_of_ble_eq_true rfl)
theorem c237_584 : mcode 237 584 = some (.if_icmp .eq 919, 3, 0, 0, 0) := rfl
theorem r237_584 : Rn 237 (584, [x0, x1, x2, x3], .int j :: .int i :: st, a, h) = if i = j then Rn 237 (1503, [x0, x1, x2, x3], st, a, h) else Rn 237 (587, [x0, x1, x2, x3], st, a, h) := Rn_icmp c237_584 mc_eq rfl rfl
theorem c237_587 : mcode 237 587 = some (.iconst 0, 1, 0, 0, 0) := rfl
theorem r237_587 : Rn 237 (587, [x0, x1, x2, x3], st, a, h) = Rn 237 (588, [x0, x1, x2, x3], .int (0 : Int32) :: st, a, h) := Rn_go c237_587 rfl
theorem c237_588 : mcode 237 588 = some (.ireturn, 1, 1, 0, 0) := rfl
theorem r237_588 : Rn 237 (588, [x0, x1, x2, x3], [.int i], a, h) = if mrt 1 i = true then some (some (.int i), a, h) else none := Rn_iretz c237_588
theorem c237_589 : mcode 237 589 = some (.aload_n 1, 1, 0, 0, 0) := rfl
theorem r237_589 : Rn 237 (589, [x0, some (.ref q), x2, x3], st, a, h) = Rn 237 (590, [x0, some (.ref q), x2, x3], .ref q :: st, a, h) := Rn_go c237_589 rfl
theorem c237_590 : mcode 237 590 = some (.aload_n 0, 1, 0, 0, 0) := rfl
theorem r237_590 : Rn 237 (590, [some (.ref q), x1, x2, x3], st, a, h) = Rn 237 (591, [some (.ref q), x1, x2, x3], .ref q :: st, a, h) := Rn_go c237_590 rfl
theorem c237_591 : mcode 237 591 = some (.iload_n 3, 1, 0, 0, 0) := rfl
theorem r237_591 : Rn 237 (591, [x0, x1, x2, some (.int i)], st, a, h) = Rn 237 (592, [x0, x1, x2, some (.int i)], .int i :: st, a, h) := Rn_go c237_591 rfl
theorem c237_592 : mcode 237 592 = some (.iconst 1, 1, 0, 0, 0) := rfl
theorem r237_592 : Rn 237 (592, [x0, x1, x2, x3], st, a, h) = Rn 237 (593, [x0, x1, x2, x3], .int (1 : Int32) :: st, a, h) := Rn_go c237_592 rfl
theorem c237_593 : mcode 237 593 = some (.iadd, 1, 0, 0, 0) := rfl
theorem r237_593 : Rn 237 (593, [x0, x1, x2, x3], .int j :: .int i :: st, a, h) = Rn 237 (594, [x0, x1, x2, x3], .int (i + j) :: st, a, h) := Rn_go c237_593 rfl
theorem c237_594 : mcode 237 594 = some (.iaload, 1, 0, 0, 0) := rfl
theorem r237_594 : Rn 237 (594, [x0, x1, x2, x3], .int i :: .ref q :: st, a, h) = Ki 237 595 [x0, x1, x2, x3] st a h (mld h q i false) := Rn_iald c237_594 rfl
theorem c237_595 : mcode 237 595 = some (.invokevirtual 60, 3, 74, 1, 5) := rfl
theorem r237_595 : Rn 237 (595, [x0, x1, x2, x3], [v0, .ref q], a, h) = if mis h q 5 = true then Bk 237 598 [x0, x1, x2, x3] [] (Ec 74 [.ref q, v0] a h) else none := Rn_call1 c237_595 rfl (Nat.le_of_ble_eq_true rfl) rfl rfl (Nat.le_of_ble_eq_true rfl)
theorem c237_598 : mcode 237 598 = some (.aload_n 2, 1, 0, 0, 0) := rfl
theorem r237_598 : Rn 237 (598, [x0, x1, some (.ref q), x3], st, a, h) = Rn 237 (599, [x0, x1, some (.ref q), x3], .ref q :: st, a, h) := Rn_go c237_598 rfl
theorem c237_599 : mcode 237 599 = some (.aload_n 0, 1, 0, 0, 0) := rfl
theorem r237_599 : Rn 237 (599, [some (.ref q), x1, x2, x3], st, a, h) = Rn 237 (600, [some (.ref q), x1, x2, x3], .ref q :: st, a, h) := Rn_go c237_599 rfl
theorem c237_600 : mcode 237 600 = some (.iload_n 3, 1, 0, 0, 0) := rfl
theorem r237_600 : Rn 237 (600, [x0, x1, x2, some (.int i)], st, a, h) = Rn 237 (601, [x0, x1, x2, some (.int i)], .int i :: st, a, h) := Rn_go c237_600 rfl
theorem c237_601 : mcode 237 601 = some (.iconst 1, 1, 0, 0, 0) := rfl
theorem r237_601 : Rn 237 (601, [x0, x1, x2, x3], st, a, h) = Rn 237 (602, [x0, x1, x2, x3], .int (1 : Int32) :: st, a, h) := Rn_go c237_601 rfl
theorem c237_602 : mcode 237 602 = some (.iadd, 1, 0, 0, 0) := rfl
theorem r237_602 : Rn 237 (602, [x0, x1, x2, x3], .int j :: .int i :: st, a, h) = Rn 237 (603, [x0, x1, x2, x3], .int (i + j) :: st, a, h) := Rn_go c237_602 rfl
theorem c237_603 : mcode 237 603 = some (.iaload, 1, 0, 0, 0) := rfl
theorem r237_603 : Rn 237 (603, [x0, x1, x2, x3], .int i :: .ref q :: st, a, h) = Ki 237 604 [x0, x1, x2, x3] st a h (mld h q i false) := Rn_iald c237_603 rfl
theorem c237_604 : mcode 237 604 = some (.invokevirtual 63, 3, 170, 1, 6) := rfl
theorem r237_604 : Rn 237 (604, [x0, x1, x2, x3], [v0, .ref q, .int i0], a, h) = if mis h q 6 = true then Bk 237 607 [x0, x1, x2, x3] [.int i0] (Ec 170 [.ref q, v0] a h) else none := Rn_call1 c237_604 rfl (Nat.le_of_ble_eq_true rfl) rfl rfl (Nat.le_of_ble_eq_true rfl)
theorem c237_607 : mcode 237 607 = some (.if_icmp .eq 896, 3, 0, 0, 0) := rfl
theorem r237_607 : Rn 237 (607, [x0, x1, x2, x3], .int j :: .int i :: st, a, h) = if i = j then Rn 237 (1503, [x0, x1, x2, x3], st, a, h) else Rn 237 (610, [x0, x1, x2, x3], st, a, h) := Rn_icmp c237_607 mc_eq rfl rfl
theorem c237_610 : mcode 237 610 = some (.iconst 0, 1, 0, 0, 0) := rfl
theorem r237_610 : Rn 237 (610, [x0, x1, x2, x3], st, a, h) = Rn 237 (611, [x0, x1, x2, x3], .int (0 : Int32) :: st, a, h) := Rn_go c237_610 rfl
theorem c237_611 : mcode 237 611 = some (.ireturn, 1, 1, 0, 0) := rfl
theorem r237_611 : Rn 237 (611, [x0, x1, x2, x3], [.int i], a, h) = if mrt 1 i = true then some (some (.int i), a, h) else none := Rn_iretz c237_611
theorem c237_612 : mcode 237 612 = some (.aload_n 1, 1, 0, 0, 0) := rfl
theorem r237_612 : Rn 237 (612, [x0, some (.ref q), x2, x3], st, a, h) = Rn 237 (613, [x0, some (.ref q), x2, x3], .ref q :: st, a, h) := Rn_go c237_612 rfl
theorem c237_613 : mcode 237 613 = some (.aload_n 0, 1, 0, 0, 0) := rfl
theorem r237_613 : Rn 237 (613, [some (.ref q), x1, x2, x3], st, a, h) = Rn 237 (614, [some (.ref q), x1, x2, x3], .ref q :: st, a, h) := Rn_go c237_613 rfl
theorem c237_614 : mcode 237 614 = some (.iload_n 3, 1, 0, 0, 0) := rfl
theorem r237_614 : Rn 237 (614, [x0, x1, x2, some (.int i)], st, a, h) = Rn 237 (615, [x0, x1, x2, some (.int i)], .int i :: st, a, h) := Rn_go c237_614 rfl
theorem c237_615 : mcode 237 615 = some (.iconst 1, 1, 0, 0, 0) := rfl
theorem r237_615 : Rn 237 (615, [x0, x1, x2, x3], st, a, h) = Rn 237 (616, [x0, x1, x2, x3], .int (1 : Int32) :: st, a, h) := Rn_go c237_615 rfl
theorem c237_616 : mcode 237 616 = some (.iadd, 1, 0, 0, 0) := rfl
theorem r237_616 : Rn 237 (616, [x0, x1, x2, x3], .int j :: .int i :: st, a, h) = Rn 237 (617, [x0, x1, x2, x3], .int (i + j) :: st, a, h) := Rn_go c237_616 rfl
theorem c237_617 : mcode 237 617 = some (.iaload, 1, 0, 0, 0) := rfl
theorem r237_617 : Rn 237 (617, [x0, x1, x2, x3], .int i :: .ref q :: st, a, h) = Ki 237 618 [x0, x1, x2, x3] st a h (mld h q i false) := Rn_iald c237_617 rfl
theorem c237_618 : mcode 237 618 = some (.aload_n 0, 1, 0, 0, 0) := rfl
theorem r237_618 : Rn 237 (618, [some (.ref q), x1, x2, x3], st, a, h) = Rn 237 (619, [some (.ref q), x1, x2, x3], .ref q :: st, a, h) := Rn_go c237_618 rfl
theorem c237_619 : mcode 237 619 = some (.iload_n 3, 1, 0, 0, 0) := rfl
theorem r237_619 : Rn 237 (619, [x0, x1, x2, some (.int i)], st, a, h) = Rn 237 (620, [x0, x1, x2, some (.int i)], .int i :: st, a, h) := Rn_go c237_619 rfl
theorem c237_620 : mcode 237 620 = some (.iconst 2, 1, 0, 0, 0) := rfl
theorem r237_620 : Rn 237 (620, [x0, x1, x2, x3], st, a, h) = Rn 237 (621, [x0, x1, x2, x3], .int (2 : Int32) :: st, a, h) := Rn_go c237_620 rfl
theorem c237_621 : mcode 237 621 = some (.iadd, 1, 0, 0, 0) := rfl
theorem r237_621 : Rn 237 (621, [x0, x1, x2, x3], .int j :: .int i :: st, a, h) = Rn 237 (622, [x0, x1, x2, x3], .int (i + j) :: st, a, h) := Rn_go c237_621 rfl
theorem c237_622 : mcode 237 622 = some (.iaload, 1, 0, 0, 0) := rfl
theorem r237_622 : Rn 237 (622, [x0, x1, x2, x3], .int i :: .ref q :: st, a, h) = Ki 237 623 [x0, x1, x2, x3] st a h (mld h q i false) := Rn_iald c237_622 rfl
theorem c237_623 : mcode 237 623 = some (.invokevirtual 64, 3, 75, 2, 5) := rfl
theorem r237_623 : Rn 237 (623, [x0, x1, x2, x3], [v1, v0, .ref q], a, h) = if mis h q 5 = true then Bk 237 626 [x0, x1, x2, x3] [] (Ec 75 [.ref q, v0, v1] a h) else none := Rn_call1 c237_623 rfl (Nat.le_of_ble_eq_true rfl) rfl rfl (Nat.le_of_ble_eq_true rfl)
theorem c237_626 : mcode 237 626 = some (.aload_n 2, 1, 0, 0, 0) := rfl
theorem r237_626 : Rn 237 (626, [x0, x1, some (.ref q), x3], st, a, h) = Rn 237 (627, [x0, x1, some (.ref q), x3], .ref q :: st, a, h) := Rn_go c237_626 rfl
theorem c237_627 : mcode 237 627 = some (.aload_n 0, 1, 0, 0, 0) := rfl
theorem r237_627 : Rn 237 (627, [some (.ref q), x1, x2, x3], st, a, h) = Rn 237 (628, [some (.ref q), x1, x2, x3], .ref q :: st, a, h) := Rn_go c237_627 rfl
theorem c237_628 : mcode 237 628 = some (.iload_n 3, 1, 0, 0, 0) := rfl
theorem r237_628 : Rn 237 (628, [x0, x1, x2, some (.int i)], st, a, h) = Rn 237 (629, [x0, x1, x2, some (.int i)], .int i :: st, a, h) := Rn_go c237_628 rfl
theorem c237_629 : mcode 237 629 = some (.iconst 1, 1, 0, 0, 0) := rfl
theorem r237_629 : Rn 237 (629, [x0, x1, x2, x3], st, a, h) = Rn 237 (630, [x0, x1, x2, x3], .int (1 : Int32) :: st, a, h) := Rn_go c237_629 rfl
theorem c237_630 : mcode 237 630 = some (.iadd, 1, 0, 0, 0) := rfl
theorem r237_630 : Rn 237 (630, [x0, x1, x2, x3], .int j :: .int i :: st, a, h) = Rn 237 (631, [x0, x1, x2, x3], .int (i + j) :: st, a, h) := Rn_go c237_630 rfl
theorem c237_631 : mcode 237 631 = some (.iaload, 1, 0, 0, 0) := rfl
theorem r237_631 : Rn 237 (631, [x0, x1, x2, x3], .int i :: .ref q :: st, a, h) = Ki 237 632 [x0, x1, x2, x3] st a h (mld h q i false) := Rn_iald c237_631 rfl
theorem c237_632 : mcode 237 632 = some (.aload_n 0, 1, 0, 0, 0) := rfl
theorem r237_632 : Rn 237 (632, [some (.ref q), x1, x2, x3], st, a, h) = Rn 237 (633, [some (.ref q), x1, x2, x3], .ref q :: st, a, h) := Rn_go c237_632 rfl
theorem c237_633 : mcode 237 633 = some (.iload_n 3, 1, 0, 0, 0) := rfl
theorem r237_633 : Rn 237 (633, [x0, x1, x2, some (.int i)], st, a, h) = Rn 237 (634, [x0, x1, x2, some (.int i)], .int i :: st, a, h) := Rn_go c237_633 rfl
theorem c237_634 : mcode 237 634 = some (.iconst 2, 1, 0, 0, 0) := rfl
theorem r237_634 : Rn 237 (634, [x0, x1, x2, x3], st, a, h) = Rn 237 (635, [x0, x1, x2, x3], .int (2 : Int32) :: st, a, h) := Rn_go c237_634 rfl
theorem c237_635 : mcode 237 635 = some (.iadd, 1, 0, 0, 0) := rfl
theorem r237_635 : Rn 237 (635, [x0, x1, x2, x3], .int j :: .int i :: st, a, h) = Rn 237 (636, [x0, x1, x2, x3], .int (i + j) :: st, a, h) := Rn_go c237_635 rfl
theorem c237_636 : mcode 237 636 = some (.iaload, 1, 0, 0, 0) := rfl
theorem r237_636 : Rn 237 (636, [x0, x1, x2, x3], .int i :: .ref q :: st, a, h) = Ki 237 637 [x0, x1, x2, x3] st a h (mld h q i false) := Rn_iald c237_636 rfl
theorem c237_637 : mcode 237 637 = some (.invokevirtual 67, 3, 171, 2, 6) := rfl
theorem r237_637 : Rn 237 (637, [x0, x1, x2, x3], [v1, v0, .ref q, .int i0], a, h) = if mis h q 6 = true then Bk 237 640 [x0, x1, x2, x3] [.int i0] (Ec 171 [.ref q, v0, v1] a h) else none := Rn_call1 c237_637 rfl (Nat.le_of_ble_eq_true rfl) rfl rfl (Nat.le_of_ble_eq_true rfl)
theorem c237_640 : mcode 237 640 = some (.if_icmp .eq 863, 3, 0, 0, 0) := rfl
theorem r237_640 : Rn 237 (640, [x0, x1, x2, x3], .int j :: .int i :: st, a, h) = if i = j then Rn 237 (1503, [x0, x1, x2, x3], st, a, h) else Rn 237 (643, [x0, x1, x2, x3], st, a, h) := Rn_icmp c237_640 mc_eq rfl rfl
theorem c237_643 : mcode 237 643 = some (.iconst 0, 1, 0, 0, 0) := rfl
theorem r237_643 : Rn 237 (643, [x0, x1, x2, x3], st, a, h) = Rn 237 (644, [x0, x1, x2, x3], .int (0 : Int32) :: st, a, h) := Rn_go c237_643 rfl
theorem c237_644 : mcode 237 644 = some (.ireturn, 1, 1, 0, 0) := rfl
theorem r237_644 : Rn 237 (644, [x0, x1, x2, x3], [.int i], a, h) = if mrt 1 i = true then some (some (.int i), a, h) else none := Rn_iretz c237_644
theorem c237_645 : mcode 237 645 = some (.aload_n 1, 1, 0, 0, 0) := rfl
theorem r237_645 : Rn 237 (645, [x0, some (.ref q), x2, x3], st, a, h) = Rn 237 (646, [x0, some (.ref q), x2, x3], .ref q :: st, a, h) := Rn_go c237_645 rfl
theorem c237_646 : mcode 237 646 = some (.aload_n 0, 1, 0, 0, 0) := rfl
theorem r237_646 : Rn 237 (646, [some (.ref q), x1, x2, x3], st, a, h) = Rn 237 (647, [some (.ref q), x1, x2, x3], .ref q :: st, a, h) := Rn_go c237_646 rfl
theorem c237_647 : mcode 237 647 = some (.iload_n 3, 1, 0, 0, 0) := rfl
theorem r237_647 : Rn 237 (647, [x0, x1, x2, some (.int i)], st, a, h) = Rn 237 (648, [x0, x1, x2, some (.int i)], .int i :: st, a, h) := Rn_go c237_647 rfl
theorem c237_648 : mcode 237 648 = some (.iconst 1, 1, 0, 0, 0) := rfl
theorem r237_648 : Rn 237 (648, [x0, x1, x2, x3], st, a, h) = Rn 237 (649, [x0, x1, x2, x3], .int (1 : Int32) :: st, a, h) := Rn_go c237_648 rfl
theorem c237_649 : mcode 237 649 = some (.iadd, 1, 0, 0, 0) := rfl
theorem r237_649 : Rn 237 (649, [x0, x1, x2, x3], .int j :: .int i :: st, a, h) = Rn 237 (650, [x0, x1, x2, x3], .int (i + j) :: st, a, h) := Rn_go c237_649 rfl
theorem c237_650 : mcode 237 650 = some (.iaload, 1, 0, 0, 0) := rfl
theorem r237_650 : Rn 237 (650, [x0, x1, x2, x3], .int i :: .ref q :: st, a, h) = Ki 237 651 [x0, x1, x2, x3] st a h (mld h q i false) := Rn_iald c237_650 rfl
theorem c237_651 : mcode 237 651 = some (.invokevirtual 68, 3, 76, 1, 5) := rfl
theorem r237_651 : Rn 237 (651, [x0, x1, x2, x3], [v0, .ref q], a, h) = if mis h q 5 = true then Bk 237 654 [x0, x1, x2, x3] [] (Ec 76 [.ref q, v0] a h) else none := Rn_call1 c237_651 rfl (Nat.le_of_ble_eq_true rfl) rfl rfl (Nat.le_of_ble_eq_true rfl)
theorem c237_654 : mcode 237 654 = some (.aload_n 2, 1, 0, 0, 0) := rfl
theorem r237_654 : Rn 237 (654, [x0, x1, some (.ref q), x3], st, a, h) = Rn 237 (655, [x0, x1, some (.ref q), x3], .ref q :: st, a, h) := Rn_go c237_654 rfl
theorem c237_655 : mcode 237 655 = some (.aload_n 0, 1, 0, 0, 0) := rfl
theorem r237_655 : Rn 237 (655, [some (.ref q), x1, x2, x3], st, a, h) = Rn 237 (656, [some (.ref q), x1, x2, x3], .ref q :: st, a, h) := Rn_go c237_655 rfl
theorem c237_656 : mcode 237 656 = some (.iload_n 3, 1, 0, 0, 0) := rfl
theorem r237_656 : Rn 237 (656, [x0, x1, x2, some (.int i)], st, a, h) = Rn 237 (657, [x0, x1, x2, some (.int i)], .int i :: st, a, h) := Rn_go c237_656 rfl
theorem c237_657 : mcode 237 657 = some (.iconst 1, 1, 0, 0, 0) := rfl
theorem r237_657 : Rn 237 (657, [x0, x1, x2, x3], st, a, h) = Rn 237 (658, [x0, x1, x2, x3], .int (1 : Int32) :: st, a, h) := Rn_go c237_657 rfl
theorem c237_658 : mcode 237 658 = some (.iadd, 1, 0, 0, 0) := rfl
theorem r237_658 : Rn 237 (658, [x0, x1, x2, x3], .int j :: .int i :: st, a, h) = Rn 237 (659, [x0, x1, x2, x3], .int (i + j) :: st, a, h) := Rn_go c237_658 rfl
theorem c237_659 : mcode 237 659 = some (.iaload, 1, 0, 0, 0) := rfl
theorem r237_659 : Rn 237 (659, [x0, x1, x2, x3], .int i :: .ref q :: st, a, h) = Ki 237 660 [x0, x1, x2, x3] st a h (mld h q i false) := Rn_iald c237_659 rfl
theorem c237_660 : mcode 237 660 = some (.invokevirtual 71, 3, 172, 1, 6) := rfl
theorem r237_660 : Rn 237 (660, [x0, x1, x2, x3], [v0, .ref q, .int i0], a, h) = if mis h q 6 = true then Bk 237 663 [x0, x1, x2, x3] [.int i0] (Ec 172 [.ref q, v0] a h) else none := Rn_call1 c237_660 rfl (Nat.le_of_ble_eq_true rfl) rfl rfl (Nat.le_of_ble_eq_true rfl)
theorem c237_663 : mcode 237 663 = some (.if_icmp .eq 840, 3, 0, 0, 0) := rfl
theorem r237_663 : Rn 237 (663, [x0, x1, x2, x3], .int j :: .int i :: st, a, h) = if i = j then Rn 237 (1503, [x0, x1, x2, x3], st, a, h) else Rn 237 (666, [x0, x1, x2, x3], st, a, h) := Rn_icmp c237_663 mc_eq rfl rfl
theorem c237_666 : mcode 237 666 = some (.iconst 0, 1, 0, 0, 0) := rfl
theorem r237_666 : Rn 237 (666, [x0, x1, x2, x3], st, a, h) = Rn 237 (667, [x0, x1, x2, x3], .int (0 : Int32) :: st, a, h) := Rn_go c237_666 rfl
theorem c237_667 : mcode 237 667 = some (.ireturn, 1, 1, 0, 0) := rfl
theorem r237_667 : Rn 237 (667, [x0, x1, x2, x3], [.int i], a, h) = if mrt 1 i = true then some (some (.int i), a, h) else none := Rn_iretz c237_667
theorem c237_668 : mcode 237 668 = some (.aload_n 1, 1, 0, 0, 0) := rfl
theorem r237_668 : Rn 237 (668, [x0, some (.ref q), x2, x3], st, a, h) = Rn 237 (669, [x0, some (.ref q), x2, x3], .ref q :: st, a, h) := Rn_go c237_668 rfl
theorem c237_669 : mcode 237 669 = some (.aload_n 0, 1, 0, 0, 0) := rfl
theorem r237_669 : Rn 237 (669, [some (.ref q), x1, x2, x3], st, a, h) = Rn 237 (670, [some (.ref q), x1, x2, x3], .ref q :: st, a, h) := Rn_go c237_669 rfl
theorem c237_670 : mcode 237 670 = some (.iload_n 3, 1, 0, 0, 0) := rfl
theorem r237_670 : Rn 237 (670, [x0, x1, x2, some (.int i)], st, a, h) = Rn 237 (671, [x0, x1, x2, some (.int i)], .int i :: st, a, h) := Rn_go c237_670 rfl
theorem c237_671 : mcode 237 671 = some (.iconst 1, 1, 0, 0, 0) := rfl
theorem r237_671 : Rn 237 (671, [x0, x1, x2, x3], st, a, h) = Rn 237 (672, [x0, x1, x2, x3], .int (1 : Int32) :: st, a, h) := Rn_go c237_671 rfl
theorem c237_672 : mcode 237 672 = some (.iadd, 1, 0, 0, 0) := rfl
theorem r237_672 : Rn 237 (672, [x0, x1, x2, x3], .int j :: .int i :: st, a, h) = Rn 237 (673, [x0, x1, x2, x3], .int (i + j) :: st, a, h) := Rn_go c237_672 rfl
theorem c237_673 : mcode 237 673 = some (.iaload, 1, 0, 0, 0) := rfl
theorem r237_673 : Rn 237 (673, [x0, x1, x2, x3], .int i :: .ref q :: st, a, h) = Ki 237 674 [x0, x1, x2, x3] st a h (mld h q i false) := Rn_iald c237_673 rfl
theorem c237_674 : mcode 237 674 = some (.aload_n 0, 1, 0, 0, 0) := rfl
theorem r237_674 : Rn 237 (674, [some (.ref q), x1, x2, x3], st, a, h) = Rn 237 (675, [some (.ref q), x1, x2, x3], .ref q :: st, a, h) := Rn_go c237_674 rfl
theorem c237_675 : mcode 237 675 = some (.iload_n 3, 1, 0, 0, 0) := rfl
theorem r237_675 : Rn 237 (675, [x0, x1, x2, some (.int i)], st, a, h) = Rn 237 (676, [x0, x1, x2, some (.int i)], .int i :: st, a, h) := Rn_go c237_675 rfl
theorem c237_676 : mcode 237 676 = some (.iconst 2, 1, 0, 0, 0) := rfl
theorem r237_676 : Rn 237 (676, [x0, x1, x2, x3], st, a, h) = Rn 237 (677, [x0, x1, x2, x3], .int (2 : Int32) :: st, a, h) := Rn_go c237_676 rfl
theorem c237_677 : mcode 237 677 = some (.iadd, 1, 0, 0, 0) := rfl
theorem r237_677 : Rn 237 (677, [x0, x1, x2, x3], .int j :: .int i :: st, a, h) = Rn 237 (678, [x0, x1, x2, x3], .int (i + j) :: st, a, h) := Rn_go c237_677 rfl
theorem c237_678 : mcode 237 678 = some (.iaload, 1, 0, 0, 0) := rfl
theorem r237_678 : Rn 237 (678, [x0, x1, x2, x3], .int i :: .ref q :: st, a, h) = Ki 237 679 [x0, x1, x2, x3] st a h (mld h q i false) := Rn_iald c237_678 rfl
theorem c237_679 : mcode 237 679 = some (.invokevirtual 72, 3, 77, 2, 5) := rfl
theorem r237_679 : Rn 237 (679, [x0, x1, x2, x3], [v1, v0, .ref q], a, h) = if mis h q 5 = true then Bk 237 682 [x0, x1, x2, x3] [] (Ec 77 [.ref q, v0, v1] a h) else none := Rn_call1 c237_679 rfl (Nat.le_of_ble_eq_true rfl) rfl rfl (Nat.le_of_ble_eq_true rfl)
theorem c237_682 : mcode 237 682 = some (.aload_n 2, 1, 0, 0, 0) := rfl
theorem r237_682 : Rn 237 (682, [x0, x1, some (.ref q), x3], st, a, h) = Rn 237 (683, [x0, x1, some (.ref q), x3], .ref q :: st, a, h) := Rn_go c237_682 rfl
theorem c237_683 : mcode 237 683 = some (.aload_n 0, 1, 0, 0, 0) := rfl
theorem r237_683 : Rn 237 (683, [some (.ref q), x1, x2, x3], st, a, h) = Rn 237 (684, [some (.ref q), x1, x2, x3], .ref q :: st, a, h) := Rn_go c237_683 rfl
theorem c237_684 : mcode 237 684 = some (.iload_n 3, 1, 0, 0, 0) := rfl
theorem r237_684 : Rn 237 (684, [x0, x1, x2, some (.int i)], st, a, h) = Rn 237 (685, [x0, x1, x2, some (.int i)], .int i :: st, a, h) := Rn_go c237_684 rfl
theorem c237_685 : mcode 237 685 = some (.iconst 1, 1, 0, 0, 0) := rfl
theorem r237_685 : Rn 237 (685, [x0, x1, x2, x3], st, a, h) = Rn 237 (686, [x0, x1, x2, x3], .int (1 : Int32) :: st, a, h) := Rn_go c237_685 rfl
theorem c237_686 : mcode 237 686 = some (.iadd, 1, 0, 0, 0) := rfl
theorem r237_686 : Rn 237 (686, [x0, x1, x2, x3], .int j :: .int i :: st, a, h) = Rn 237 (687, [x0, x1, x2, x3], .int (i + j) :: st, a, h) := Rn_go c237_686 rfl
theorem c237_687 : mcode 237 687 = some (.iaload, 1, 0, 0, 0) := rfl
theorem r237_687 : Rn 237 (687, [x0, x1, x2, x3], .int i :: .ref q :: st, a, h) = Ki 237 688 [x0, x1, x2, x3] st a h (mld h q i false) := Rn_iald c237_687 rfl
theorem c237_688 : mcode 237 688 = some (.aload_n 0, 1, 0, 0, 0) := rfl
theorem r237_688 : Rn 237 (688, [some (.ref q), x1, x2, x3], st, a, h) = Rn 237 (689, [some (.ref q), x1, x2, x3], .ref q :: st, a, h) := Rn_go c237_688 rfl
theorem c237_689 : mcode 237 689 = some (.iload_n 3, 1, 0, 0, 0) := rfl
theorem r237_689 : Rn 237 (689, [x0, x1, x2, some (.int i)], st, a, h) = Rn 237 (690, [x0, x1, x2, some (.int i)], .int i :: st, a, h) := Rn_go c237_689 rfl
theorem c237_690 : mcode 237 690 = some (.iconst 2, 1, 0, 0, 0) := rfl
theorem r237_690 : Rn 237 (690, [x0, x1, x2, x3], st, a, h) = Rn 237 (691, [x0, x1, x2, x3], .int (2 : Int32) :: st, a, h) := Rn_go c237_690 rfl
theorem c237_691 : mcode 237 691 = some (.iadd, 1, 0, 0, 0) := rfl
theorem r237_691 : Rn 237 (691, [x0, x1, x2, x3], .int j :: .int i :: st, a, h) = Rn 237 (692, [x0, x1, x2, x3], .int (i + j) :: st, a, h) := Rn_go c237_691 rfl
theorem c237_692 : mcode 237 692 = some (.iaload, 1, 0, 0, 0) := rfl
theorem r237_692 : Rn 237 (692, [x0, x1, x2, x3], .int i :: .ref q :: st, a, h) = Ki 237 693 [x0, x1, x2, x3] st a h (mld h q i false) := Rn_iald c237_692 rfl
theorem c237_693 : mcode 237 693 = some (.invokevirtual 75, 3, 173, 2, 6) := rfl
theorem r237_693 : Rn 237 (693, [x0, x1, x2, x3], [v1, v0, .ref q, .int i0], a, h) = if mis h q 6 = true then Bk 237 696 [x0, x1, x2, x3] [.int i0] (Ec 173 [.ref q, v0, v1] a h) else none := Rn_call1 c237_693 rfl (Nat.le_of_ble_eq_true rfl) rfl rfl (Nat.le_of_ble_eq_true rfl)
theorem c237_696 : mcode 237 696 = some (.if_icmp .eq 807, 3, 0, 0, 0) := rfl
theorem r237_696 : Rn 237 (696, [x0, x1, x2, x3], .int j :: .int i :: st, a, h) = if i = j then Rn 237 (1503, [x0, x1, x2, x3], st, a, h) else Rn 237 (699, [x0, x1, x2, x3], st, a, h) := Rn_icmp c237_696 mc_eq rfl rfl
theorem c237_699 : mcode 237 699 = some (.iconst 0, 1, 0, 0, 0) := rfl
theorem r237_699 : Rn 237 (699, [x0, x1, x2, x3], st, a, h) = Rn 237 (700, [x0, x1, x2, x3], .int (0 : Int32) :: st, a, h) := Rn_go c237_699 rfl
theorem c237_700 : mcode 237 700 = some (.ireturn, 1, 1, 0, 0) := rfl
theorem r237_700 : Rn 237 (700, [x0, x1, x2, x3], [.int i], a, h) = if mrt 1 i = true then some (some (.int i), a, h) else none := Rn_iretz c237_700
theorem c237_701 : mcode 237 701 = some (.aload_n 1, 1, 0, 0, 0) := rfl
theorem r237_701 : Rn 237 (701, [x0, some (.ref q), x2, x3], st, a, h) = Rn 237 (702, [x0, some (.ref q), x2, x3], .ref q :: st, a, h) := Rn_go c237_701 rfl
theorem c237_702 : mcode 237 702 = some (.aload_n 0, 1, 0, 0, 0) := rfl
theorem r237_702 : Rn 237 (702, [some (.ref q), x1, x2, x3], st, a, h) = Rn 237 (703, [some (.ref q), x1, x2, x3], .ref q :: st, a, h) := Rn_go c237_702 rfl
theorem c237_703 : mcode 237 703 = some (.iload_n 3, 1, 0, 0, 0) := rfl
theorem r237_703 : Rn 237 (703, [x0, x1, x2, some (.int i)], st, a, h) = Rn 237 (704, [x0, x1, x2, some (.int i)], .int i :: st, a, h) := Rn_go c237_703 rfl
theorem c237_704 : mcode 237 704 = some (.iconst 1, 1, 0, 0, 0) := rfl
theorem r237_704 : Rn 237 (704, [x0, x1, x2, x3], st, a, h) = Rn 237 (705, [x0, x1, x2, x3], .int (1 : Int32) :: st, a, h) := Rn_go c237_704 rfl
theorem c237_705 : mcode 237 705 = some (.iadd, 1, 0, 0, 0) := rfl
theorem r237_705 : Rn 237 (705, [x0, x1, x2, x3], .int j :: .int i :: st, a, h) = Rn 237 (706, [x0, x1, x2, x3], .int (i + j) :: st, a, h) := Rn_go c237_705 rfl
theorem c237_706 : mcode 237 706 = some (.iaload, 1, 0, 0, 0) := rfl
theorem r237_706 : Rn 237 (706, [x0, x1, x2, x3], .int i :: .ref q :: st, a, h) = Ki 237 707 [x0, x1, x2, x3] st a h (mld h q i false) := Rn_iald c237_706 rfl
theorem c237_707 : mcode 237 707 = some (.aload_n 0, 1, 0, 0, 0) := rfl
theorem r237_707 : Rn 237 (707, [some (.ref q), x1, x2, x3], st, a, h) = Rn 237 (708, [some (.ref q), x1, x2, x3], .ref q :: st, a, h) := Rn_go c237_707 rfl
theorem c237_708 : mcode 237 708 = some (.iload_n 3, 1, 0, 0, 0) := rfl
theorem r237_708 : Rn 237 (708, [x0, x1, x2, some (.int i)], st, a, h) = Rn 237 (709, [x0, x1, x2, some (.int i)], .int i :: st, a, h) := Rn_go c237_708 rfl
theorem c237_709 : mcode 237 709 = some (.iconst 2, 1, 0, 0, 0) := rfl
theorem r237_709 : Rn 237 (709, [x0, x1, x2, x3], st, a, h) = Rn 237 (710, [x0, x1, x2, x3], .int (2 : Int32) :: st, a, h) := Rn_go c237_709 rfl
theorem c237_710 : mcode 237 710 = some (.iadd, 1, 0, 0, 0) := rfl
theorem r237_710 : Rn 237 (710, [x0, x1, x2, x3], .int j :: .int i :: st, a, h) = Rn 237 (711, [x0, x1, x2, x3], .int (i + j) :: st, a, h) := Rn_go c237_710 rfl
theorem c237_711 : mcode 237 711 = some (.iaload, 1, 0, 0, 0) := rfl
theorem r237_711 : Rn 237 (711, [x0, x1, x2, x3], .int i :: .ref q :: st, a, h) = Ki 237 712 [x0, x1, x2, x3] st a h (mld h q i false) := Rn_iald c237_711 rfl
theorem c237_712 : mcode 237 712 = some (.invokevirtual 76, 3, 78, 2, 5) := rfl
theorem r237_712 : Rn 237 (712, [x0, x1, x2, x3], [v1, v0, .ref q], a, h) = if mis h q 5 = true then Bk 237 715 [x0, x1, x2, x3] [] (Ec 78 [.ref q, v0, v1] a h) else none := Rn_call1 c237_712 rfl (Nat.le_of_ble_eq_true rfl) rfl rfl (Nat.le_of_ble_eq_true rfl)
theorem c237_715 : mcode 237 715 = some (.aload_n 2, 1, 0, 0, 0) := rfl
theorem r237_715 : Rn 237 (715, [x0, x1, some (.ref q), x3], st, a, h) = Rn 237 (716, [x0, x1, some (.ref q), x3], .ref q :: st, a, h) := Rn_go c237_715 rfl
theorem c237_716 : mcode 237 716 = some (.aload_n 0, 1, 0, 0, 0) := rfl
theorem r237_716 : Rn 237 (716, [some (.ref q), x1, x2, x3], st, a, h) = Rn 237 (717, [some (.ref q), x1, x2, x3], .ref q :: st, a, h) := Rn_go c237_716 rfl
theorem c237_717 : mcode 237 717 = some (.iload_n 3, 1, 0, 0, 0) := rfl
theorem r237_717 : Rn 237 (717, [x0, x1, x2, some (.int i)], st, a, h) = Rn 237 (718, [x0, x1, x2, some (.int i)], .int i :: st, a, h) := Rn_go c237_717 rfl
theorem c237_718 : mcode 237 718 = some (.iconst 1, 1, 0, 0, 0) := rfl
theorem r237_718 : Rn 237 (718, [x0, x1, x2, x3], st, a, h) = Rn 237 (719, [x0, x1, x2, x3], .int (1 : Int32) :: st, a, h) := Rn_go c237_718 rfl
theorem c237_719 : mcode 237 719 = some (.iadd, 1, 0, 0, 0) := rfl
theorem r237_719 : Rn 237 (719, [x0, x1, x2, x3], .int j :: .int i :: st, a, h) = Rn 237 (720, [x0, x1, x2, x3], .int (i + j) :: st, a, h) := Rn_go c237_719 rfl
theorem c237_720 : mcode 237 720 = some (.iaload, 1, 0, 0, 0) := rfl
theorem r237_720 : Rn 237 (720, [x0, x1, x2, x3], .int i :: .ref q :: st, a, h) = Ki 237 721 [x0, x1, x2, x3] st a h (mld h q i false) := Rn_iald c237_720 rfl
theorem c237_721 : mcode 237 721 = some (.aload_n 0, 1, 0, 0, 0) := rfl
theorem r237_721 : Rn 237 (721, [some (.ref q), x1, x2, x3], st, a, h) = Rn 237 (722, [some (.ref q), x1, x2, x3], .ref q :: st, a, h) := Rn_go c237_721 rfl
theorem c237_722 : mcode 237 722 = some (.iload_n 3, 1, 0, 0, 0) := rfl
theorem r237_722 : Rn 237 (722, [x0, x1, x2, some (.int i)], st, a, h) = Rn 237 (723, [x0, x1, x2, some (.int i)], .int i :: st, a, h) := Rn_go c237_722 rfl
theorem c237_723 : mcode 237 723 = some (.iconst 2, 1, 0, 0, 0) := rfl
theorem r237_723 : Rn 237 (723, [x0, x1, x2, x3], st, a, h) = Rn 237 (724, [x0, x1, x2, x3], .int (2 : Int32) :: st, a, h) := Rn_go c237_723 rfl
theorem c237_724 : mcode 237 724 = some (.iadd, 1, 0, 0, 0) := rfl
theorem r237_724 : Rn 237 (724, [x0, x1, x2, x3], .int j :: .int i :: st, a, h) = Rn 237 (725, [x0, x1, x2, x3], .int (i + j) :: st, a, h) := Rn_go c237_724 rfl
theorem c237_725 : mcode 237 725 = some (.iaload, 1, 0, 0, 0) := rfl
theorem r237_725 : Rn 237 (725, [x0, x1, x2, x3], .int i :: .ref q :: st, a, h) = Ki 237 726 [x0, x1, x2, x3] st a h (mld h q i false) := Rn_iald c237_725 rfl
theorem c237_726 : mcode 237 726 = some (.invokevirtual 79, 3, 174, 2, 6) := rfl
theorem r237_726 : Rn 237 (726, [x0, x1, x2, x3], [v1, v0, .ref q, .int i0], a, h) = if mis h q 6 = true then Bk 237 729 [x0, x1, x2, x3] [.int i0] (Ec 174 [.ref q, v0, v1] a h) else none := Rn_call1 c237_726 rfl (Nat.le_of_ble_eq_true rfl) rfl rfl (Nat.le_of_ble_eq_true rfl)
theorem c237_729 : mcode 237 729 = some (.if_icmp .eq 774, 3, 0, 0, 0) := rfl
theorem r237_729 : Rn 237 (729, [x0, x1, x2, x3], .int j :: .int i :: st, a, h) = if i = j then Rn 237 (1503, [x0, x1, x2, x3], st, a, h) else Rn 237 (732, [x0, x1, x2, x3], st, a, h) := Rn_icmp c237_729 mc_eq rfl rfl
theorem c237_732 : mcode 237 732 = some (.iconst 0, 1, 0, 0, 0) := rfl
theorem r237_732 : Rn 237 (732, [x0, x1, x2, x3], st, a, h) = Rn 237 (733, [x0, x1, x2, x3], .int (0 : Int32) :: st, a, h) := Rn_go c237_732 rfl
theorem c237_733 : mcode 237 733 = some (.ireturn, 1, 1, 0, 0) := rfl
theorem r237_733 : Rn 237 (733, [x0, x1, x2, x3], [.int i], a, h) = if mrt 1 i = true then some (some (.int i), a, h) else none := Rn_iretz c237_733
theorem c237_734 : mcode 237 734 = some (.aload_n 1, 1, 0, 0, 0) := rfl
theorem r237_734 : Rn 237 (734, [x0, some (.ref q), x2, x3], st, a, h) = Rn 237 (735, [x0, some (.ref q), x2, x3], .ref q :: st, a, h) := Rn_go c237_734 rfl
theorem c237_735 : mcode 237 735 = some (.aload_n 0, 1, 0, 0, 0) := rfl
theorem r237_735 : Rn 237 (735, [some (.ref q), x1, x2, x3], st, a, h) = Rn 237 (736, [some (.ref q), x1, x2, x3], .ref q :: st, a, h) := Rn_go c237_735 rfl
theorem c237_736 : mcode 237 736 = some (.iload_n 3, 1, 0, 0, 0) := rfl
theorem r237_736 : Rn 237 (736, [x0, x1, x2, some (.int i)], st, a, h) = Rn 237 (737, [x0, x1, x2, some (.int i)], .int i :: st, a, h) := Rn_go c237_736 rfl
theorem c237_737 : mcode 237 737 = some (.iconst 1, 1, 0, 0, 0) := rfl
theorem r237_737 : Rn 237 (737, [x0, x1, x2, x3], st, a, h) = Rn 237 (738, [x0, x1, x2, x3], .int (1 : Int32) :: st, a, h) := Rn_go c237_737 rfl
theorem c237_738 : mcode 237 738 = some (.iadd, 1, 0, 0, 0) := rfl
theorem r237_738 : Rn 237 (738, [x0, x1, x2, x3], .int j :: .int i :: st, a, h) = Rn 237 (739, [x0, x1, x2, x3], .int (i + j) :: st, a, h) := Rn_go c237_738 rfl
theorem c237_739 : mcode 237 739 = some (.iaload, 1, 0, 0, 0) := rfl
theorem r237_739 : Rn 237 (739, [x0, x1, x2, x3], .int i :: .ref q :: st, a, h) = Ki 237 740 [x0, x1, x2, x3] st a h (mld h q i false) := Rn_iald c237_739 rfl
theorem c237_740 : mcode 237 740 = some (.aload_n 0, 1, 0, 0, 0) := rfl
theorem r237_740 : Rn 237 (740, [some (.ref q), x1, x2, x3], st, a, h) = Rn 237 (741, [some (.ref q), x1, x2, x3], .ref q :: st, a, h) := Rn_go c237_740 rfl
theorem c237_741 : mcode 237 741 = some (.iload_n 3, 1, 0, 0, 0) := rfl
theorem r237_741 : Rn 237 (741, [x0, x1, x2, some (.int i)], st, a, h) = Rn 237 (742, [x0, x1, x2, some (.int i)], .int i :: st, a, h) := Rn_go c237_741 rfl
theorem c237_742 : mcode 237 742 = some (.iconst 2, 1, 0, 0, 0) := rfl
theorem r237_742 : Rn 237 (742, [x0, x1, x2, x3], st, a, h) = Rn 237 (743, [x0, x1, x2, x3], .int (2 : Int32) :: st, a, h) := Rn_go c237_742 rfl
theorem c237_743 : mcode 237 743 = some (.iadd, 1, 0, 0, 0) := rfl
theorem r237_743 : Rn 237 (743, [x0, x1, x2, x3], .int j :: .int i :: st, a, h) = Rn 237 (744, [x0, x1, x2, x3], .int (i + j) :: st, a, h) := Rn_go c237_743 rfl
theorem c237_744 : mcode 237 744 = some (.iaload, 1, 0, 0, 0) := rfl
theorem r237_744 : Rn 237 (744, [x0, x1, x2, x3], .int i :: .ref q :: st, a, h) = Ki 237 745 [x0, x1, x2, x3] st a h (mld h q i false) := Rn_iald c237_744 rfl
theorem c237_745 : mcode 237 745 = some (.invokevirtual 80, 3, 79, 2, 5) := rfl
theorem r237_745 : Rn 237 (745, [x0, x1, x2, x3], [v1, v0, .ref q], a, h) = if mis h q 5 = true then Bk 237 748 [x0, x1, x2, x3] [] (Ec 79 [.ref q, v0, v1] a h) else none := Rn_call1 c237_745 rfl (Nat.le_of_ble_eq_true rfl) rfl rfl (Nat.le_of_ble_eq_true rfl)
theorem c237_748 : mcode 237 748 = some (.aload_n 2, 1, 0, 0, 0) := rfl
theorem r237_748 : Rn 237 (748, [x0, x1, some (.ref q), x3], st, a, h) = Rn 237 (749, [x0, x1, some (.ref q), x3], .ref q :: st, a, h) := Rn_go c237_748 rfl
theorem c237_749 : mcode 237 749 = some (.aload_n 0, 1, 0, 0, 0) := rfl
theorem r237_749 : Rn 237 (749, [some (.ref q), x1, x2, x3], st, a, h) = Rn 237 (750, [some (.ref q), x1, x2, x3], .ref q :: st, a, h) := Rn_go c237_749 rfl
theorem c237_750 : mcode 237 750 = some (.iload_n 3, 1, 0, 0, 0) := rfl
theorem r237_750 : Rn 237 (750, [x0, x1, x2, some (.int i)], st, a, h) = Rn 237 (751, [x0, x1, x2, some (.int i)], .int i :: st, a, h) := Rn_go c237_750 rfl
theorem c237_751 : mcode 237 751 = some (.iconst 1, 1, 0, 0, 0) := rfl
theorem r237_751 : Rn 237 (751, [x0, x1, x2, x3], st, a, h) = Rn 237 (752, [x0, x1, x2, x3], .int (1 : Int32) :: st, a, h) := Rn_go c237_751 rfl
theorem c237_752 : mcode 237 752 = some (.iadd, 1, 0, 0, 0) := rfl
theorem r237_752 : Rn 237 (752, [x0, x1, x2, x3], .int j :: .int i :: st, a, h) = Rn 237 (753, [x0, x1, x2, x3], .int (i + j) :: st, a, h) := Rn_go c237_752 rfl
theorem c237_753 : mcode 237 753 = some (.iaload, 1, 0, 0, 0) := rfl
theorem r237_753 : Rn 237 (753, [x0, x1, x2, x3], .int i :: .ref q :: st, a, h) = Ki 237 754 [x0, x1, x2, x3] st a h (mld h q i false) := Rn_iald c237_753 rfl
theorem c237_754 : mcode 237 754 = some (.aload_n 0, 1, 0, 0, 0) := rfl
theorem r237_754 : Rn 237 (754, [some (.ref q), x1, x2, x3], st, a, h) = Rn 237 (755, [some (.ref q), x1, x2, x3], .ref q :: st, a, h) := Rn_go c237_754 rfl
theorem c237_755 : mcode 237 755 = some (.iload_n 3, 1, 0, 0, 0) := rfl
theorem r237_755 : Rn 237 (755, [x0, x1, x2, some (.int i)], st, a, h) = Rn 237 (756, [x0, x1, x2, some (.int i)], .int i :: st, a, h) := Rn_go c237_755 rfl
theorem c237_756 : mcode 237 756 = some (.iconst 2, 1, 0, 0, 0) := rfl
theorem r237_756 : Rn 237 (756, [x0, x1, x2, x3], st, a, h) = Rn 237 (757, [x0, x1, x2, x3], .int (2 : Int32) :: st, a, h) := Rn_go c237_756 rfl
theorem c237_757 : mcode 237 757 = some (.iadd, 1, 0, 0, 0) := rfl
theorem r237_757 : Rn 237 (757, [x0, x1, x2, x3], .int j :: .int i :: st, a, h) = Rn 237 (758, [x0, x1, x2, x3], .int (i + j) :: st, a, h) := Rn_go c237_757 rfl
theorem c237_758 : mcode 237 758 = some (.iaload, 1, 0, 0, 0) := rfl
theorem r237_758 : Rn 237 (758, [x0, x1, x2, x3], .int i :: .ref q :: st, a, h) = Ki 237 759 [x0, x1, x2, x3] st a h (mld h q i false) := Rn_iald c237_758 rfl
theorem c237_759 : mcode 237 759 = some (.invokevirtual 83, 3, 176, 2, 6) := rfl
theorem r237_759 : Rn 237 (759, [x0, x1, x2, x3], [v1, v0, .ref q, .int i0], a, h) = if mis h q 6 = true then Bk 237 762 [x0, x1, x2, x3] [.int i0] (Ec 176 [.ref q, v0, v1] a h) else none := Rn_call1 c237_759 rfl (Nat.le_of_ble_eq_true rfl) rfl rfl (Nat.le_of_ble_eq_true rfl)
theorem c237_762 : mcode 237 762 = some (.if_icmp .eq 741, 3, 0, 0, 0) := rfl
theorem r237_762 : Rn 237 (762, [x0, x1, x2, x3], .int j :: .int i :: st, a, h) = if i = j then Rn 237 (1503, [x0, x1, x2, x3], st, a, h) else Rn 237 (765, [x0, x1, x2, x3], st, a, h) := Rn_icmp c237_762 mc_eq rfl rfl
theorem c237_765 : mcode 237 765 = some (.iconst 0, 1, 0, 0, 0) := rfl
theorem r237_765 : Rn 237 (765, [x0, x1, x2, x3], st, a, h) = Rn 237 (766, [x0, x1, x2, x3], .int (0 : Int32) :: st, a, h) := Rn_go c237_765 rfl
theorem c237_766 : mcode 237 766 = some (.ireturn, 1, 1, 0, 0) := rfl
theorem r237_766 : Rn 237 (766, [x0, x1, x2, x3], [.int i], a, h) = if mrt 1 i = true then some (some (.int i), a, h) else none := Rn_iretz c237_766
theorem c237_767 : mcode 237 767 = some (.aload_n 1, 1, 0, 0, 0) := rfl
theorem r237_767 : Rn 237 (767, [x0, some (.ref q), x2, x3], st, a, h) = Rn 237 (768, [x0, some (.ref q), x2, x3], .ref q :: st, a, h) := Rn_go c237_767 rfl
theorem c237_768 : mcode 237 768 = some (.aload_n 0, 1, 0, 0, 0) := rfl
theorem r237_768 : Rn 237 (768, [some (.ref q), x1, x2, x3], st, a, h) = Rn 237 (769, [some (.ref q), x1, x2, x3], .ref q :: st, a, h) := Rn_go c237_768 rfl
theorem c237_769 : mcode 237 769 = some (.iload_n 3, 1, 0, 0, 0) := rfl
theorem r237_769 : Rn 237 (769, [x0, x1, x2, some (.int i)], st, a, h) = Rn 237 (770, [x0, x1, x2, some (.int i)], .int i :: st, a, h) := Rn_go c237_769 rfl
theorem c237_770 : mcode 237 770 = some (.iconst 1, 1, 0, 0, 0) := rfl
theorem r237_770 : Rn 237 (770, [x0, x1, x2, x3], st, a, h) = Rn 237 (771, [x0, x1, x2, x3], .int (1 : Int32) :: st, a, h) := Rn_go c237_770 rfl
theorem c237_771 : mcode 237 771 = some (.iadd, 1, 0, 0, 0) := rfl
theorem r237_771 : Rn 237 (771, [x0, x1, x2, x3], .int j :: .int i :: st, a, h) = Rn 237 (772, [x0, x1, x2, x3], .int (i + j) :: st, a, h) := Rn_go c237_771 rfl
theorem c237_772 : mcode 237 772 = some (.iaload, 1, 0, 0, 0) := rfl
theorem r237_772 : Rn 237 (772, [x0, x1, x2, x3], .int i :: .ref q :: st, a, h) = Ki 237 773 [x0, x1, x2, x3] st a h (mld h q i false) := Rn_iald c237_772 rfl
theorem c237_773 : mcode 237 773 = some (.aload_n 0, 1, 0, 0, 0) := rfl
theorem r237_773 : Rn 237 (773, [some (.ref q), x1, x2, x3], st, a, h) = Rn 237 (774, [some (.ref q), x1, x2, x3], .ref q :: st, a, h) := Rn_go c237_773 rfl
theorem c237_774 : mcode 237 774 = some (.iload_n 3, 1, 0, 0, 0) := rfl
theorem r237_774 : Rn 237 (774, [x0, x1, x2, some (.int i)], st, a, h) = Rn 237 (775, [x0, x1, x2, some (.int i)], .int i :: st, a, h) := Rn_go c237_774 rfl
theorem c237_775 : mcode 237 775 = some (.iconst 2, 1, 0, 0, 0) := rfl
theorem r237_775 : Rn 237 (775, [x0, x1, x2, x3], st, a, h) = Rn 237 (776, [x0, x1, x2, x3], .int (2 : Int32) :: st, a, h) := Rn_go c237_775 rfl
theorem c237_776 : mcode 237 776 = some (.iadd, 1, 0, 0, 0) := rfl
theorem r237_776 : Rn 237 (776, [x0, x1, x2, x3], .int j :: .int i :: st, a, h) = Rn 237 (777, [x0, x1, x2, x3], .int (i + j) :: st, a, h) := Rn_go c237_776 rfl
theorem c237_777 : mcode 237 777 = some (.iaload, 1, 0, 0, 0) := rfl
theorem r237_777 : Rn 237 (777, [x0, x1, x2, x3], .int i :: .ref q :: st, a, h) = Ki 237 778 [x0, x1, x2, x3] st a h (mld h q i false) := Rn_iald c237_777 rfl
theorem c237_778 : mcode 237 778 = some (.invokevirtual 84, 3, 80, 2, 5) := rfl
theorem r237_778 : Rn 237 (778, [x0, x1, x2, x3], [v1, v0, .ref q], a, h) = if mis h q 5 = true then Bk 237 781 [x0, x1, x2, x3] [] (Ec 80 [.ref q, v0, v1] a h) else none := Rn_call1 c237_778 rfl (Nat.le_of_ble_eq_true rfl) rfl rfl (Nat.le_of_ble_eq_true rfl)
theorem c237_781 : mcode 237 781 = some (.aload_n 2, 1, 0, 0, 0) := rfl
theorem r237_781 : Rn 237 (781, [x0, x1, some (.ref q), x3], st, a, h) = Rn 237 (782, [x0, x1, some (.ref q), x3], .ref q :: st, a, h) := Rn_go c237_781 rfl
theorem c237_782 : mcode 237 782 = some (.aload_n 0, 1, 0, 0, 0) := rfl
theorem r237_782 : Rn 237 (782, [some (.ref q), x1, x2, x3], st, a, h) = Rn 237 (783, [some (.ref q), x1, x2, x3], .ref q :: st, a, h) := Rn_go c237_782 rfl
theorem c237_783 : mcode 237 783 = some (.iload_n 3, 1, 0, 0, 0) := rfl
theorem r237_783 : Rn 237 (783, [x0, x1, x2, some (.int i)], st, a, h) = Rn 237 (784, [x0, x1, x2, some (.int i)], .int i :: st, a, h) := Rn_go c237_783 rfl
theorem c237_784 : mcode 237 784 = some (.iconst 1, 1, 0, 0, 0) := rfl
theorem r237_784 : Rn 237 (784, [x0, x1, x2, x3], st, a, h) = Rn 237 (785, [x0, x1, x2, x3], .int (1 : Int32) :: st, a, h) := Rn_go c237_784 rfl
theorem c237_785 : mcode 237 785 = some (.iadd, 1, 0, 0, 0) := rfl
theorem r237_785 : Rn 237 (785, [x0, x1, x2, x3], .int j :: .int i :: st, a, h) = Rn 237 (786, [x0, x1, x2, x3], .int (i + j) :: st, a, h) := Rn_go c237_785 rfl
theorem c237_786 : mcode 237 786 = some (.iaload, 1, 0, 0, 0) := rfl
theorem r237_786 : Rn 237 (786, [x0, x1, x2, x3], .int i :: .ref q :: st, a, h) = Ki 237 787 [x0, x1, x2, x3] st a h (mld h q i false) := Rn_iald c237_786 rfl
theorem c237_787 : mcode 237 787 = some (.aload_n 0, 1, 0, 0, 0) := rfl
theorem r237_787 : Rn 237 (787, [some (.ref q), x1, x2, x3], st, a, h) = Rn 237 (788, [some (.ref q), x1, x2, x3], .ref q :: st, a, h) := Rn_go c237_787 rfl
theorem c237_788 : mcode 237 788 = some (.iload_n 3, 1, 0, 0, 0) := rfl
theorem r237_788 : Rn 237 (788, [x0, x1, x2, some (.int i)], st, a, h) = Rn 237 (789, [x0, x1, x2, some (.int i)], .int i :: st, a, h) := Rn_go c237_788 rfl
theorem c237_789 : mcode 237 789 = some (.iconst 2, 1, 0, 0, 0) := rfl
theorem r237_789 : Rn 237 (789, [x0, x1, x2, x3], st, a, h) = Rn 237 (790, [x0, x1, x2, x3], .int (2 : Int32) :: st, a, h) := Rn_go c237_789 rfl
theorem c237_790 : mcode 237 790 = some (.iadd, 1, 0, 0, 0) := rfl
theorem r237_790 : Rn 237 (790, [x0, x1, x2, x3], .int j :: .int i :: st, a, h) = Rn 237 (791, [x0, x1, x2, x3], .int (i + j) :: st, a, h) := Rn_go c237_790 rfl
theorem c237_791 : mcode 237 791 = some (.iaload, 1, 0, 0, 0) := rfl
theorem r237_791 : Rn 237 (791, [x0, x1, x2, x3], .int i :: .ref q :: st, a, h) = Ki 237 792 [x0, x1, x2, x3] st a h (mld h q i false) := Rn_iald c237_791 rfl
theorem c237_792 : mcode 237 792 = some (.invokevirtual 87, 3, 177, 2, 6) := rfl
theorem r237_792 : Rn 237 (792, [x0, x1, x2, x3], [v1, v0, .ref q, .int i0], a, h) = if mis h q 6 = true then Bk 237 795 [x0, x1, x2, x3] [.int i0] (Ec 177 [.ref q, v0, v1] a h) else none := Rn_call1 c237_792 rfl (Nat.le_of_ble_eq_true rfl) rfl rfl (Nat.le_of_ble_eq_true rfl)
theorem c237_795 : mcode 237 795 = some (.if_icmp .eq 708, 3, 0, 0, 0) := rfl
theorem r237_795 : Rn 237 (795, [x0, x1, x2, x3], .int j :: .int i :: st, a, h) = if i = j then Rn 237 (1503, [x0, x1, x2, x3], st, a, h) else Rn 237 (798, [x0, x1, x2, x3], st, a, h) := Rn_icmp c237_795 mc_eq rfl rfl
theorem c237_798 : mcode 237 798 = some (.iconst 0, 1, 0, 0, 0) := rfl
theorem r237_798 : Rn 237 (798, [x0, x1, x2, x3], st, a, h) = Rn 237 (799, [x0, x1, x2, x3], .int (0 : Int32) :: st, a, h) := Rn_go c237_798 rfl
theorem c237_799 : mcode 237 799 = some (.ireturn, 1, 1, 0, 0) := rfl
theorem r237_799 : Rn 237 (799, [x0, x1, x2, x3], [.int i], a, h) = if mrt 1 i = true then some (some (.int i), a, h) else none := Rn_iretz c237_799
theorem c237_800 : mcode 237 800 = some (.aload_n 1, 1, 0, 0, 0) := rfl
theorem r237_800 : Rn 237 (800, [x0, some (.ref q), x2, x3], st, a, h) = Rn 237 (801, [x0, some (.ref q), x2, x3], .ref q :: st, a, h) := Rn_go c237_800 rfl
theorem c237_801 : mcode 237 801 = some (.aload_n 0, 1, 0, 0, 0) := rfl
theorem r237_801 : Rn 237 (801, [some (.ref q), x1, x2, x3], st, a, h) = Rn 237 (802, [some (.ref q), x1, x2, x3], .ref q :: st, a, h) := Rn_go c237_801 rfl
theorem c237_802 : mcode 237 802 = some (.iload_n 3, 1, 0, 0, 0) := rfl
theorem r237_802 : Rn 237 (802, [x0, x1, x2, some (.int i)], st, a, h) = Rn 237 (803, [x0, x1, x2, some (.int i)], .int i :: st, a, h) := Rn_go c237_802 rfl
theorem c237_803 : mcode 237 803 = some (.iconst 1, 1, 0, 0, 0) := rfl
theorem r237_803 : Rn 237 (803, [x0, x1, x2, x3], st, a, h) = Rn 237 (804, [x0, x1, x2, x3], .int (1 : Int32) :: st, a, h) := Rn_go c237_803 rfl
theorem c237_804 : mcode 237 804 = some (.iadd, 1, 0, 0, 0) := rfl
theorem r237_804 : Rn 237 (804, [x0, x1, x2, x3], .int j :: .int i :: st, a, h) = Rn 237 (805, [x0, x1, x2, x3], .int (i + j) :: st, a, h) := Rn_go c237_804 rfl
theorem c237_805 : mcode 237 805 = some (.iaload, 1, 0, 0, 0) := rfl
theorem r237_805 : Rn 237 (805, [x0, x1, x2, x3], .int i :: .ref q :: st, a, h) = Ki 237 806 [x0, x1, x2, x3] st a h (mld h q i false) := Rn_iald c237_805 rfl
theorem c237_806 : mcode 237 806 = some (.aload_n 0, 1, 0, 0, 0) := rfl
theorem r237_806 : Rn 237 (806, [some (.ref q), x1, x2, x3], st, a, h) = Rn 237 (807, [some (.ref q), x1, x2, x3], .ref q :: st, a, h) := Rn_go c237_806 rfl
theorem c237_807 : mcode 237 807 = some (.iload_n 3, 1, 0, 0, 0) := rfl
theorem r237_807 : Rn 237 (807, [x0, x1, x2, some (.int i)], st, a, h) = Rn 237 (808, [x0, x1, x2, some (.int i)], .int i :: st, a, h) := Rn_go c237_807 rfl
theorem c237_808 : mcode 237 808 = some (.iconst 2, 1, 0, 0, 0) := rfl
theorem r237_808 : Rn 237 (808, [x0, x1, x2, x3], st, a, h) = Rn 237 (809, [x0, x1, x2, x3], .int (2 : Int32) :: st, a, h) := Rn_go c237_808 rfl
theorem c237_809 : mcode 237 809 = some (.iadd, 1, 0, 0, 0) := rfl
theorem r237_809 : Rn 237 (809, [x0, x1, x2, x3], .int j :: .int i :: st, a, h) = Rn 237 (810, [x0, x1, x2, x3], .int (i + j) :: st, a, h) := Rn_go c237_809 rfl
theorem c237_810 : mcode 237 810 = some (.iaload, 1, 0, 0, 0) := rfl
theorem r237_810 : Rn 237 (810, [x0, x1, x2, x3], .int i :: .ref q :: st, a, h) = Ki 237 811 [x0, x1, x2, x3] st a h (mld h q i false) := Rn_iald c237_810 rfl
theorem c237_811 : mcode 237 811 = some (.invokevirtual 88, 3, 81, 2, 5) := rfl
theorem r237_811 : Rn 237 (811, [x0, x1, x2, x3], [v1, v0, .ref q], a, h) = if mis h q 5 = true then Bk 237 814 [x0, x1, x2, x3] [] (Ec 81 [.ref q, v0, v1] a h) else none := Rn_call1 c237_811 rfl (Nat.le_of_ble_eq_true rfl) rfl rfl (Nat.le_of_ble_eq_true rfl)
theorem c237_814 : mcode 237 814 = some (.aload_n 2, 1, 0, 0, 0) := rfl
theorem r237_814 : Rn 237 (814, [x0, x1, some (.ref q), x3], st, a, h) = Rn 237 (815, [x0, x1, some (.ref q), x3], .ref q :: st, a, h) := Rn_go c237_814 rfl
theorem c237_815 : mcode 237 815 = some (.aload_n 0, 1, 0, 0, 0) := rfl
theorem r237_815 : Rn 237 (815, [some (.ref q), x1, x2, x3], st, a, h) = Rn 237 (816, [some (.ref q), x1, x2, x3], .ref q :: st, a, h) := Rn_go c237_815 rfl
theorem c237_816 : mcode 237 816 = some (.iload_n 3, 1, 0, 0, 0) := rfl
theorem r237_816 : Rn 237 (816, [x0, x1, x2, some (.int i)], st, a, h) = Rn 237 (817, [x0, x1, x2, some (.int i)], .int i :: st, a, h) := Rn_go c237_816 rfl
theorem c237_817 : mcode 237 817 = some (.iconst 1, 1, 0, 0, 0) := rfl
theorem r237_817 : Rn 237 (817, [x0, x1, x2, x3], st, a, h) = Rn 237 (818, [x0, x1, x2, x3], .int (1 : Int32) :: st, a, h) := Rn_go c237_817 rfl
theorem c237_818 : mcode 237 818 = some (.iadd, 1, 0, 0, 0) := rfl
theorem r237_818 : Rn 237 (818, [x0, x1, x2, x3], .int j :: .int i :: st, a, h) = Rn 237 (819, [x0, x1, x2, x3], .int (i + j) :: st, a, h) := Rn_go c237_818 rfl
theorem c237_819 : mcode 237 819 = some (.iaload, 1, 0, 0, 0) := rfl
theorem r237_819 : Rn 237 (819, [x0, x1, x2, x3], .int i :: .ref q :: st, a, h) = Ki 237 820 [x0, x1, x2, x3] st a h (mld h q i false) := Rn_iald c237_819 rfl
theorem c237_820 : mcode 237 820 = some (.aload_n 0, 1, 0, 0, 0) := rfl
theorem r237_820 : Rn 237 (820, [some (.ref q), x1, x2, x3], st, a, h) = Rn 237 (821, [some (.ref q), x1, x2, x3], .ref q :: st, a, h) := Rn_go c237_820 rfl
theorem c237_821 : mcode 237 821 = some (.iload_n 3, 1, 0, 0, 0) := rfl
theorem r237_821 : Rn 237 (821, [x0, x1, x2, some (.int i)], st, a, h) = Rn 237 (822, [x0, x1, x2, some (.int i)], .int i :: st, a, h) := Rn_go c237_821 rfl
theorem c237_822 : mcode 237 822 = some (.iconst 2, 1, 0, 0, 0) := rfl
theorem r237_822 : Rn 237 (822, [x0, x1, x2, x3], st, a, h) = Rn 237 (823, [x0, x1, x2, x3], .int (2 : Int32) :: st, a, h) := Rn_go c237_822 rfl
theorem c237_823 : mcode 237 823 = some (.iadd, 1, 0, 0, 0) := rfl
theorem r237_823 : Rn 237 (823, [x0, x1, x2, x3], .int j :: .int i :: st, a, h) = Rn 237 (824, [x0, x1, x2, x3], .int (i + j) :: st, a, h) := Rn_go c237_823 rfl
theorem c237_824 : mcode 237 824 = some (.iaload, 1, 0, 0, 0) := rfl
theorem r237_824 : Rn 237 (824, [x0, x1, x2, x3], .int i :: .ref q :: st, a, h) = Ki 237 825 [x0, x1, x2, x3] st a h (mld h q i false) := Rn_iald c237_824 rfl
theorem c237_825 : mcode 237 825 = some (.invokevirtual 91, 3, 178, 2, 6) := rfl
theorem r237_825 : Rn 237 (825, [x0, x1, x2, x3], [v1, v0, .ref q, .int i0], a, h) = if mis h q 6 = true then Bk 237 828 [x0, x1, x2, x3] [.int i0] (Ec 178 [.ref q, v0, v1] a h) else none := Rn_call1 c237_825 rfl (Nat.le_of_ble_eq_true rfl) rfl rfl (Nat.le_of_ble_eq_true rfl)
theorem c237_828 : mcode 237 828 = some (.if_icmp .eq 675, 3, 0, 0, 0) := rfl
theorem r237_828 : Rn 237 (828, [x0, x1, x2, x3], .int j :: .int i :: st, a, h) = if i = j then Rn 237 (1503, [x0, x1, x2, x3], st, a, h) else Rn 237 (831, [x0, x1, x2, x3], st, a, h) := Rn_icmp c237_828 mc_eq rfl rfl
theorem c237_831 : mcode 237 831 = some (.iconst 0, 1, 0, 0, 0) := rfl
theorem r237_831 : Rn 237 (831, [x0, x1, x2, x3], st, a, h) = Rn 237 (832, [x0, x1, x2, x3], .int (0 : Int32) :: st, a, h) := Rn_go c237_831 rfl
theorem c237_832 : mcode 237 832 = some (.ireturn, 1, 1, 0, 0) := rfl
theorem r237_832 : Rn 237 (832, [x0, x1, x2, x3], [.int i], a, h) = if mrt 1 i = true then some (some (.int i), a, h) else none := Rn_iretz c237_832
theorem c237_833 : mcode 237 833 = some (.aload_n 1, 1, 0, 0, 0) := rfl
theorem r237_833 : Rn 237 (833, [x0, some (.ref q), x2, x3], st, a, h) = Rn 237 (834, [x0, some (.ref q), x2, x3], .ref q :: st, a, h) := Rn_go c237_833 rfl
theorem c237_834 : mcode 237 834 = some (.aload_n 0, 1, 0, 0, 0) := rfl
theorem r237_834 : Rn 237 (834, [some (.ref q), x1, x2, x3], st, a, h) = Rn 237 (835, [some (.ref q), x1, x2, x3], .ref q :: st, a, h) := Rn_go c237_834 rfl
theorem c237_835 : mcode 237 835 = some (.iload_n 3, 1, 0, 0, 0) := rfl
theorem r237_835 : Rn 237 (835, [x0, x1, x2, some (.int i)], st, a, h) = Rn 237 (836, [x0, x1, x2, some (.int i)], .int i :: st, a, h) := Rn_go c237_835 rfl
theorem c237_836 : mcode 237 836 = some (.iconst 1, 1, 0, 0, 0) := rfl
theorem r237_836 : Rn 237 (836, [x0, x1, x2, x3], st, a, h) = Rn 237 (837, [x0, x1, x2, x3], .int (1 : Int32) :: st, a, h) := Rn_go c237_836 rfl
theorem c237_837 : mcode 237 837 = some (.iadd, 1, 0, 0, 0) := rfl
theorem r237_837 : Rn 237 (837, [x0, x1, x2, x3], .int j :: .int i :: st, a, h) = Rn 237 (838, [x0, x1, x2, x3], .int (i + j) :: st, a, h) := Rn_go c237_837 rfl
theorem c237_838 : mcode 237 838 = some (.iaload, 1, 0, 0, 0) := rfl
theorem r237_838 : Rn 237 (838, [x0, x1, x2, x3], .int i :: .ref q :: st, a, h) = Ki 237 839 [x0, x1, x2, x3] st a h (mld h q i false) := Rn_iald c237_838 rfl
theorem c237_839 : mcode 237 839 = some (.aload_n 0, 1, 0, 0, 0) := rfl
theorem r237_839 : Rn 237 (839, [some (.ref q), x1, x2, x3], st, a, h) = Rn 237 (840, [some (.ref q), x1, x2, x3], .ref q :: st, a, h) := Rn_go c237_839 rfl
theorem c237_840 : mcode 237 840 = some (.iload_n 3, 1, 0, 0, 0) := rfl
theorem r237_840 : Rn 237 (840, [x0, x1, x2, some (.int i)], st, a, h) = Rn 237 (841, [x0, x1, x2, some (.int i)], .int i :: st, a, h) := Rn_go c237_840 rfl
theorem c237_841 : mcode 237 841 = some (.iconst 2, 1, 0, 0, 0) := rfl
theorem r237_841 : Rn 237 (841, [x0, x1, x2, x3], st, a, h) = Rn 237 (842, [x0, x1, x2, x3], .int (2 : Int32) :: st, a, h) := Rn_go c237_841 rfl
theorem c237_842 : mcode 237 842 = some (.iadd, 1, 0, 0, 0) := rfl
theorem r237_842 : Rn 237 (842, [x0, x1, x2, x3], .int j :: .int i :: st, a, h) = Rn 237 (843, [x0, x1, x2, x3], .int (i + j) :: st, a, h) := Rn_go c237_842 rfl
theorem c237_843 : mcode 237 843 = some (.iaload, 1, 0, 0, 0) := rfl
theorem r237_843 : Rn 237 (843, [x0, x1, x2, x3], .int i :: .ref q :: st, a, h) = Ki 237 844 [x0, x1, x2, x3] st a h (mld h q i false) := Rn_iald c237_843 rfl
theorem c237_844 : mcode 237 844 = some (.invokevirtual 92, 3, 82, 2, 5) := rfl
theorem r237_844 : Rn 237 (844, [x0, x1, x2, x3], [v1, v0, .ref q], a, h) = if mis h q 5 = true then Bk 237 847 [x0, x1, x2, x3] [] (Ec 82 [.ref q, v0, v1] a h) else none := Rn_call1 c237_844 rfl (Nat.le_of_ble_eq_true rfl) rfl rfl (Nat.le_of_ble_eq_true rfl)
theorem c237_847 : mcode 237 847 = some (.aload_n 2, 1, 0, 0, 0) := rfl
theorem r237_847 : Rn 237 (847, [x0, x1, some (.ref q), x3], st, a, h) = Rn 237 (848, [x0, x1, some (.ref q), x3], .ref q :: st, a, h) := Rn_go c237_847 rfl
theorem c237_848 : mcode 237 848 = some (.aload_n 0, 1, 0, 0, 0) := rfl
theorem r237_848 : Rn 237 (848, [some (.ref q), x1, x2, x3], st, a, h) = Rn 237 (849, [some (.ref q), x1, x2, x3], .ref q :: st, a, h) := Rn_go c237_848 rfl
theorem c237_849 : mcode 237 849 = some (.iload_n 3, 1, 0, 0, 0) := rfl
theorem r237_849 : Rn 237 (849, [x0, x1, x2, some (.int i)], st, a, h) = Rn 237 (850, [x0, x1, x2, some (.int i)], .int i :: st, a, h) := Rn_go c237_849 rfl
theorem c237_850 : mcode 237 850 = some (.iconst 1, 1, 0, 0, 0) := rfl
theorem r237_850 : Rn 237 (850, [x0, x1, x2, x3], st, a, h) = Rn 237 (851, [x0, x1, x2, x3], .int (1 : Int32) :: st, a, h) := Rn_go c237_850 rfl
theorem c237_851 : mcode 237 851 = some (.iadd, 1, 0, 0, 0) := rfl
theorem r237_851 : Rn 237 (851, [x0, x1, x2, x3], .int j :: .int i :: st, a, h) = Rn 237 (852, [x0, x1, x2, x3], .int (i + j) :: st, a, h) := Rn_go c237_851 rfl
theorem c237_852 : mcode 237 852 = some (.iaload, 1, 0, 0, 0) := rfl
theorem r237_852 : Rn 237 (852, [x0, x1, x2, x3], .int i :: .ref q :: st, a, h) = Ki 237 853 [x0, x1, x2, x3] st a h (mld h q i false) := Rn_iald c237_852 rfl
theorem c237_853 : mcode 237 853 = some (.aload_n 0, 1, 0, 0, 0) := rfl
theorem r237_853 : Rn 237 (853, [some (.ref q), x1, x2, x3], st, a, h) = Rn 237 (854, [some (.ref q), x1, x2, x3], .ref q :: st, a, h) := Rn_go c237_853 rfl
theorem c237_854 : mcode 237 854 = some (.iload_n 3, 1, 0, 0, 0) := rfl
theorem r237_854 : Rn 237 (854, [x0, x1, x2, some (.int i)], st, a, h) = Rn 237 (855, [x0, x1, x2, some (.int i)], .int i :: st, a, h) := Rn_go c237_854 rfl
theorem c237_855 : mcode 237 855 = some (.iconst 2, 1, 0, 0, 0) := rfl
theorem r237_855 : Rn 237 (855, [x0, x1, x2, x3], st, a, h) = Rn 237 (856, [x0, x1, x2, x3], .int (2 : Int32) :: st, a, h) := Rn_go c237_855 rfl
theorem c237_856 : mcode 237 856 = some (.iadd, 1, 0, 0, 0) := rfl
theorem r237_856 : Rn 237 (856, [x0, x1, x2, x3], .int j :: .int i :: st, a, h) = Rn 237 (857, [x0, x1, x2, x3], .int (i + j) :: st, a, h) := Rn_go c237_856 rfl
theorem c237_857 : mcode 237 857 = some (.iaload, 1, 0, 0, 0) := rfl
theorem r237_857 : Rn 237 (857, [x0, x1, x2, x3], .int i :: .ref q :: st, a, h) = Ki 237 858 [x0, x1, x2, x3] st a h (mld h q i false) := Rn_iald c237_857 rfl
theorem c237_858 : mcode 237 858 = some (.invokevirtual 95, 3, 180, 2, 6) := rfl
theorem r237_858 : Rn 237 (858, [x0, x1, x2, x3], [v1, v0, .ref q, .int i0], a, h) = if mis h q 6 = true then Bk 237 861 [x0, x1, x2, x3] [.int i0] (Ec 180 [.ref q, v0, v1] a h) else none := Rn_call1 c237_858 rfl (Nat.le_of_ble_eq_true rfl) rfl rfl (Nat.le_of_ble_eq_true rfl)
theorem c237_861 : mcode 237 861 = some (.if_icmp .eq 642, 3, 0, 0, 0) := rfl
theorem r237_861 : Rn 237 (861, [x0, x1, x2, x3], .int j :: .int i :: st, a, h) = if i = j then Rn 237 (1503, [x0, x1, x2, x3], st, a, h) else Rn 237 (864, [x0, x1, x2, x3], st, a, h) := Rn_icmp c237_861 mc_eq rfl rfl
theorem c237_864 : mcode 237 864 = some (.iconst 0, 1, 0, 0, 0) := rfl
theorem r237_864 : Rn 237 (864, [x0, x1, x2, x3], st, a, h) = Rn 237 (865, [x0, x1, x2, x3], .int (0 : Int32) :: st, a, h) := Rn_go c237_864 rfl
theorem c237_865 : mcode 237 865 = some (.ireturn, 1, 1, 0, 0) := rfl
theorem r237_865 : Rn 237 (865, [x0, x1, x2, x3], [.int i], a, h) = if mrt 1 i = true then some (some (.int i), a, h) else none := Rn_iretz c237_865
theorem c237_866 : mcode 237 866 = some (.aload_n 1, 1, 0, 0, 0) := rfl
theorem r237_866 : Rn 237 (866, [x0, some (.ref q), x2, x3], st, a, h) = Rn 237 (867, [x0, some (.ref q), x2, x3], .ref q :: st, a, h) := Rn_go c237_866 rfl
theorem c237_867 : mcode 237 867 = some (.aload_n 0, 1, 0, 0, 0) := rfl
theorem r237_867 : Rn 237 (867, [some (.ref q), x1, x2, x3], st, a, h) = Rn 237 (868, [some (.ref q), x1, x2, x3], .ref q :: st, a, h) := Rn_go c237_867 rfl
theorem c237_868 : mcode 237 868 = some (.iload_n 3, 1, 0, 0, 0) := rfl
theorem r237_868 : Rn 237 (868, [x0, x1, x2, some (.int i)], st, a, h) = Rn 237 (869, [x0, x1, x2, some (.int i)], .int i :: st, a, h) := Rn_go c237_868 rfl
theorem c237_869 : mcode 237 869 = some (.iconst 1, 1, 0, 0, 0) := rfl
theorem r237_869 : Rn 237 (869, [x0, x1, x2, x3], st, a, h) = Rn 237 (870, [x0, x1, x2, x3], .int (1 : Int32) :: st, a, h) := Rn_go c237_869 rfl
theorem c237_870 : mcode 237 870 = some (.iadd, 1, 0, 0, 0) := rfl
theorem r237_870 : Rn 237 (870, [x0, x1, x2, x3], .int j :: .int i :: st, a, h) = Rn 237 (871, [x0, x1, x2, x3], .int (i + j) :: st, a, h) := Rn_go c237_870 rfl
theorem c237_871 : mcode 237 871 = some (.iaload, 1, 0, 0, 0) := rfl
theorem r237_871 : Rn 237 (871, [x0, x1, x2, x3], .int i :: .ref q :: st, a, h) = Ki 237 872 [x0, x1, x2, x3] st a h (mld h q i false) := Rn_iald c237_871 rfl
theorem c237_872 : mcode 237 872 = some (.aload_n 0, 1, 0, 0, 0) := rfl
theorem r237_872 : Rn 237 (872, [some (.ref q), x1, x2, x3], st, a, h) = Rn 237 (873, [some (.ref q), x1, x2, x3], .ref q :: st, a, h) := Rn_go c237_872 rfl
theorem c237_873 : mcode 237 873 = some (.iload_n 3, 1, 0, 0, 0) := rfl
theorem r237_873 : Rn 237 (873, [x0, x1, x2, some (.int i)], st, a, h) = Rn 237 (874, [x0, x1, x2, some (.int i)], .int i :: st, a, h) := Rn_go c237_873 rfl
theorem c237_874 : mcode 237 874 = some (.iconst 2, 1, 0, 0, 0) := rfl
theorem r237_874 : Rn 237 (874, [x0, x1, x2, x3], st, a, h) = Rn 237 (875, [x0, x1, x2, x3], .int (2 : Int32) :: st, a, h) := Rn_go c237_874 rfl
theorem c237_875 : mcode 237 875 = some (.iadd, 1, 0, 0, 0) := rfl
theorem r237_875 : Rn 237 (875, [x0, x1, x2, x3], .int j :: .int i :: st, a, h) = Rn 237 (876, [x0, x1, x2, x3], .int (i + j) :: st, a, h) := Rn_go c237_875 rfl
theorem c237_876 : mcode 237 876 = some (.iaload, 1, 0, 0, 0) := rfl
theorem r237_876 : Rn 237 (876, [x0, x1, x2, x3], .int i :: .ref q :: st, a, h) = Ki 237 877 [x0, x1, x2, x3] st a h (mld h q i false) := Rn_iald c237_876 rfl
theorem c237_877 : mcode 237 877 = some (.invokevirtual 96, 3, 83, 2, 5) := rfl
theorem r237_877 : Rn 237 (877, [x0, x1, x2, x3], [v1, v0, .ref q], a, h) = if mis h q 5 = true then Bk 237 880 [x0, x1, x2, x3] [] (Ec 83 [.ref q, v0, v1] a h) else none := Rn_call1 c237_877 rfl (Nat.le_of_ble_eq_true rfl) rfl rfl (Nat.le_of_ble_eq_true rfl)
theorem c237_880 : mcode 237 880 = some (.aload_n 2, 1, 0, 0, 0) := rfl
theorem r237_880 : Rn 237 (880, [x0, x1, some (.ref q), x3], st, a, h) = Rn 237 (881, [x0, x1, some (.ref q), x3], .ref q :: st, a, h) := Rn_go c237_880 rfl
theorem c237_881 : mcode 237 881 = some (.aload_n 0, 1, 0, 0, 0) := rfl
theorem r237_881 : Rn 237 (881, [some (.ref q), x1, x2, x3], st, a, h) = Rn 237 (882, [some (.ref q), x1, x2, x3], .ref q :: st, a, h) := Rn_go c237_881 rfl
theorem c237_882 : mcode 237 882 = some (.iload_n 3, 1, 0, 0, 0) := rfl
theorem r237_882 : Rn 237 (882, [x0, x1, x2, some (.int i)], st, a, h) = Rn 237 (883, [x0, x1, x2, some (.int i)], .int i :: st, a, h) := Rn_go c237_882 rfl
theorem c237_883 : mcode 237 883 = some (.iconst 1, 1, 0, 0, 0) := rfl
theorem r237_883 : Rn 237 (883, [x0, x1, x2, x3], st, a, h) = Rn 237 (884, [x0, x1, x2, x3], .int (1 : Int32) :: st, a, h) := Rn_go c237_883 rfl
theorem c237_884 : mcode 237 884 = some (.iadd, 1, 0, 0, 0) := rfl
theorem r237_884 : Rn 237 (884, [x0, x1, x2, x3], .int j :: .int i :: st, a, h) = Rn 237 (885, [x0, x1, x2, x3], .int (i + j) :: st, a, h) := Rn_go c237_884 rfl
theorem c237_885 : mcode 237 885 = some (.iaload, 1, 0, 0, 0) := rfl
theorem r237_885 : Rn 237 (885, [x0, x1, x2, x3], .int i :: .ref q :: st, a, h) = Ki 237 886 [x0, x1, x2, x3] st a h (mld h q i false) := Rn_iald c237_885 rfl
theorem c237_886 : mcode 237 886 = some (.aload_n 0, 1, 0, 0, 0) := rfl
theorem r237_886 : Rn 237 (886, [some (.ref q), x1, x2, x3], st, a, h) = Rn 237 (887, [some (.ref q), x1, x2, x3], .ref q :: st, a, h) := Rn_go c237_886 rfl
theorem c237_887 : mcode 237 887 = some (.iload_n 3, 1, 0, 0, 0) := rfl
theorem r237_887 : Rn 237 (887, [x0, x1, x2, some (.int i)], st, a, h) = Rn 237 (888, [x0, x1, x2, some (.int i)], .int i :: st, a, h) := Rn_go c237_887 rfl
theorem c237_888 : mcode 237 888 = some (.iconst 2, 1, 0, 0, 0) := rfl
theorem r237_888 : Rn 237 (888, [x0, x1, x2, x3], st, a, h) = Rn 237 (889, [x0, x1, x2, x3], .int (2 : Int32) :: st, a, h) := Rn_go c237_888 rfl
theorem c237_889 : mcode 237 889 = some (.iadd, 1, 0, 0, 0) := rfl
theorem r237_889 : Rn 237 (889, [x0, x1, x2, x3], .int j :: .int i :: st, a, h) = Rn 237 (890, [x0, x1, x2, x3], .int (i + j) :: st, a, h) := Rn_go c237_889 rfl
theorem c237_890 : mcode 237 890 = some (.iaload, 1, 0, 0, 0) := rfl
theorem r237_890 : Rn 237 (890, [x0, x1, x2, x3], .int i :: .ref q :: st, a, h) = Ki 237 891 [x0, x1, x2, x3] st a h (mld h q i false) := Rn_iald c237_890 rfl
theorem c237_891 : mcode 237 891 = some (.invokevirtual 99, 3, 181, 2, 6) := rfl
theorem r237_891 : Rn 237 (891, [x0, x1, x2, x3], [v1, v0, .ref q, .int i0], a, h) = if mis h q 6 = true then Bk 237 894 [x0, x1, x2, x3] [.int i0] (Ec 181 [.ref q, v0, v1] a h) else none := Rn_call1 c237_891 rfl (Nat.le_of_ble_eq_true rfl) rfl rfl (Nat.le_of_ble_eq_true rfl)
theorem c237_894 : mcode 237 894 = some (.if_icmp .eq 609, 3, 0, 0, 0) := rfl
theorem r237_894 : Rn 237 (894, [x0, x1, x2, x3], .int j :: .int i :: st, a, h) = if i = j then Rn 237 (1503, [x0, x1, x2, x3], st, a, h) else Rn 237 (897, [x0, x1, x2, x3], st, a, h) := Rn_icmp c237_894 mc_eq rfl rfl
theorem c237_897 : mcode 237 897 = some (.iconst 0, 1, 0, 0, 0) := rfl
theorem r237_897 : Rn 237 (897, [x0, x1, x2, x3], st, a, h) = Rn 237 (898, [x0, x1, x2, x3], .int (0 : Int32) :: st, a, h) := Rn_go c237_897 rfl
theorem c237_898 : mcode 237 898 = some (.ireturn, 1, 1, 0, 0) := rfl
theorem r237_898 : Rn 237 (898, [x0, x1, x2, x3], [.int i], a, h) = if mrt 1 i = true then some (some (.int i), a, h) else none := Rn_iretz c237_898
theorem c237_899 : mcode 237 899 = some (.aload_n 1, 1, 0, 0, 0) := rfl
theorem r237_899 : Rn 237 (899, [x0, some (.ref q), x2, x3], st, a, h) = Rn 237 (900, [x0, some (.ref q), x2, x3], .ref q :: st, a, h) := Rn_go c237_899 rfl
theorem c237_900 : mcode 237 900 = some (.aload_n 0, 1, 0, 0, 0) := rfl
theorem r237_900 : Rn 237 (900, [some (.ref q), x1, x2, x3], st, a, h) = Rn 237 (901, [some (.ref q), x1, x2, x3], .ref q :: st, a, h) := Rn_go c237_900 rfl
theorem c237_901 : mcode 237 901 = some (.iload_n 3, 1, 0, 0, 0) := rfl
theorem r237_901 : Rn 237 (901, [x0, x1, x2, some (.int i)], st, a, h) = Rn 237 (902, [x0, x1, x2, some (.int i)], .int i :: st, a, h) := Rn_go c237_901 rfl
theorem c237_902 : mcode 237 902 = some (.iconst 1, 1, 0, 0, 0) := rfl
theorem r237_902 : Rn 237 (902, [x0, x1, x2, x3], st, a, h) = Rn 237 (903, [x0, x1, x2, x3], .int (1 : Int32) :: st, a, h) := Rn_go c237_902 rfl
theorem c237_903 : mcode 237 903 = some (.iadd, 1, 0, 0, 0) := rfl
theorem r237_903 : Rn 237 (903, [x0, x1, x2, x3], .int j :: .int i :: st, a, h) = Rn 237 (904, [x0, x1, x2, x3], .int (i + j) :: st, a, h) := Rn_go c237_903 rfl
theorem c237_904 : mcode 237 904 = some (.iaload, 1, 0, 0, 0) := rfl
theorem r237_904 : Rn 237 (904, [x0, x1, x2, x3], .int i :: .ref q :: st, a, h) = Ki 237 905 [x0, x1, x2, x3] st a h (mld h q i false) := Rn_iald c237_904 rfl
theorem c237_905 : mcode 237 905 = some (.aload_n 0, 1, 0, 0, 0) := rfl
theorem r237_905 : Rn 237 (905, [some (.ref q), x1, x2, x3], st, a, h) = Rn 237 (906, [some (.ref q), x1, x2, x3], .ref q :: st, a, h) := Rn_go c237_905 rfl
theorem c237_906 : mcode 237 906 = some (.iload_n 3, 1, 0, 0, 0) := rfl
theorem r237_906 : Rn 237 (906, [x0, x1, x2, some (.int i)], st, a, h) = Rn 237 (907, [x0, x1, x2, some (.int i)], .int i :: st, a, h) := Rn_go c237_906 rfl
theorem c237_907 : mcode 237 907 = some (.iconst 2, 1, 0, 0, 0) := rfl
theorem r237_907 : Rn 237 (907, [x0, x1, x2, x3], st, a, h) = Rn 237 (908, [x0, x1, x2, x3], .int (2 : Int32) :: st, a, h) := Rn_go c237_907 rfl
theorem c237_908 : mcode 237 908 = some (.iadd, 1, 0, 0, 0) := rfl
theorem r237_908 : Rn 237 (908, [x0, x1, x2, x3], .int j :: .int i :: st, a, h) = Rn 237 (909, [x0, x1, x2, x3], .int (i + j) :: st, a, h) := Rn_go c237_908 rfl
theorem c237_909 : mcode 237 909 = some (.iaload, 1, 0, 0, 0) := rfl
theorem r237_909 : Rn 237 (909, [x0, x1, x2, x3], .int i :: .ref q :: st, a, h) = Ki 237 910 [x0, x1, x2, x3] st a h (mld h q i false) := Rn_iald c237_909 rfl
theorem c237_910 : mcode 237 910 = some (.aload_n 0, 1, 0, 0, 0) := rfl
theorem r237_910 : Rn 237 (910, [some (.ref q), x1, x2, x3], st, a, h) = Rn 237 (911, [some (.ref q), x1, x2, x3], .ref q :: st, a, h) := Rn_go c237_910 rfl
theorem c237_911 : mcode 237 911 = some (.iload_n 3, 1, 0, 0, 0) := rfl
theorem r237_911 : Rn 237 (911, [x0, x1, x2, some (.int i)], st, a, h) = Rn 237 (912, [x0, x1, x2, some (.int i)], .int i :: st, a, h) := Rn_go c237_911 rfl
theorem c237_912 : mcode 237 912 = some (.iconst 3, 1, 0, 0, 0) := rfl
theorem r237_912 : Rn 237 (912, [x0, x1, x2, x3], st, a, h) = Rn 237 (913, [x0, x1, x2, x3], .int (3 : Int32) :: st, a, h) := Rn_go c237_912 rfl
theorem c237_913 : mcode 237 913 = some (.iadd, 1, 0, 0, 0) := rfl
theorem r237_913 : Rn 237 (913, [x0, x1, x2, x3], .int j :: .int i :: st, a, h) = Rn 237 (914, [x0, x1, x2, x3], .int (i + j) :: st, a, h) := Rn_go c237_913 rfl
theorem c237_914 : mcode 237 914 = some (.iaload, 1, 0, 0, 0) := rfl
theorem r237_914 : Rn 237 (914, [x0, x1, x2, x3], .int i :: .ref q :: st, a, h) = Ki 237 915 [x0, x1, x2, x3] st a h (mld h q i false) := Rn_iald c237_914 rfl
theorem c237_915 : mcode 237 915 = some (.invokevirtual 100, 3, 84, 3, 5) := rfl
theorem r237_915 : Rn 237 (915, [x0, x1, x2, x3], [v2, v1, v0, .ref q], a, h) = if mis h q 5 = true then Bk 237 918 [x0, x1, x2, x3] [] (Ec 84 [.ref q, v0, v1, v2] a h) else none := Rn_call1 c237_915 rfl (Nat.le_of_ble_eq_true rfl) rfl rfl (Nat.le_of_ble_eq_true rfl)
theorem c237_918 : mcode 237 918 = some (.aload_n 2, 1, 0, 0, 0) := rfl
theorem r237_918 : Rn 237 (918, [x0, x1, some (.ref q), x3], st, a, h) = Rn 237 (919, [x0, x1, some (.ref q), x3], .ref q :: st, a, h) := Rn_go c237_918 rfl
theorem c237_919 : mcode 237 919 = some (.aload_n 0, 1, 0, 0, 0) := rfl
theorem r237_919 : Rn 237 (919, [some (.ref q), x1, x2, x3], st, a, h) = Rn 237 (920, [some (.ref q), x1, x2, x3], .ref q :: st, a, h) := Rn_go c237_919 rfl
theorem c237_920 : mcode 237 920 = some (.iload_n 3, 1, 0, 0, 0) := rfl
theorem r237_920 : Rn 237 (920, [x0, x1, x2, some (.int i)], st, a, h) = Rn 237 (921, [x0, x1, x2, some (.int i)], .int i :: st, a, h) := Rn_go c237_920 rfl
theorem c237_921 : mcode 237 921 = some (.iconst 1, 1, 0, 0, 0) := rfl
theorem r237_921 : Rn 237 (921, [x0, x1, x2, x3], st, a, h) = Rn 237 (922, [x0, x1, x2, x3], .int (1 : Int32) :: st, a, h) := Rn_go c237_921 rfl
theorem c237_922 : mcode 237 922 = some (.iadd, 1, 0, 0, 0) := rfl
theorem r237_922 : Rn 237 (922, [x0, x1, x2, x3], .int j :: .int i :: st, a, h) = Rn 237 (923, [x0, x1, x2, x3], .int (i + j) :: st, a, h) := Rn_go c237_922 rfl
theorem c237_923 : mcode 237 923 = some (.iaload, 1, 0, 0, 0) := rfl
theorem r237_923 : Rn 237 (923, [x0, x1, x2, x3], .int i :: .ref q :: st, a, h) = Ki 237 924 [x0, x1, x2, x3] st a h (mld h q i false) := Rn_iald c237_923 rfl
theorem c237_924 : mcode 237 924 = some (.aload_n 0, 1, 0, 0, 0) := rfl
theorem r237_924 : Rn 237 (924, [some (.ref q), x1, x2, x3], st, a, h) = Rn 237 (925, [some (.ref q), x1, x2, x3], .ref q :: st, a, h) := Rn_go c237_924 rfl
theorem c237_925 : mcode 237 925 = some (.iload_n 3, 1, 0, 0, 0) := rfl
theorem r237_925 : Rn 237 (925, [x0, x1, x2, some (.int i)], st, a, h) = Rn 237 (926, [x0, x1, x2, some (.int i)], .int i :: st, a, h) := Rn_go c237_925 rfl
theorem c237_926 : mcode 237 926 = some (.iconst 2, 1, 0, 0, 0) := rfl
theorem r237_926 : Rn 237 (926, [x0, x1, x2, x3], st, a, h) = Rn 237 (927, [x0, x1, x2, x3], .int (2 : Int32) :: st, a, h) := Rn_go c237_926 rfl
theorem c237_927 : mcode 237 927 = some (.iadd, 1, 0, 0, 0) := rfl
theorem r237_927 : Rn 237 (927, [x0, x1, x2, x3], .int j :: .int i :: st, a, h) = Rn 237 (928, [x0, x1, x2, x3], .int (i + j) :: st, a, h) := Rn_go c237_927 rfl
theorem c237_928 : mcode 237 928 = some (.iaload, 1, 0, 0, 0) := rfl
theorem r237_928 : Rn 237 (928, [x0, x1, x2, x3], .int i :: .ref q :: st, a, h) = Ki 237 929 [x0, x1, x2, x3] st a h (mld h q i false) := Rn_iald c237_928 rfl
theorem c237_929 : mcode 237 929 = some (.aload_n 0, 1, 0, 0, 0) := rfl
theorem r237_929 : Rn 237 (929, [some (.ref q), x1, x2, x3], st, a, h) = Rn 237 (930, [some (.ref q), x1, x2, x3], .ref q :: st, a, h) := Rn_go c237_929 rfl
theorem c237_930 : mcode 237 930 = some (.iload_n 3, 1, 0, 0, 0) := rfl
theorem r237_930 : Rn 237 (930, [x0, x1, x2, some (.int i)], st, a, h) = Rn 237 (931, [x0, x1, x2, some (.int i)], .int i :: st, a, h) := Rn_go c237_930 rfl
theorem c237_931 : mcode 237 931 = some (.iconst 3, 1, 0, 0, 0) := rfl
theorem r237_931 : Rn 237 (931, [x0, x1, x2, x3], st, a, h) = Rn 237 (932, [x0, x1, x2, x3], .int (3 : Int32) :: st, a, h) := Rn_go c237_931 rfl
theorem c237_932 : mcode 237 932 = some (.iadd, 1, 0, 0, 0) := rfl
theorem r237_932 : Rn 237 (932, [x0, x1, x2, x3], .int j :: .int i :: st, a, h) = Rn 237 (933, [x0, x1, x2, x3], .int (i + j) :: st, a, h) := Rn_go c237_932 rfl
theorem c237_933 : mcode 237 933 = some (.iaload, 1, 0, 0, 0) := rfl
theorem r237_933 : Rn 237 (933, [x0, x1, x2, x3], .int i :: .ref q :: st, a, h) = Ki 237 934 [x0, x1, x2, x3] st a h (mld h q i false) := Rn_iald c237_933 rfl
theorem c237_934 : mcode 237 934 = some (.invokevirtual 103, 3, 185, 3, 6) := rfl
theorem r237_934 : Rn 237 (934, [x0, x1, x2, x3], [v2, v1, v0, .ref q, .int i0], a, h) = if mis h q 6 = true then Bk 237 937 [x0, x1, x2, x3] [.int i0] (Ec 185 [.ref q, v0, v1, v2] a h) else none := Rn_call1 c237_934 rfl (Nat.le_of_ble_eq_true rfl) rfl rfl (Nat.le_of_ble_eq_true rfl)
theorem c237_937 : mcode 237 937 = some (.if_icmp .eq 566, 3, 0, 0, 0) := rfl
theorem r237_937 : Rn 237 (937, [x0, x1, x2, x3], .int j :: .int i :: st, a, h) = if i = j then Rn 237 (1503, [x0, x1, x2, x3], st, a, h) else Rn 237 (940, [x0, x1, x2, x3], st, a, h) := Rn_icmp c237_937 mc_eq rfl rfl
theorem c237_940 : mcode 237 940 = some (.iconst 0, 1, 0, 0, 0) := rfl
theorem r237_940 : Rn 237 (940, [x0, x1, x2, x3], st, a, h) = Rn 237 (941, [x0, x1, x2, x3], .int (0 : Int32) :: st, a, h) := Rn_go c237_940 rfl
theorem c237_941 : mcode 237 941 = some (.ireturn, 1, 1, 0, 0) := rfl
theorem r237_941 : Rn 237 (941, [x0, x1, x2, x3], [.int i], a, h) = if mrt 1 i = true then some (some (.int i), a, h) else none := Rn_iretz c237_941
theorem c237_942 : mcode 237 942 = some (.aload_n 1, 1, 0, 0, 0) := rfl
theorem r237_942 : Rn 237 (942, [x0, some (.ref q), x2, x3], st, a, h) = Rn 237 (943, [x0, some (.ref q), x2, x3], .ref q :: st, a, h) := Rn_go c237_942 rfl
theorem c237_943 : mcode 237 943 = some (.aload_n 0, 1, 0, 0, 0) := rfl
theorem r237_943 : Rn 237 (943, [some (.ref q), x1, x2, x3], st, a, h) = Rn 237 (944, [some (.ref q), x1, x2, x3], .ref q :: st, a, h) := Rn_go c237_943 rfl
theorem c237_944 : mcode 237 944 = some (.iload_n 3, 1, 0, 0, 0) := rfl
theorem r237_944 : Rn 237 (944, [x0, x1, x2, some (.int i)], st, a, h) = Rn 237 (945, [x0, x1, x2, some (.int i)], .int i :: st, a, h) := Rn_go c237_944 rfl
theorem c237_945 : mcode 237 945 = some (.iconst 1, 1, 0, 0, 0) := rfl
theorem r237_945 : Rn 237 (945, [x0, x1, x2, x3], st, a, h) = Rn 237 (946, [x0, x1, x2, x3], .int (1 : Int32) :: st, a, h) := Rn_go c237_945 rfl
theorem c237_946 : mcode 237 946 = some (.iadd, 1, 0, 0, 0) := rfl
theorem r237_946 : Rn 237 (946, [x0, x1, x2, x3], .int j :: .int i :: st, a, h) = Rn 237 (947, [x0, x1, x2, x3], .int (i + j) :: st, a, h) := Rn_go c237_946 rfl
theorem c237_947 : mcode 237 947 = some (.iaload, 1, 0, 0, 0) := rfl
theorem r237_947 : Rn 237 (947, [x0, x1, x2, x3], .int i :: .ref q :: st, a, h) = Ki 237 948 [x0, x1, x2, x3] st a h (mld h q i false) := Rn_iald c237_947 rfl
theorem c237_948 : mcode 237 948 = some (.aload_n 0, 1, 0, 0, 0) := rfl
theorem r237_948 : Rn 237 (948, [some (.ref q), x1, x2, x3], st, a, h) = Rn 237 (949, [some (.ref q), x1, x2, x3], .ref q :: st, a, h) := Rn_go c237_948 rfl
theorem c237_949 : mcode 237 949 = some (.iload_n 3, 1, 0, 0, 0) := rfl
theorem r237_949 : Rn 237 (949, [x0, x1, x2, some (.int i)], st, a, h) = Rn 237 (950, [x0, x1, x2, some (.int i)], .int i :: st, a, h) := Rn_go c237_949 rfl
theorem c237_950 : mcode 237 950 = some (.iconst 2, 1, 0, 0, 0) := rfl
theorem r237_950 : Rn 237 (950, [x0, x1, x2, x3], st, a, h) = Rn 237 (951, [x0, x1, x2, x3], .int (2 : Int32) :: st, a, h) := Rn_go c237_950 rfl
theorem c237_951 : mcode 237 951 = some (.iadd, 1, 0, 0, 0) := rfl
theorem r237_951 : Rn 237 (951, [x0, x1, x2, x3], .int j :: .int i :: st, a, h) = Rn 237 (952, [x0, x1, x2, x3], .int (i + j) :: st, a, h) := Rn_go c237_951 rfl
theorem c237_952 : mcode 237 952 = some (.iaload, 1, 0, 0, 0) := rfl
theorem r237_952 : Rn 237 (952, [x0, x1, x2, x3], .int i :: .ref q :: st, a, h) = Ki 237 953 [x0, x1, x2, x3] st a h (mld h q i false) := Rn_iald c237_952 rfl
theorem c237_953 : mcode 237 953 = some (.aload_n 0, 1, 0, 0, 0) := rfl
theorem r237_953 : Rn 237 (953, [some (.ref q), x1, x2, x3], st, a, h) = Rn 237 (954, [some (.ref q), x1, x2, x3], .ref q :: st, a, h) := Rn_go c237_953 rfl
theorem c237_954 : mcode 237 954 = some (.iload_n 3, 1, 0, 0, 0) := rfl
theorem r237_954 : Rn 237 (954, [x0, x1, x2, some (.int i)], st, a, h) = Rn 237 (955, [x0, x1, x2, some (.int i)], .int i :: st, a, h) := Rn_go c237_954 rfl
theorem c237_955 : mcode 237 955 = some (.iconst 3, 1, 0, 0, 0) := rfl
theorem r237_955 : Rn 237 (955, [x0, x1, x2, x3], st, a, h) = Rn 237 (956, [x0, x1, x2, x3], .int (3 : Int32) :: st, a, h) := Rn_go c237_955 rfl
theorem c237_956 : mcode 237 956 = some (.iadd, 1, 0, 0, 0) := rfl
theorem r237_956 : Rn 237 (956, [x0, x1, x2, x3], .int j :: .int i :: st, a, h) = Rn 237 (957, [x0, x1, x2, x3], .int (i + j) :: st, a, h) := Rn_go c237_956 rfl
theorem c237_957 : mcode 237 957 = some (.iaload, 1, 0, 0, 0) := rfl
theorem r237_957 : Rn 237 (957, [x0, x1, x2, x3], .int i :: .ref q :: st, a, h) = Ki 237 958 [x0, x1, x2, x3] st a h (mld h q i false) := Rn_iald c237_957 rfl
theorem c237_958 : mcode 237 958 = some (.invokevirtual 104, 3, 85, 3, 5) := rfl
theorem r237_958 : Rn 237 (958, [x0, x1, x2, x3], [v2, v1, v0, .ref q], a, h) = if mis h q 5 = true then Bk 237 961 [x0, x1, x2, x3] [] (Ec 85 [.ref q, v0, v1, v2] a h) else none := Rn_call1 c237_958 rfl (Nat.le_of_ble_eq_true rfl) rfl rfl (Nat.le_of_ble_eq_true rfl)
theorem c237_961 : mcode 237 961 = some (.aload_n 2, 1, 0, 0, 0) := rfl
theorem r237_961 : Rn 237 (961, [x0, x1, some (.ref q), x3], st, a, h) = Rn 237 (962, [x0, x1, some (.ref q), x3], .ref q :: st, a, h) := Rn_go c237_961 rfl
theorem c237_962 : mcode 237 962 = some (.aload_n 0, 1, 0, 0, 0) := rfl
theorem r237_962 : Rn 237 (962, [some (.ref q), x1, x2, x3], st, a, h) = Rn 237 (963, [some (.ref q), x1, x2, x3], .ref q :: st, a, h) := Rn_go c237_962 rfl
theorem c237_963 : mcode 237 963 = some (.iload_n 3, 1, 0, 0, 0) := rfl
theorem r237_963 : Rn 237 (963, [x0, x1, x2, some (.int i)], st, a, h) = Rn 237 (964, [x0, x1, x2, some (.int i)], .int i :: st, a, h) := Rn_go c237_963 rfl
theorem c237_964 : mcode 237 964 = some (.iconst 1, 1, 0, 0, 0) := rfl
theorem r237_964 : Rn 237 (964, [x0, x1, x2, x3], st, a, h) = Rn 237 (965, [x0, x1, x2, x3], .int (1 : Int32) :: st, a, h) := Rn_go c237_964 rfl
theorem c237_965 : mcode 237 965 = some (.iadd, 1, 0, 0, 0) := rfl
theorem r237_965 : Rn 237 (965, [x0, x1, x2, x3], .int j :: .int i :: st, a, h) = Rn 237 (966, [x0, x1, x2, x3], .int (i + j) :: st, a, h) := Rn_go c237_965 rfl
theorem c237_966 : mcode 237 966 = some (.iaload, 1, 0, 0, 0) := rfl
theorem r237_966 : Rn 237 (966, [x0, x1, x2, x3], .int i :: .ref q :: st, a, h) = Ki 237 967 [x0, x1, x2, x3] st a h (mld h q i false) := Rn_iald c237_966 rfl
theorem c237_967 : mcode 237 967 = some (.aload_n 0, 1, 0, 0, 0) := rfl
theorem r237_967 : Rn 237 (967, [some (.ref q), x1, x2, x3], st, a, h) = Rn 237 (968, [some (.ref q), x1, x2, x3], .ref q :: st, a, h) := Rn_go c237_967 rfl
theorem c237_968 : mcode 237 968 = some (.iload_n 3, 1, 0, 0, 0) := rfl
theorem r237_968 : Rn 237 (968, [x0, x1, x2, some (.int i)], st, a, h) = Rn 237 (969, [x0, x1, x2, some (.int i)], .int i :: st, a, h) := Rn_go c237_968 rfl
theorem c237_969 : mcode 237 969 = some (.iconst 2, 1, 0, 0, 0) := rfl
theorem r237_969 : Rn 237 (969, [x0, x1, x2, x3], st, a, h) = Rn 237 (970, [x0, x1, x2, x3], .int (2 : Int32) :: st, a, h) := Rn_go c237_969 rfl
theorem c237_970 : mcode 237 970 = some (.iadd, 1, 0, 0, 0) := rfl
theorem r237_970 : Rn 237 (970, [x0, x1, x2, x3], .int j :: .int i :: st, a, h) = Rn 237 (971, [x0, x1, x2, x3], .int (i + j) :: st, a, h) := Rn_go c237_970 rfl
theorem c237_971 : mcode 237 971 = some (.iaload, 1, 0, 0, 0) := rfl
theorem r237_971 : Rn 237 (971, [x0, x1, x2, x3], .int i :: .ref q :: st, a, h) = Ki 237 972 [x0, x1, x2, x3] st a h (mld h q i false) := Rn_iald c237_971 rfl
theorem c237_972 : mcode 237 972 = some (.aload_n 0, 1, 0, 0, 0) := rfl
theorem r237_972 : Rn 237 (972, [some (.ref q), x1, x2, x3], st, a, h) = Rn 237 (973, [some (.ref q), x1, x2, x3], .ref q :: st, a, h) := Rn_go c237_972 rfl
theorem c237_973 : mcode 237 973 = some (.iload_n 3, 1, 0, 0, 0) := rfl
theorem r237_973 : Rn 237 (973, [x0, x1, x2, some (.int i)], st, a, h) = Rn 237 (974, [x0, x1, x2, some (.int i)], .int i :: st, a, h) := Rn_go c237_973 rfl
theorem c237_974 : mcode 237 974 = some (.iconst 3, 1, 0, 0, 0) := rfl
theorem r237_974 : Rn 237 (974, [x0, x1, x2, x3], st, a, h) = Rn 237 (975, [x0, x1, x2, x3], .int (3 : Int32) :: st, a, h) := Rn_go c237_974 rfl
theorem c237_975 : mcode 237 975 = some (.iadd, 1, 0, 0, 0) := rfl
theorem r237_975 : Rn 237 (975, [x0, x1, x2, x3], .int j :: .int i :: st, a, h) = Rn 237 (976, [x0, x1, x2, x3], .int (i + j) :: st, a, h) := Rn_go c237_975 rfl
theorem c237_976 : mcode 237 976 = some (.iaload, 1, 0, 0, 0) := rfl
theorem r237_976 : Rn 237 (976, [x0, x1, x2, x3], .int i :: .ref q :: st, a, h) = Ki 237 977 [x0, x1, x2, x3] st a h (mld h q i false) := Rn_iald c237_976 rfl
theorem c237_977 : mcode 237 977 = some (.invokevirtual 107, 3, 186, 3, 6) := rfl
theorem r237_977 : Rn 237 (977, [x0, x1, x2, x3], [v2, v1, v0, .ref q, .int i0], a, h) = if mis h q 6 = true then Bk 237 980 [x0, x1, x2, x3] [.int i0] (Ec 186 [.ref q, v0, v1, v2] a h) else none := Rn_call1 c237_977 rfl (Nat.le_of_ble_eq_true rfl) rfl rfl (Nat.le_of_ble_eq_true rfl)
theorem c237_980 : mcode 237 980 = some (.if_icmp .eq 523, 3, 0, 0, 0) := rfl
theorem r237_980 : Rn 237 (980, [x0, x1, x2, x3], .int j :: .int i :: st, a, h) = if i = j then Rn 237 (1503, [x0, x1, x2, x3], st, a, h) else Rn 237 (983, [x0, x1, x2, x3], st, a, h) := Rn_icmp c237_980 mc_eq rfl rfl
theorem c237_983 : mcode 237 983 = some (.iconst 0, 1, 0, 0, 0) := rfl
theorem r237_983 : Rn 237 (983, [x0, x1, x2, x3], st, a, h) = Rn 237 (984, [x0, x1, x2, x3], .int (0 : Int32) :: st, a, h) := Rn_go c237_983 rfl
theorem c237_984 : mcode 237 984 = some (.ireturn, 1, 1, 0, 0) := rfl
theorem r237_984 : Rn 237 (984, [x0, x1, x2, x3], [.int i], a, h) = if mrt 1 i = true then some (some (.int i), a, h) else none := Rn_iretz c237_984
theorem c237_985 : mcode 237 985 = some (.aload_n 1, 1, 0, 0, 0) := rfl
theorem r237_985 : Rn 237 (985, [x0, some (.ref q), x2, x3], st, a, h) = Rn 237 (986, [x0, some (.ref q), x2, x3], .ref q :: st, a, h) := Rn_go c237_985 rfl
theorem c237_986 : mcode 237 986 = some (.aload_n 0, 1, 0, 0, 0) := rfl
theorem r237_986 : Rn 237 (986, [some (.ref q), x1, x2, x3], st, a, h) = Rn 237 (987, [some (.ref q), x1, x2, x3], .ref q :: st, a, h) := Rn_go c237_986 rfl
theorem c237_987 : mcode 237 987 = some (.iload_n 3, 1, 0, 0, 0) := rfl
theorem r237_987 : Rn 237 (987, [x0, x1, x2, some (.int i)], st, a, h) = Rn 237 (988, [x0, x1, x2, some (.int i)], .int i :: st, a, h) := Rn_go c237_987 rfl
theorem c237_988 : mcode 237 988 = some (.iconst 1, 1, 0, 0, 0) := rfl
theorem r237_988 : Rn 237 (988, [x0, x1, x2, x3], st, a, h) = Rn 237 (989, [x0, x1, x2, x3], .int (1 : Int32) :: st, a, h) := Rn_go c237_988 rfl
theorem c237_989 : mcode 237 989 = some (.iadd, 1, 0, 0, 0) := rfl
theorem r237_989 : Rn 237 (989, [x0, x1, x2, x3], .int j :: .int i :: st, a, h) = Rn 237 (990, [x0, x1, x2, x3], .int (i + j) :: st, a, h) := Rn_go c237_989 rfl
theorem c237_990 : mcode 237 990 = some (.iaload, 1, 0, 0, 0) := rfl
theorem r237_990 : Rn 237 (990, [x0, x1, x2, x3], .int i :: .ref q :: st, a, h) = Ki 237 991 [x0, x1, x2, x3] st a h (mld h q i false) := Rn_iald c237_990 rfl
theorem c237_991 : mcode 237 991 = some (.aload_n 0, 1, 0, 0, 0) := rfl
theorem r237_991 : Rn 237 (991, [some (.ref q), x1, x2, x3], st, a, h) = Rn 237 (992, [some (.ref q), x1, x2, x3], .ref q :: st, a, h) := Rn_go c237_991 rfl
theorem c237_992 : mcode 237 992 = some (.iload_n 3, 1, 0, 0, 0) := rfl
theorem r237_992 : Rn 237 (992, [x0, x1, x2, some (.int i)], st, a, h) = Rn 237 (993, [x0, x1, x2, some (.int i)], .int i :: st, a, h) := Rn_go c237_992 rfl
theorem c237_993 : mcode 237 993 = some (.iconst 2, 1, 0, 0, 0) := rfl
theorem r237_993 : Rn 237 (993, [x0, x1, x2, x3], st, a, h) = Rn 237 (994, [x0, x1, x2, x3], .int (2 : Int32) :: st, a, h) := Rn_go c237_993 rfl
theorem c237_994 : mcode 237 994 = some (.iadd, 1, 0, 0, 0) := rfl
theorem r237_994 : Rn 237 (994, [x0, x1, x2, x3], .int j :: .int i :: st, a, h) = Rn 237 (995, [x0, x1, x2, x3], .int (i + j) :: st, a, h) := Rn_go c237_994 rfl
theorem c237_995 : mcode 237 995 = some (.iaload, 1, 0, 0, 0) := rfl
theorem r237_995 : Rn 237 (995, [x0, x1, x2, x3], .int i :: .ref q :: st, a, h) = Ki 237 996 [x0, x1, x2, x3] st a h (mld h q i false) := Rn_iald c237_995 rfl
theorem c237_996 : mcode 237 996 = some (.invokevirtual 108, 3, 86, 2, 5) := rfl
theorem r237_996 : Rn 237 (996, [x0, x1, x2, x3], [v1, v0, .ref q], a, h) = if mis h q 5 = true then Bk 237 999 [x0, x1, x2, x3] [] (Ec 86 [.ref q, v0, v1] a h) else none := Rn_call1 c237_996 rfl (Nat.le_of_ble_eq_true rfl) rfl rfl (Nat.le_of_ble_eq_true rfl)
theorem c237_999 : mcode 237 999 = some (.aload_n 2, 1, 0, 0, 0) := rfl
theorem r237_999 : Rn 237 (999, [x0, x1, some (.ref q), x3], st, a, h) = Rn 237 (1000, [x0, x1, some (.ref q), x3], .ref q :: st, a, h) := Rn_go c237_999 rfl
theorem c237_1000 : mcode 237 1000 = some (.aload_n 0, 1, 0, 0, 0) := rfl
theorem r237_1000 : Rn 237 (1000, [some (.ref q), x1, x2, x3], st, a, h) = Rn 237 (1001, [some (.ref q), x1, x2, x3], .ref q :: st, a, h) := Rn_go c237_1000 rfl
theorem c237_1001 : mcode 237 1001 = some (.iload_n 3, 1, 0, 0, 0) := rfl
theorem r237_1001 : Rn 237 (1001, [x0, x1, x2, some (.int i)], st, a, h) = Rn 237 (1002, [x0, x1, x2, some (.int i)], .int i :: st, a, h) := Rn_go c237_1001 rfl
theorem c237_1002 : mcode 237 1002 = some (.iconst 1, 1, 0, 0, 0) := rfl
theorem r237_1002 : Rn 237 (1002, [x0, x1, x2, x3], st, a, h) = Rn 237 (1003, [x0, x1, x2, x3], .int (1 : Int32) :: st, a, h) := Rn_go c237_1002 rfl
theorem c237_1003 : mcode 237 1003 = some (.iadd, 1, 0, 0, 0) := rfl
theorem r237_1003 : Rn 237 (1003, [x0, x1, x2, x3], .int j :: .int i :: st, a, h) = Rn 237 (1004, [x0, x1, x2, x3], .int (i + j) :: st, a, h) := Rn_go c237_1003 rfl
theorem c237_1004 : mcode 237 1004 = some (.iaload, 1, 0, 0, 0) := rfl
theorem r237_1004 : Rn 237 (1004, [x0, x1, x2, x3], .int i :: .ref q :: st, a, h) = Ki 237 1005 [x0, x1, x2, x3] st a h (mld h q i false) := Rn_iald c237_1004 rfl
theorem c237_1005 : mcode 237 1005 = some (.aload_n 0, 1, 0, 0, 0) := rfl
theorem r237_1005 : Rn 237 (1005, [some (.ref q), x1, x2, x3], st, a, h) = Rn 237 (1006, [some (.ref q), x1, x2, x3], .ref q :: st, a, h) := Rn_go c237_1005 rfl
theorem c237_1006 : mcode 237 1006 = some (.iload_n 3, 1, 0, 0, 0) := rfl
theorem r237_1006 : Rn 237 (1006, [x0, x1, x2, some (.int i)], st, a, h) = Rn 237 (1007, [x0, x1, x2, some (.int i)], .int i :: st, a, h) := Rn_go c237_1006 rfl
theorem c237_1007 : mcode 237 1007 = some (.iconst 2, 1, 0, 0, 0) := rfl
theorem r237_1007 : Rn 237 (1007, [x0, x1, x2, x3], st, a, h) = Rn 237 (1008, [x0, x1, x2, x3], .int (2 : Int32) :: st, a, h) := Rn_go c237_1007 rfl
theorem c237_1008 : mcode 237 1008 = some (.iadd, 1, 0, 0, 0) := rfl
theorem r237_1008 : Rn 237 (1008, [x0, x1, x2, x3], .int j :: .int i :: st, a, h) = Rn 237 (1009, [x0, x1, x2, x3], .int (i + j) :: st, a, h) := Rn_go c237_1008 rfl
theorem c237_1009 : mcode 237 1009 = some (.iaload, 1, 0, 0, 0) := rfl
theorem r237_1009 : Rn 237 (1009, [x0, x1, x2, x3], .int i :: .ref q :: st, a, h) = Ki 237 1010 [x0, x1, x2, x3] st a h (mld h q i false) := Rn_iald c237_1009 rfl
theorem c237_1010 : mcode 237 1010 = some (.invokevirtual 111, 3, 187, 2, 6) := rfl
theorem r237_1010 : Rn 237 (1010, [x0, x1, x2, x3], [v1, v0, .ref q, .int i0], a, h) = if mis h q 6 = true then Bk 237 1013 [x0, x1, x2, x3] [.int i0] (Ec 187 [.ref q, v0, v1] a h) else none := Rn_call1 c237_1010 rfl (Nat.le_of_ble_eq_true rfl) rfl rfl (Nat.le_of_ble_eq_true rfl)
theorem c237_1013 : mcode 237 1013 = some (.if_icmp .eq 490, 3, 0, 0, 0) := rfl
theorem r237_1013 : Rn 237 (1013, [x0, x1, x2, x3], .int j :: .int i :: st, a, h) = if i = j then Rn 237 (1503, [x0, x1, x2, x3], st, a, h) else Rn 237 (1016, [x0, x1, x2, x3], st, a, h) := Rn_icmp c237_1013 mc_eq rfl rfl
theorem c237_1016 : mcode 237 1016 = some (.iconst 0, 1, 0, 0, 0) := rfl
theorem r237_1016 : Rn 237 (1016, [x0, x1, x2, x3], st, a, h) = Rn 237 (1017, [x0, x1, x2, x3], .int (0 : Int32) :: st, a, h) := Rn_go c237_1016 rfl
theorem c237_1017 : mcode 237 1017 = some (.ireturn, 1, 1, 0, 0) := rfl
theorem r237_1017 : Rn 237 (1017, [x0, x1, x2, x3], [.int i], a, h) = if mrt 1 i = true then some (some (.int i), a, h) else none := Rn_iretz c237_1017
theorem c237_1018 : mcode 237 1018 = some (.aload_n 1, 1, 0, 0, 0) := rfl
theorem r237_1018 : Rn 237 (1018, [x0, some (.ref q), x2, x3], st, a, h) = Rn 237 (1019, [x0, some (.ref q), x2, x3], .ref q :: st, a, h) := Rn_go c237_1018 rfl
theorem c237_1019 : mcode 237 1019 = some (.aload_n 0, 1, 0, 0, 0) := rfl
theorem r237_1019 : Rn 237 (1019, [some (.ref q), x1, x2, x3], st, a, h) = Rn 237 (1020, [some (.ref q), x1, x2, x3], .ref q :: st, a, h) := Rn_go c237_1019 rfl
theorem c237_1020 : mcode 237 1020 = some (.iload_n 3, 1, 0, 0, 0) := rfl
theorem r237_1020 : Rn 237 (1020, [x0, x1, x2, some (.int i)], st, a, h) = Rn 237 (1021, [x0, x1, x2, some (.int i)], .int i :: st, a, h) := Rn_go c237_1020 rfl
theorem c237_1021 : mcode 237 1021 = some (.iconst 1, 1, 0, 0, 0) := rfl
theorem r237_1021 : Rn 237 (1021, [x0, x1, x2, x3], st, a, h) = Rn 237 (1022, [x0, x1, x2, x3], .int (1 : Int32) :: st, a, h) := Rn_go c237_1021 rfl
theorem c237_1022 : mcode 237 1022 = some (.iadd, 1, 0, 0, 0) := rfl
theorem r237_1022 : Rn 237 (1022, [x0, x1, x2, x3], .int j :: .int i :: st, a, h) = Rn 237 (1023, [x0, x1, x2, x3], .int (i + j) :: st, a, h) := Rn_go c237_1022 rfl
theorem c237_1023 : mcode 237 1023 = some (.iaload, 1, 0, 0, 0) := rfl
theorem r237_1023 : Rn 237 (1023, [x0, x1, x2, x3], .int i :: .ref q :: st, a, h) = Ki 237 1024 [x0, x1, x2, x3] st a h (mld h q i false) := Rn_iald c237_1023 rfl
theorem c237_1024 : mcode 237 1024 = some (.invokevirtual 112, 3, 87, 1, 5) := rfl
theorem r237_1024 : Rn 237 (1024, [x0, x1, x2, x3], [v0, .ref q], a, h) = if mis h q 5 = true then Bk 237 1027 [x0, x1, x2, x3] [] (Ec 87 [.ref q, v0] a h) else none := Rn_call1 c237_1024 rfl (Nat.le_of_ble_eq_true rfl) rfl rfl (Nat.le_of_ble_eq_true rfl)
theorem c237_1027 : mcode 237 1027 = some (.aload_n 2, 1, 0, 0, 0) := rfl
theorem r237_1027 : Rn 237 (1027, [x0, x1, some (.ref q), x3], st, a, h) = Rn 237 (1028, [x0, x1, some (.ref q), x3], .ref q :: st, a, h) := Rn_go c237_1027 rfl
theorem c237_1028 : mcode 237 1028 = some (.aload_n 0, 1, 0, 0, 0) := rfl
theorem r237_1028 : Rn 237 (1028, [some (.ref q), x1, x2, x3], st, a, h) = Rn 237 (1029, [some (.ref q), x1, x2, x3], .ref q :: st, a, h) := Rn_go c237_1028 rfl
theorem c237_1029 : mcode 237 1029 = some (.iload_n 3, 1, 0, 0, 0) := rfl
theorem r237_1029 : Rn 237 (1029, [x0, x1, x2, some (.int i)], st, a, h) = Rn 237 (1030, [x0, x1, x2, some (.int i)], .int i :: st, a, h) := Rn_go c237_1029 rfl
theorem c237_1030 : mcode 237 1030 = some (.iconst 1, 1, 0, 0, 0) := rfl
theorem r237_1030 : Rn 237 (1030, [x0, x1, x2, x3], st, a, h) = Rn 237 (1031, [x0, x1, x2, x3], .int (1 : Int32) :: st, a, h) := Rn_go c237_1030 rfl
theorem c237_1031 : mcode 237 1031 = some (.iadd, 1, 0, 0, 0) := rfl
theorem r237_1031 : Rn 237 (1031, [x0, x1, x2, x3], .int j :: .int i :: st, a, h) = Rn 237 (1032, [x0, x1, x2, x3], .int (i + j) :: st, a, h) := Rn_go c237_1031 rfl
theorem c237_1032 : mcode 237 1032 = some (.iaload, 1, 0, 0, 0) := rfl
theorem r237_1032 : Rn 237 (1032, [x0, x1, x2, x3], .int i :: .ref q :: st, a, h) = Ki 237 1033 [x0, x1, x2, x3] st a h (mld h q i false) := Rn_iald c237_1032 rfl
theorem c237_1033 : mcode 237 1033 = some (.invokevirtual 115, 3, 189, 1, 6) := rfl
theorem r237_1033 : Rn 237 (1033, [x0, x1, x2, x3], [v0, .ref q, .int i0], a, h) = if mis h q 6 = true then Bk 237 1036 [x0, x1, x2, x3] [.int i0] (Ec 189 [.ref q, v0] a h) else none := Rn_call1 c237_1033 rfl (Nat.le_of_ble_eq_true rfl) rfl rfl (Nat.le_of_ble_eq_true rfl)
theorem c237_1036 : mcode 237 1036 = some (.if_icmp .eq 467, 3, 0, 0, 0) := rfl
theorem r237_1036 : Rn 237 (1036, [x0, x1, x2, x3], .int j :: .int i :: st, a, h) = if i = j then Rn 237 (1503, [x0, x1, x2, x3], st, a, h) else Rn 237 (1039, [x0, x1, x2, x3], st, a, h) := Rn_icmp c237_1036 mc_eq rfl rfl
theorem c237_1039 : mcode 237 1039 = some (.iconst 0, 1, 0, 0, 0) := rfl
theorem r237_1039 : Rn 237 (1039, [x0, x1, x2, x3], st, a, h) = Rn 237 (1040, [x0, x1, x2, x3], .int (0 : Int32) :: st, a, h) := Rn_go c237_1039 rfl
theorem c237_1040 : mcode 237 1040 = some (.ireturn, 1, 1, 0, 0) := rfl
theorem r237_1040 : Rn 237 (1040, [x0, x1, x2, x3], [.int i], a, h) = if mrt 1 i = true then some (some (.int i), a, h) else none := Rn_iretz c237_1040
theorem c237_1041 : mcode 237 1041 = some (.aload_n 1, 1, 0, 0, 0) := rfl
theorem r237_1041 : Rn 237 (1041, [x0, some (.ref q), x2, x3], st, a, h) = Rn 237 (1042, [x0, some (.ref q), x2, x3], .ref q :: st, a, h) := Rn_go c237_1041 rfl
theorem c237_1042 : mcode 237 1042 = some (.aload_n 0, 1, 0, 0, 0) := rfl
theorem r237_1042 : Rn 237 (1042, [some (.ref q), x1, x2, x3], st, a, h) = Rn 237 (1043, [some (.ref q), x1, x2, x3], .ref q :: st, a, h) := Rn_go c237_1042 rfl
theorem c237_1043 : mcode 237 1043 = some (.iload_n 3, 1, 0, 0, 0) := rfl
theorem r237_1043 : Rn 237 (1043, [x0, x1, x2, some (.int i)], st, a, h) = Rn 237 (1044, [x0, x1, x2, some (.int i)], .int i :: st, a, h) := Rn_go c237_1043 rfl
theorem c237_1044 : mcode 237 1044 = some (.iconst 1, 1, 0, 0, 0) := rfl
theorem r237_1044 : Rn 237 (1044, [x0, x1, x2, x3], st, a, h) = Rn 237 (1045, [x0, x1, x2, x3], .int (1 : Int32) :: st, a, h) := Rn_go c237_1044 rfl
theorem c237_1045 : mcode 237 1045 = some (.iadd, 1, 0, 0, 0) := rfl
theorem r237_1045 : Rn 237 (1045, [x0, x1, x2, x3], .int j :: .int i :: st, a, h) = Rn 237 (1046, [x0, x1, x2, x3], .int (i + j) :: st, a, h) := Rn_go c237_1045 rfl
theorem c237_1046 : mcode 237 1046 = some (.iaload, 1, 0, 0, 0) := rfl
theorem r237_1046 : Rn 237 (1046, [x0, x1, x2, x3], .int i :: .ref q :: st, a, h) = Ki 237 1047 [x0, x1, x2, x3] st a h (mld h q i false) := Rn_iald c237_1046 rfl
theorem c237_1047 : mcode 237 1047 = some (.aload_n 0, 1, 0, 0, 0) := rfl
theorem r237_1047 : Rn 237 (1047, [some (.ref q), x1, x2, x3], st, a, h) = Rn 237 (1048, [some (.ref q), x1, x2, x3], .ref q :: st, a, h) := Rn_go c237_1047 rfl
theorem c237_1048 : mcode 237 1048 = some (.iload_n 3, 1, 0, 0, 0) := rfl
theorem r237_1048 : Rn 237 (1048, [x0, x1, x2, some (.int i)], st, a, h) = Rn 237 (1049, [x0, x1, x2, some (.int i)], .int i :: st, a, h) := Rn_go c237_1048 rfl
theorem c237_1049 : mcode 237 1049 = some (.iconst 2, 1, 0, 0, 0) := rfl
theorem r237_1049 : Rn 237 (1049, [x0, x1, x2, x3], st, a, h) = Rn 237 (1050, [x0, x1, x2, x3], .int (2 : Int32) :: st, a, h) := Rn_go c237_1049 rfl
theorem c237_1050 : mcode 237 1050 = some (.iadd, 1, 0, 0, 0) := rfl
theorem r237_1050 : Rn 237 (1050, [x0, x1, x2, x3], .int j :: .int i :: st, a, h) = Rn 237 (1051, [x0, x1, x2, x3], .int (i + j) :: st, a, h) := Rn_go c237_1050 rfl
theorem c237_1051 : mcode 237 1051 = some (.iaload, 1, 0, 0, 0) := rfl
theorem r237_1051 : Rn 237 (1051, [x0, x1, x2, x3], .int i :: .ref q :: st, a, h) = Ki 237 1052 [x0, x1, x2, x3] st a h (mld h q i false) := Rn_iald c237_1051 rfl
theorem c237_1052 : mcode 237 1052 = some (.invokevirtual 116, 3, 88, 2, 5) := rfl
theorem r237_1052 : Rn 237 (1052, [x0, x1, x2, x3], [v1, v0, .ref q], a, h) = if mis h q 5 = true then Bk 237 1055 [x0, x1, x2, x3] [] (Ec 88 [.ref q, v0, v1] a h) else none := Rn_call1 c237_1052 rfl (Nat.le_of_ble_eq_true rfl) rfl rfl (Nat.le_of_ble_eq_true rfl)
theorem c237_1055 : mcode 237 1055 = some (.aload_n 2, 1, 0, 0, 0) := rfl
theorem r237_1055 : Rn 237 (1055, [x0, x1, some (.ref q), x3], st, a, h) = Rn 237 (1056, [x0, x1, some (.ref q), x3], .ref q :: st, a, h) := Rn_go c237_1055 rfl
theorem c237_1056 : mcode 237 1056 = some (.aload_n 0, 1, 0, 0, 0) := rfl
theorem r237_1056 : Rn 237 (1056, [some (.ref q), x1, x2, x3], st, a, h) = Rn 237 (1057, [some (.ref q), x1, x2, x3], .ref q :: st, a, h) := Rn_go c237_1056 rfl
theorem c237_1057 : mcode 237 1057 = some (.iload_n 3, 1, 0, 0, 0) := rfl
theorem r237_1057 : Rn 237 (1057, [x0, x1, x2, some (.int i)], st, a, h) = Rn 237 (1058, [x0, x1, x2, some (.int i)], .int i :: st, a, h) := Rn_go c237_1057 rfl
theorem c237_1058 : mcode 237 1058 = some (.iconst 1, 1, 0, 0, 0) := rfl
theorem r237_1058 : Rn 237 (1058, [x0, x1, x2, x3], st, a, h) = Rn 237 (1059, [x0, x1, x2, x3], .int (1 : Int32) :: st, a, h) := Rn_go c237_1058 rfl
theorem c237_1059 : mcode 237 1059 = some (.iadd, 1, 0, 0, 0) := rfl
theorem r237_1059 : Rn 237 (1059, [x0, x1, x2, x3], .int j :: .int i :: st, a, h) = Rn 237 (1060, [x0, x1, x2, x3], .int (i + j) :: st, a, h) := Rn_go c237_1059 rfl
theorem c237_1060 : mcode 237 1060 = some (.iaload, 1, 0, 0, 0) := rfl
theorem r237_1060 : Rn 237 (1060, [x0, x1, x2, x3], .int i :: .ref q :: st, a, h) = Ki 237 1061 [x0, x1, x2, x3] st a h (mld h q i false) := Rn_iald c237_1060 rfl
theorem c237_1061 : mcode 237 1061 = some (.aload_n 0, 1, 0, 0, 0) := rfl
theorem r237_1061 : Rn 237 (1061, [some (.ref q), x1, x2, x3], st, a, h) = Rn 237 (1062, [some (.ref q), x1, x2, x3], .ref q :: st, a, h) := Rn_go c237_1061 rfl
theorem c237_1062 : mcode 237 1062 = some (.iload_n 3, 1, 0, 0, 0) := rfl
theorem r237_1062 : Rn 237 (1062, [x0, x1, x2, some (.int i)], st, a, h) = Rn 237 (1063, [x0, x1, x2, some (.int i)], .int i :: st, a, h) := Rn_go c237_1062 rfl
theorem c237_1063 : mcode 237 1063 = some (.iconst 2, 1, 0, 0, 0) := rfl
theorem r237_1063 : Rn 237 (1063, [x0, x1, x2, x3], st, a, h) = Rn 237 (1064, [x0, x1, x2, x3], .int (2 : Int32) :: st, a, h) := Rn_go c237_1063 rfl
theorem c237_1064 : mcode 237 1064 = some (.iadd, 1, 0, 0, 0) := rfl
theorem r237_1064 : Rn 237 (1064, [x0, x1, x2, x3], .int j :: .int i :: st, a, h) = Rn 237 (1065, [x0, x1, x2, x3], .int (i + j) :: st, a, h) := Rn_go c237_1064 rfl
theorem c237_1065 : mcode 237 1065 = some (.iaload, 1, 0, 0, 0) := rfl
theorem r237_1065 : Rn 237 (1065, [x0, x1, x2, x3], .int i :: .ref q :: st, a, h) = Ki 237 1066 [x0, x1, x2, x3] st a h (mld h q i false) := Rn_iald c237_1065 rfl
theorem c237_1066 : mcode 237 1066 = some (.invokevirtual 120, 3, 190, 2, 6) := rfl
theorem r237_1066 : Rn 237 (1066, [x0, x1, x2, x3], [v1, v0, .ref q, .long l0], a, h) = if mis h q 6 = true then Bk 237 1069 [x0, x1, x2, x3] [.long l0] (Ec 190 [.ref q, v0, v1] a h) else none := Rn_call1 c237_1066 rfl (Nat.le_of_ble_eq_true rfl) rfl rfl (Nat.le_of_ble_eq_true rfl)
theorem c237_1069 : mcode 237 1069 = some (.lcmp, 1, 0, 0, 0) := rfl
theorem r237_1069 : Rn 237 (1069, [x0, x1, x2, x3], .long m :: .long l :: st, a, h) = Rn 237 (1070, [x0, x1, x2, x3], .int (if l < m then -1 else if l = m then 0 else 1) :: st, a, h) := Rn_go c237_1069 rfl
theorem c237_1070 : mcode 237 1070 = some (.ifCond .eq 433, 3, 0, 0, 0) := rfl
theorem r237_1070 : Rn 237 (1070, [x0, x1, x2, x3], .int i :: st, a, h) = if i = 0 then Rn 237 (1503, [x0, x1, x2, x3], st, a, h) else Rn 237 (1073, [x0, x1, x2, x3], st, a, h) := Rn_ifc c237_1070 mc_eq rfl rfl
theorem c237_1073 : mcode 237 1073 = some (.iconst 0, 1, 0, 0, 0) := rfl
theorem r237_1073 : Rn 237 (1073, [x0, x1, x2, x3], st, a, h) = Rn 237 (1074, [x0, x1, x2, x3], .int (0 : Int32) :: st, a, h) := Rn_go c237_1073 rfl
theorem c237_1074 : mcode 237 1074 = some (.ireturn, 1, 1, 0, 0) := rfl
theorem r237_1074 : Rn 237 (1074, [x0, x1, x2, x3], [.int i], a, h) = if mrt 1 i = true then some (some (.int i), a, h) else none := Rn_iretz c237_1074
theorem c237_1075 : mcode 237 1075 = some (.aload_n 1, 1, 0, 0, 0) := rfl
theorem r237_1075 : Rn 237 (1075, [x0, some (.ref q), x2, x3], st, a, h) = Rn 237 (1076, [x0, some (.ref q), x2, x3], .ref q :: st, a, h) := Rn_go c237_1075 rfl
theorem c237_1076 : mcode 237 1076 = some (.aload_n 0, 1, 0, 0, 0) := rfl
theorem r237_1076 : Rn 237 (1076, [some (.ref q), x1, x2, x3], st, a, h) = Rn 237 (1077, [some (.ref q), x1, x2, x3], .ref q :: st, a, h) := Rn_go c237_1076 rfl
theorem c237_1077 : mcode 237 1077 = some (.iload_n 3, 1, 0, 0, 0) := rfl
theorem r237_1077 : Rn 237 (1077, [x0, x1, x2, some (.int i)], st, a, h) = Rn 237 (1078, [x0, x1, x2, some (.int i)], .int i :: st, a, h) := Rn_go c237_1077 rfl
theorem c237_1078 : mcode 237 1078 = some (.iconst 1, 1, 0, 0, 0) := rfl
theorem r237_1078 : Rn 237 (1078, [x0, x1, x2, x3], st, a, h) = Rn 237 (1079, [x0, x1, x2, x3], .int (1 : Int32) :: st, a, h) := Rn_go c237_1078 rfl
theorem c237_1079 : mcode 237 1079 = some (.iadd, 1, 0, 0, 0) := rfl
theorem r237_1079 : Rn 237 (1079, [x0, x1, x2, x3], .int j :: .int i :: st, a, h) = Rn 237 (1080, [x0, x1, x2, x3], .int (i + j) :: st, a, h) := Rn_go c237_1079 rfl
theorem c237_1080 : mcode 237 1080 = some (.iaload, 1, 0, 0, 0) := rfl
theorem r237_1080 : Rn 237 (1080, [x0, x1, x2, x3], .int i :: .ref q :: st, a, h) = Ki 237 1081 [x0, x1, x2, x3] st a h (mld h q i false) := Rn_iald c237_1080 rfl
theorem c237_1081 : mcode 237 1081 = some (.invokevirtual 121, 3, 89, 1, 5) := rfl
theorem r237_1081 : Rn 237 (1081, [x0, x1, x2, x3], [v0, .ref q], a, h) = if mis h q 5 = true then Bk 237 1084 [x0, x1, x2, x3] [] (Ec 89 [.ref q, v0] a h) else none := Rn_call1 c237_1081 rfl (Nat.le_of_ble_eq_true rfl) rfl rfl (Nat.le_of_ble_eq_true rfl)
theorem c237_1084 : mcode 237 1084 = some (.aload_n 2, 1, 0, 0, 0) := rfl
theorem r237_1084 : Rn 237 (1084, [x0, x1, some (.ref q), x3], st, a, h) = Rn 237 (1085, [x0, x1, some (.ref q), x3], .ref q :: st, a, h) := Rn_go c237_1084 rfl
theorem c237_1085 : mcode 237 1085 = some (.aload_n 0, 1, 0, 0, 0) := rfl
theorem r237_1085 : Rn 237 (1085, [some (.ref q), x1, x2, x3], st, a, h) = Rn 237 (1086, [some (.ref q), x1, x2, x3], .ref q :: st, a, h) := Rn_go c237_1085 rfl
theorem c237_1086 : mcode 237 1086 = some (.iload_n 3, 1, 0, 0, 0) := rfl
theorem r237_1086 : Rn 237 (1086, [x0, x1, x2, some (.int i)], st, a, h) = Rn 237 (1087, [x0, x1, x2, some (.int i)], .int i :: st, a, h) := Rn_go c237_1086 rfl
theorem c237_1087 : mcode 237 1087 = some (.iconst 1, 1, 0, 0, 0) := rfl
theorem r237_1087 : Rn 237 (1087, [x0, x1, x2, x3], st, a, h) = Rn 237 (1088, [x0, x1, x2, x3], .int (1 : Int32) :: st, a, h) := Rn_go c237_1087 rfl
theorem c237_1088 : mcode 237 1088 = some (.iadd, 1, 0, 0, 0) := rfl
theorem r237_1088 : Rn 237 (1088, [x0, x1, x2, x3], .int j :: .int i :: st, a, h) = Rn 237 (1089, [x0, x1, x2, x3], .int (i + j) :: st, a, h) := Rn_go c237_1088 rfl
theorem c237_1089 : mcode 237 1089 = some (.iaload, 1, 0, 0, 0) := rfl
theorem r237_1089 : Rn 237 (1089, [x0, x1, x2, x3], .int i :: .ref q :: st, a, h) = Ki 237 1090 [x0, x1, x2, x3] st a h (mld h q i false) := Rn_iald c237_1089 rfl
theorem c237_1090 : mcode 237 1090 = some (.invokevirtual 124, 3, 191, 1, 6) := rfl
theorem r237_1090 : Rn 237 (1090, [x0, x1, x2, x3], [v0, .ref q, .int i0], a, h) = if mis h q 6 = true then Bk 237 1093 [x0, x1, x2, x3] [.int i0] (Ec 191 [.ref q, v0] a h) else none := Rn_call1 c237_1090 rfl (Nat.le_of_ble_eq_true rfl) rfl rfl (Nat.le_of_ble_eq_true rfl)
theorem c237_1093 : mcode 237 1093 = some (.if_icmp .eq 410, 3, 0, 0, 0) := rfl
theorem r237_1093 : Rn 237 (1093, [x0, x1, x2, x3], .int j :: .int i :: st, a, h) = if i = j then Rn 237 (1503, [x0, x1, x2, x3], st, a, h) else Rn 237 (1096, [x0, x1, x2, x3], st, a, h) := Rn_icmp c237_1093 mc_eq rfl rfl
theorem c237_1096 : mcode 237 1096 = some (.iconst 0, 1, 0, 0, 0) := rfl
theorem r237_1096 : Rn 237 (1096, [x0, x1, x2, x3], st, a, h) = Rn 237 (1097, [x0, x1, x2, x3], .int (0 : Int32) :: st, a, h) := Rn_go c237_1096 rfl
theorem c237_1097 : mcode 237 1097 = some (.ireturn, 1, 1, 0, 0) := rfl
theorem r237_1097 : Rn 237 (1097, [x0, x1, x2, x3], [.int i], a, h) = if mrt 1 i = true then some (some (.int i), a, h) else none := Rn_iretz c237_1097
theorem c237_1098 : mcode 237 1098 = some (.aload_n 1, 1, 0, 0, 0) := rfl
theorem r237_1098 : Rn 237 (1098, [x0, some (.ref q), x2, x3], st, a, h) = Rn 237 (1099, [x0, some (.ref q), x2, x3], .ref q :: st, a, h) := Rn_go c237_1098 rfl
theorem c237_1099 : mcode 237 1099 = some (.aload_n 0, 1, 0, 0, 0) := rfl
theorem r237_1099 : Rn 237 (1099, [some (.ref q), x1, x2, x3], st, a, h) = Rn 237 (1100, [some (.ref q), x1, x2, x3], .ref q :: st, a, h) := Rn_go c237_1099 rfl
theorem c237_1100 : mcode 237 1100 = some (.iload_n 3, 1, 0, 0, 0) := rfl
theorem r237_1100 : Rn 237 (1100, [x0, x1, x2, some (.int i)], st, a, h) = Rn 237 (1101, [x0, x1, x2, some (.int i)], .int i :: st, a, h) := Rn_go c237_1100 rfl
theorem c237_1101 : mcode 237 1101 = some (.iconst 1, 1, 0, 0, 0) := rfl
theorem r237_1101 : Rn 237 (1101, [x0, x1, x2, x3], st, a, h) = Rn 237 (1102, [x0, x1, x2, x3], .int (1 : Int32) :: st, a, h) := Rn_go c237_1101 rfl
theorem c237_1102 : mcode 237 1102 = some (.iadd, 1, 0, 0, 0) := rfl
theorem r237_1102 : Rn 237 (1102, [x0, x1, x2, x3], .int j :: .int i :: st, a, h) = Rn 237 (1103, [x0, x1, x2, x3], .int (i + j) :: st, a, h) := Rn_go c237_1102 rfl
theorem c237_1103 : mcode 237 1103 = some (.iaload, 1, 0, 0, 0) := rfl
theorem r237_1103 : Rn 237 (1103, [x0, x1, x2, x3], .int i :: .ref q :: st, a, h) = Ki 237 1104 [x0, x1, x2, x3] st a h (mld h q i false) := Rn_iald c237_1103 rfl
theorem c237_1104 : mcode 237 1104 = some (.aload_n 0, 1, 0, 0, 0) := rfl
theorem r237_1104 : Rn 237 (1104, [some (.ref q), x1, x2, x3], st, a, h) = Rn 237 (1105, [some (.ref q), x1, x2, x3], .ref q :: st, a, h) := Rn_go c237_1104 rfl
theorem c237_1105 : mcode 237 1105 = some (.iload_n 3, 1, 0, 0, 0) := rfl
theorem r237_1105 : Rn 237 (1105, [x0, x1, x2, some (.int i)], st, a, h) = Rn 237 (1106, [x0, x1, x2, some (.int i)], .int i :: st, a, h) := Rn_go c237_1105 rfl
theorem c237_1106 : mcode 237 1106 = some (.iconst 2, 1, 0, 0, 0) := rfl
theorem r237_1106 : Rn 237 (1106, [x0, x1, x2, x3], st, a, h) = Rn 237 (1107, [x0, x1, x2, x3], .int (2 : Int32) :: st, a, h) := Rn_go c237_1106 rfl
theorem c237_1107 : mcode 237 1107 = some (.iadd, 1, 0, 0, 0) := rfl
theorem r237_1107 : Rn 237 (1107, [x0, x1, x2, x3], .int j :: .int i :: st, a, h) = Rn 237 (1108, [x0, x1, x2, x3], .int (i + j) :: st, a, h) := Rn_go c237_1107 rfl
theorem c237_1108 : mcode 237 1108 = some (.iaload, 1, 0, 0, 0) := rfl
theorem r237_1108 : Rn 237 (1108, [x0, x1, x2, x3], .int i :: .ref q :: st, a, h) = Ki 237 1109 [x0, x1, x2, x3] st a h (mld h q i false) := Rn_iald c237_1108 rfl
theorem c237_1109 : mcode 237 1109 = some (.invokevirtual 125, 3, 90, 2, 5) := rfl
theorem r237_1109 : Rn 237 (1109, [x0, x1, x2, x3], [v1, v0, .ref q], a, h) = if mis h q 5 = true then Bk 237 1112 [x0, x1, x2, x3] [] (Ec 90 [.ref q, v0, v1] a h) else none := Rn_call1 c237_1109 rfl (Nat.le_of_ble_eq_true rfl) rfl rfl (Nat.le_of_ble_eq_true rfl)
theorem c237_1112 : mcode 237 1112 = some (.aload_n 2, 1, 0, 0, 0) := rfl
theorem r237_1112 : Rn 237 (1112, [x0, x1, some (.ref q), x3], st, a, h) = Rn 237 (1113, [x0, x1, some (.ref q), x3], .ref q :: st, a, h) := Rn_go c237_1112 rfl
theorem c237_1113 : mcode 237 1113 = some (.aload_n 0, 1, 0, 0, 0) := rfl
theorem r237_1113 : Rn 237 (1113, [some (.ref q), x1, x2, x3], st, a, h) = Rn 237 (1114, [some (.ref q), x1, x2, x3], .ref q :: st, a, h) := Rn_go c237_1113 rfl
theorem c237_1114 : mcode 237 1114 = some (.iload_n 3, 1, 0, 0, 0) := rfl
theorem r237_1114 : Rn 237 (1114, [x0, x1, x2, some (.int i)], st, a, h) = Rn 237 (1115, [x0, x1, x2, some (.int i)], .int i :: st, a, h) := Rn_go c237_1114 rfl
theorem c237_1115 : mcode 237 1115 = some (.iconst 1, 1, 0, 0, 0) := rfl
theorem r237_1115 : Rn 237 (1115, [x0, x1, x2, x3], st, a, h) = Rn 237 (1116, [x0, x1, x2, x3], .int (1 : Int32) :: st, a, h) := Rn_go c237_1115 rfl
theorem c237_1116 : mcode 237 1116 = some (.iadd, 1, 0, 0, 0) := rfl
theorem r237_1116 : Rn 237 (1116, [x0, x1, x2, x3], .int j :: .int i :: st, a, h) = Rn 237 (1117, [x0, x1, x2, x3], .int (i + j) :: st, a, h) := Rn_go c237_1116 rfl
theorem c237_1117 : mcode 237 1117 = some (.iaload, 1, 0, 0, 0) := rfl
theorem r237_1117 : Rn 237 (1117, [x0, x1, x2, x3], .int i :: .ref q :: st, a, h) = Ki 237 1118 [x0, x1, x2, x3] st a h (mld h q i false) := Rn_iald c237_1117 rfl
theorem c237_1118 : mcode 237 1118 = some (.aload_n 0, 1, 0, 0, 0) := rfl
theorem r237_1118 : Rn 237 (1118, [some (.ref q), x1, x2, x3], st, a, h) = Rn 237 (1119, [some (.ref q), x1, x2, x3], .ref q :: st, a, h) := Rn_go c237_1118 rfl
theorem c237_1119 : mcode 237 1119 = some (.iload_n 3, 1, 0, 0, 0) := rfl
theorem r237_1119 : Rn 237 (1119, [x0, x1, x2, some (.int i)], st, a, h) = Rn 237 (1120, [x0, x1, x2, some (.int i)], .int i :: st, a, h) := Rn_go c237_1119 rfl
theorem c237_1120 : mcode 237 1120 = some (.iconst 2, 1, 0, 0, 0) := rfl
theorem r237_1120 : Rn 237 (1120, [x0, x1, x2, x3], st, a, h) = Rn 237 (1121, [x0, x1, x2, x3], .int (2 : Int32) :: st, a, h) := Rn_go c237_1120 rfl
theorem c237_1121 : mcode 237 1121 = some (.iadd, 1, 0, 0, 0) := rfl
theorem r237_1121 : Rn 237 (1121, [x0, x1, x2, x3], .int j :: .int i :: st, a, h) = Rn 237 (1122, [x0, x1, x2, x3], .int (i + j) :: st, a, h) := Rn_go c237_1121 rfl
theorem c237_1122 : mcode 237 1122 = some (.iaload, 1, 0, 0, 0) := rfl
theorem r237_1122 : Rn 237 (1122, [x0, x1, x2, x3], .int i :: .ref q :: st, a, h) = Ki 237 1123 [x0, x1, x2, x3] st a h (mld h q i false) := Rn_iald c237_1122 rfl
theorem c237_1123 : mcode 237 1123 = some (.invokevirtual 128, 3, 192, 2, 6) := rfl
theorem r237_1123 : Rn 237 (1123, [x0, x1, x2, x3], [v1, v0, .ref q, .int i0], a, h) = if mis h q 6 = true then Bk 237 1126 [x0, x1, x2, x3] [.int i0] (Ec 192 [.ref q, v0, v1] a h) else none := Rn_call1 c237_1123 rfl (Nat.le_of_ble_eq_true rfl) rfl rfl (Nat.le_of_ble_eq_true rfl)
theorem c237_1126 : mcode 237 1126 = some (.if_icmp .eq 377, 3, 0, 0, 0) := rfl
theorem r237_1126 : Rn 237 (1126, [x0, x1, x2, x3], .int j :: .int i :: st, a, h) = if i = j then Rn 237 (1503, [x0, x1, x2, x3], st, a, h) else Rn 237 (1129, [x0, x1, x2, x3], st, a, h) := Rn_icmp c237_1126 mc_eq rfl rfl
theorem c237_1129 : mcode 237 1129 = some (.iconst 0, 1, 0, 0, 0) := rfl
theorem r237_1129 : Rn 237 (1129, [x0, x1, x2, x3], st, a, h) = Rn 237 (1130, [x0, x1, x2, x3], .int (0 : Int32) :: st, a, h) := Rn_go c237_1129 rfl
theorem c237_1130 : mcode 237 1130 = some (.ireturn, 1, 1, 0, 0) := rfl
theorem r237_1130 : Rn 237 (1130, [x0, x1, x2, x3], [.int i], a, h) = if mrt 1 i = true then some (some (.int i), a, h) else none := Rn_iretz c237_1130
theorem c237_1131 : mcode 237 1131 = some (.aload_n 1, 1, 0, 0, 0) := rfl
theorem r237_1131 : Rn 237 (1131, [x0, some (.ref q), x2, x3], st, a, h) = Rn 237 (1132, [x0, some (.ref q), x2, x3], .ref q :: st, a, h) := Rn_go c237_1131 rfl
theorem c237_1132 : mcode 237 1132 = some (.invokevirtual 129, 3, 91, 0, 5) := rfl
theorem r237_1132 : Rn 237 (1132, [x0, x1, x2, x3], [.ref q], a, h) = if mis h q 5 = true then Bk 237 1135 [x0, x1, x2, x3] [] (Ec 91 [.ref q] a h) else none := Rn_call1 c237_1132 rfl (Nat.le_of_ble_eq_true rfl) rfl rfl (Nat.le_of_ble_eq_true rfl)
theorem c237_1135 : mcode 237 1135 = some (.aload_n 2, 1, 0, 0, 0) := rfl
theorem r237_1135 : Rn 237 (1135, [x0, x1, some (.ref q), x3], st, a, h) = Rn 237 (1136, [x0, x1, some (.ref q), x3], .ref q :: st, a, h) := Rn_go c237_1135 rfl
theorem c237_1136 : mcode 237 1136 = some (.invokevirtual 133, 3, 193, 0, 6) := rfl
theorem r237_1136 : Rn 237 (1136, [x0, x1, x2, x3], [.ref q, .int i0], a, h) = if mis h q 6 = true then Bk 237 1139 [x0, x1, x2, x3] [.int i0] (Ec 193 [.ref q] a h) else none := Rn_call1 c237_1136 rfl (Nat.le_of_ble_eq_true rfl) rfl rfl (Nat.le_of_ble_eq_true rfl)
theorem c237_1139 : mcode 237 1139 = some (.if_icmp .eq 364, 3, 0, 0, 0) := rfl
theorem r237_1139 : Rn 237 (1139, [x0, x1, x2, x3], .int j :: .int i :: st, a, h) = if i = j then Rn 237 (1503, [x0, x1, x2, x3], st, a, h) else Rn 237 (1142, [x0, x1, x2, x3], st, a, h) := Rn_icmp c237_1139 mc_eq rfl rfl
theorem c237_1142 : mcode 237 1142 = some (.iconst 0, 1, 0, 0, 0) := rfl
theorem r237_1142 : Rn 237 (1142, [x0, x1, x2, x3], st, a, h) = Rn 237 (1143, [x0, x1, x2, x3], .int (0 : Int32) :: st, a, h) := Rn_go c237_1142 rfl
theorem c237_1143 : mcode 237 1143 = some (.ireturn, 1, 1, 0, 0) := rfl
theorem r237_1143 : Rn 237 (1143, [x0, x1, x2, x3], [.int i], a, h) = if mrt 1 i = true then some (some (.int i), a, h) else none := Rn_iretz c237_1143
theorem c237_1144 : mcode 237 1144 = some (.aload_n 1, 1, 0, 0, 0) := rfl
theorem r237_1144 : Rn 237 (1144, [x0, some (.ref q), x2, x3], st, a, h) = Rn 237 (1145, [x0, some (.ref q), x2, x3], .ref q :: st, a, h) := Rn_go c237_1144 rfl
theorem c237_1145 : mcode 237 1145 = some (.invokevirtual 134, 3, 92, 0, 5) := rfl
theorem r237_1145 : Rn 237 (1145, [x0, x1, x2, x3], [.ref q], a, h) = if mis h q 5 = true then Bk 237 1148 [x0, x1, x2, x3] [] (Ec 92 [.ref q] a h) else none := Rn_call1 c237_1145 rfl (Nat.le_of_ble_eq_true rfl) rfl rfl (Nat.le_of_ble_eq_true rfl)
theorem c237_1148 : mcode 237 1148 = some (.aload_n 2, 1, 0, 0, 0) := rfl
theorem r237_1148 : Rn 237 (1148, [x0, x1, some (.ref q), x3], st, a, h) = Rn 237 (1149, [x0, x1, some (.ref q), x3], .ref q :: st, a, h) := Rn_go c237_1148 rfl
theorem c237_1149 : mcode 237 1149 = some (.invokevirtual 137, 3, 211, 0, 6) := rfl
theorem r237_1149 : Rn 237 (1149, [x0, x1, x2, x3], [.ref q, .int i0], a, h) = if mis h q 6 = true then Bk 237 1152 [x0, x1, x2, x3] [.int i0] (Ec 211 [.ref q] a h) else none := Rn_call1 c237_1149 rfl (Nat.le_of_ble_eq_true rfl) rfl rfl (Nat.le_of_ble_eq_true rfl)
theorem c237_1152 : mcode 237 1152 = some (.if_icmp .eq 351, 3, 0, 0, 0) := rfl
theorem r237_1152 : Rn 237 (1152, [x0, x1, x2, x3], .int j :: .int i :: st, a, h) = if i = j then Rn 237 (1503, [x0, x1, x2, x3], st, a, h) else Rn 237 (1155, [x0, x1, x2, x3], st, a, h) := Rn_icmp c237_1152 mc_eq rfl rfl
theorem c237_1155 : mcode 237 1155 = some (.iconst 0, 1, 0, 0, 0) := rfl
theorem r237_1155 : Rn 237 (1155, [x0, x1, x2, x3], st, a, h) = Rn 237 (1156, [x0, x1, x2, x3], .int (0 : Int32) :: st, a, h) := Rn_go c237_1155 rfl
theorem c237_1156 : mcode 237 1156 = some (.ireturn, 1, 1, 0, 0) := rfl
theorem r237_1156 : Rn 237 (1156, [x0, x1, x2, x3], [.int i], a, h) = if mrt 1 i = true then some (some (.int i), a, h) else none := Rn_iretz c237_1156
theorem c237_1157 : mcode 237 1157 = some (.aload_n 1, 1, 0, 0, 0) := rfl
theorem r237_1157 : Rn 237 (1157, [x0, some (.ref q), x2, x3], st, a, h) = Rn 237 (1158, [x0, some (.ref q), x2, x3], .ref q :: st, a, h) := Rn_go c237_1157 rfl
theorem c237_1158 : mcode 237 1158 = some (.aload_n 0, 1, 0, 0, 0) := rfl
theorem r237_1158 : Rn 237 (1158, [some (.ref q), x1, x2, x3], st, a, h) = Rn 237 (1159, [some (.ref q), x1, x2, x3], .ref q :: st, a, h) := Rn_go c237_1158 rfl
theorem c237_1159 : mcode 237 1159 = some (.iload_n 3, 1, 0, 0, 0) := rfl
theorem r237_1159 : Rn 237 (1159, [x0, x1, x2, some (.int i)], st, a, h) = Rn 237 (1160, [x0, x1, x2, some (.int i)], .int i :: st, a, h) := Rn_go c237_1159 rfl
theorem c237_1160 : mcode 237 1160 = some (.iconst 1, 1, 0, 0, 0) := rfl
theorem r237_1160 : Rn 237 (1160, [x0, x1, x2, x3], st, a, h) = Rn 237 (1161, [x0, x1, x2, x3], .int (1 : Int32) :: st, a, h) := Rn_go c237_1160 rfl
theorem c237_1161 : mcode 237 1161 = some (.iadd, 1, 0, 0, 0) := rfl
theorem r237_1161 : Rn 237 (1161, [x0, x1, x2, x3], .int j :: .int i :: st, a, h) = Rn 237 (1162, [x0, x1, x2, x3], .int (i + j) :: st, a, h) := Rn_go c237_1161 rfl
theorem c237_1162 : mcode 237 1162 = some (.iaload, 1, 0, 0, 0) := rfl
theorem r237_1162 : Rn 237 (1162, [x0, x1, x2, x3], .int i :: .ref q :: st, a, h) = Ki 237 1163 [x0, x1, x2, x3] st a h (mld h q i false) := Rn_iald c237_1162 rfl
theorem c237_1163 : mcode 237 1163 = some (.aload_n 0, 1, 0, 0, 0) := rfl
theorem r237_1163 : Rn 237 (1163, [some (.ref q), x1, x2, x3], st, a, h) = Rn 237 (1164, [some (.ref q), x1, x2, x3], .ref q :: st, a, h) := Rn_go c237_1163 rfl
theorem c237_1164 : mcode 237 1164 = some (.iload_n 3, 1, 0, 0, 0) := rfl
theorem r237_1164 : Rn 237 (1164, [x0, x1, x2, some (.int i)], st, a, h) = Rn 237 (1165, [x0, x1, x2, some (.int i)], .int i :: st, a, h) := Rn_go c237_1164 rfl
theorem c237_1165 : mcode 237 1165 = some (.iconst 2, 1, 0, 0, 0) := rfl
theorem r237_1165 : Rn 237 (1165, [x0, x1, x2, x3], st, a, h) = Rn 237 (1166, [x0, x1, x2, x3], .int (2 : Int32) :: st, a, h) := Rn_go c237_1165 rfl
theorem c237_1166 : mcode 237 1166 = some (.iadd, 1, 0, 0, 0) := rfl
theorem r237_1166 : Rn 237 (1166, [x0, x1, x2, x3], .int j :: .int i :: st, a, h) = Rn 237 (1167, [x0, x1, x2, x3], .int (i + j) :: st, a, h) := Rn_go c237_1166 rfl
theorem c237_1167 : mcode 237 1167 = some (.iaload, 1, 0, 0, 0) := rfl
theorem r237_1167 : Rn 237 (1167, [x0, x1, x2, x3], .int i :: .ref q :: st, a, h) = Ki 237 1168 [x0, x1, x2, x3] st a h (mld h q i false) := Rn_iald c237_1167 rfl
theorem c237_1168 : mcode 237 1168 = some (.invokevirtual 138, 3, 93, 2, 5) := rfl
theorem r237_1168 : Rn 237 (1168, [x0, x1, x2, x3], [v1, v0, .ref q], a, h) = if mis h q 5 = true then Bk 237 1171 [x0, x1, x2, x3] [] (Ec 93 [.ref q, v0, v1] a h) else none := Rn_call1 c237_1168 rfl (Nat.le_of_ble_eq_true rfl) rfl rfl (Nat.le_of_ble_eq_true rfl)
theorem c237_1171 : mcode 237 1171 = some (.aload_n 2, 1, 0, 0, 0) := rfl
theorem r237_1171 : Rn 237 (1171, [x0, x1, some (.ref q), x3], st, a, h) = Rn 237 (1172, [x0, x1, some (.ref q), x3], .ref q :: st, a, h) := Rn_go c237_1171 rfl
theorem c237_1172 : mcode 237 1172 = some (.aload_n 0, 1, 0, 0, 0) := rfl
theorem r237_1172 : Rn 237 (1172, [some (.ref q), x1, x2, x3], st, a, h) = Rn 237 (1173, [some (.ref q), x1, x2, x3], .ref q :: st, a, h) := Rn_go c237_1172 rfl
theorem c237_1173 : mcode 237 1173 = some (.iload_n 3, 1, 0, 0, 0) := rfl
theorem r237_1173 : Rn 237 (1173, [x0, x1, x2, some (.int i)], st, a, h) = Rn 237 (1174, [x0, x1, x2, some (.int i)], .int i :: st, a, h) := Rn_go c237_1173 rfl
theorem c237_1174 : mcode 237 1174 = some (.iconst 1, 1, 0, 0, 0) := rfl
theorem r237_1174 : Rn 237 (1174, [x0, x1, x2, x3], st, a, h) = Rn 237 (1175, [x0, x1, x2, x3], .int (1 : Int32) :: st, a, h) := Rn_go c237_1174 rfl
theorem c237_1175 : mcode 237 1175 = some (.iadd, 1, 0, 0, 0) := rfl
theorem r237_1175 : Rn 237 (1175, [x0, x1, x2, x3], .int j :: .int i :: st, a, h) = Rn 237 (1176, [x0, x1, x2, x3], .int (i + j) :: st, a, h) := Rn_go c237_1175 rfl
theorem c237_1176 : mcode 237 1176 = some (.iaload, 1, 0, 0, 0) := rfl
theorem r237_1176 : Rn 237 (1176, [x0, x1, x2, x3], .int i :: .ref q :: st, a, h) = Ki 237 1177 [x0, x1, x2, x3] st a h (mld h q i false) := Rn_iald c237_1176 rfl
theorem c237_1177 : mcode 237 1177 = some (.aload_n 0, 1, 0, 0, 0) := rfl
theorem r237_1177 : Rn 237 (1177, [some (.ref q), x1, x2, x3], st, a, h) = Rn 237 (1178, [some (.ref q), x1, x2, x3], .ref q :: st, a, h) := Rn_go c237_1177 rfl
theorem c237_1178 : mcode 237 1178 = some (.iload_n 3, 1, 0, 0, 0) := rfl
theorem r237_1178 : Rn 237 (1178, [x0, x1, x2, some (.int i)], st, a, h) = Rn 237 (1179, [x0, x1, x2, some (.int i)], .int i :: st, a, h) := Rn_go c237_1178 rfl
theorem c237_1179 : mcode 237 1179 = some (.iconst 2, 1, 0, 0, 0) := rfl
theorem r237_1179 : Rn 237 (1179, [x0, x1, x2, x3], st, a, h) = Rn 237 (1180, [x0, x1, x2, x3], .int (2 : Int32) :: st, a, h) := Rn_go c237_1179 rfl
theorem c237_1180 : mcode 237 1180 = some (.iadd, 1, 0, 0, 0) := rfl
theorem r237_1180 : Rn 237 (1180, [x0, x1, x2, x3], .int j :: .int i :: st, a, h) = Rn 237 (1181, [x0, x1, x2, x3], .int (i + j) :: st, a, h) := Rn_go c237_1180 rfl
theorem c237_1181 : mcode 237 1181 = some (.iaload, 1, 0, 0, 0) := rfl
theorem r237_1181 : Rn 237 (1181, [x0, x1, x2, x3], .int i :: .ref q :: st, a, h) = Ki 237 1182 [x0, x1, x2, x3] st a h (mld h q i false) := Rn_iald c237_1181 rfl
theorem c237_1182 : mcode 237 1182 = some (.invokevirtual 141, 3, 212, 2, 6) := rfl
theorem r237_1182 : Rn 237 (1182, [x0, x1, x2, x3], [v1, v0, .ref q, .int i0], a, h) = if mis h q 6 = true then Bk 237 1185 [x0, x1, x2, x3] [.int i0] (Ec 212 [.ref q, v0, v1] a h) else none := Rn_call1 c237_1182 rfl (Nat.le_of_ble_eq_true rfl) rfl rfl (Nat.le_of_ble_eq_true rfl)
theorem c237_1185 : mcode 237 1185 = some (.if_icmp .eq 318, 3, 0, 0, 0) := rfl
theorem r237_1185 : Rn 237 (1185, [x0, x1, x2, x3], .int j :: .int i :: st, a, h) = if i = j then Rn 237 (1503, [x0, x1, x2, x3], st, a, h) else Rn 237 (1188, [x0, x1, x2, x3], st, a, h) := Rn_icmp c237_1185 mc_eq rfl rfl
theorem c237_1188 : mcode 237 1188 = some (.iconst 0, 1, 0, 0, 0) := rfl
theorem r237_1188 : Rn 237 (1188, [x0, x1, x2, x3], st, a, h) = Rn 237 (1189, [x0, x1, x2, x3], .int (0 : Int32) :: st, a, h) := Rn_go c237_1188 rfl
theorem c237_1189 : mcode 237 1189 = some (.ireturn, 1, 1, 0, 0) := rfl
theorem r237_1189 : Rn 237 (1189, [x0, x1, x2, x3], [.int i], a, h) = if mrt 1 i = true then some (some (.int i), a, h) else none := Rn_iretz c237_1189
theorem c237_1190 : mcode 237 1190 = some (.aload_n 1, 1, 0, 0, 0) := rfl
theorem r237_1190 : Rn 237 (1190, [x0, some (.ref q), x2, x3], st, a, h) = Rn 237 (1191, [x0, some (.ref q), x2, x3], .ref q :: st, a, h) := Rn_go c237_1190 rfl
theorem c237_1191 : mcode 237 1191 = some (.aload_n 0, 1, 0, 0, 0) := rfl
theorem r237_1191 : Rn 237 (1191, [some (.ref q), x1, x2, x3], st, a, h) = Rn 237 (1192, [some (.ref q), x1, x2, x3], .ref q :: st, a, h) := Rn_go c237_1191 rfl
theorem c237_1192 : mcode 237 1192 = some (.iload_n 3, 1, 0, 0, 0) := rfl
theorem r237_1192 : Rn 237 (1192, [x0, x1, x2, some (.int i)], st, a, h) = Rn 237 (1193, [x0, x1, x2, some (.int i)], .int i :: st, a, h) := Rn_go c237_1192 rfl
theorem c237_1193 : mcode 237 1193 = some (.iconst 1, 1, 0, 0, 0) := rfl
theorem r237_1193 : Rn 237 (1193, [x0, x1, x2, x3], st, a, h) = Rn 237 (1194, [x0, x1, x2, x3], .int (1 : Int32) :: st, a, h) := Rn_go c237_1193 rfl
theorem c237_1194 : mcode 237 1194 = some (.iadd, 1, 0, 0, 0) := rfl
theorem r237_1194 : Rn 237 (1194, [x0, x1, x2, x3], .int j :: .int i :: st, a, h) = Rn 237 (1195, [x0, x1, x2, x3], .int (i + j) :: st, a, h) := Rn_go c237_1194 rfl
theorem c237_1195 : mcode 237 1195 = some (.iaload, 1, 0, 0, 0) := rfl
theorem r237_1195 : Rn 237 (1195, [x0, x1, x2, x3], .int i :: .ref q :: st, a, h) = Ki 237 1196 [x0, x1, x2, x3] st a h (mld h q i false) := Rn_iald c237_1195 rfl
theorem c237_1196 : mcode 237 1196 = some (.aload_n 0, 1, 0, 0, 0) := rfl
theorem r237_1196 : Rn 237 (1196, [some (.ref q), x1, x2, x3], st, a, h) = Rn 237 (1197, [some (.ref q), x1, x2, x3], .ref q :: st, a, h) := Rn_go c237_1196 rfl
theorem c237_1197 : mcode 237 1197 = some (.iload_n 3, 1, 0, 0, 0) := rfl
theorem r237_1197 : Rn 237 (1197, [x0, x1, x2, some (.int i)], st, a, h) = Rn 237 (1198, [x0, x1, x2, some (.int i)], .int i :: st, a, h) := Rn_go c237_1197 rfl
theorem c237_1198 : mcode 237 1198 = some (.iconst 2, 1, 0, 0, 0) := rfl
theorem r237_1198 : Rn 237 (1198, [x0, x1, x2, x3], st, a, h) = Rn 237 (1199, [x0, x1, x2, x3], .int (2 : Int32) :: st, a, h) := Rn_go c237_1198 rfl
theorem c237_1199 : mcode 237 1199 = some (.iadd, 1, 0, 0, 0) := rfl
theorem r237_1199 : Rn 237 (1199, [x0, x1, x2, x3], .int j :: .int i :: st, a, h) = Rn 237 (1200, [x0, x1, x2, x3], .int (i + j) :: st, a, h) := Rn_go c237_1199 rfl
theorem c237_1200 : mcode 237 1200 = some (.iaload, 1, 0, 0, 0) := rfl
theorem r237_1200 : Rn 237 (1200, [x0, x1, x2, x3], .int i :: .ref q :: st, a, h) = Ki 237 1201 [x0, x1, x2, x3] st a h (mld h q i false) := Rn_iald c237_1200 rfl
theorem c237_1201 : mcode 237 1201 = some (.invokevirtual 142, 3, 94, 2, 5) := rfl
theorem r237_1201 : Rn 237 (1201, [x0, x1, x2, x3], [v1, v0, .ref q], a, h) = if mis h q 5 = true then Bk 237 1204 [x0, x1, x2, x3] [] (Ec 94 [.ref q, v0, v1] a h) else none := Rn_call1 c237_1201 rfl (Nat.le_of_ble_eq_true rfl) rfl rfl (Nat.le_of_ble_eq_true rfl)
theorem c237_1204 : mcode 237 1204 = some (.aload_n 2, 1, 0, 0, 0) := rfl
theorem r237_1204 : Rn 237 (1204, [x0, x1, some (.ref q), x3], st, a, h) = Rn 237 (1205, [x0, x1, some (.ref q), x3], .ref q :: st, a, h) := Rn_go c237_1204 rfl
theorem c237_1205 : mcode 237 1205 = some (.aload_n 0, 1, 0, 0, 0) := rfl
theorem r237_1205 : Rn 237 (1205, [some (.ref q), x1, x2, x3], st, a, h) = Rn 237 (1206, [some (.ref q), x1, x2, x3], .ref q :: st, a, h) := Rn_go c237_1205 rfl
theorem c237_1206 : mcode 237 1206 = some (.iload_n 3, 1, 0, 0, 0) := rfl
theorem r237_1206 : Rn 237 (1206, [x0, x1, x2, some (.int i)], st, a, h) = Rn 237 (1207, [x0, x1, x2, some (.int i)], .int i :: st, a, h) := Rn_go c237_1206 rfl
theorem c237_1207 : mcode 237 1207 = some (.iconst 1, 1, 0, 0, 0) := rfl
theorem r237_1207 : Rn 237 (1207, [x0, x1, x2, x3], st, a, h) = Rn 237 (1208, [x0, x1, x2, x3], .int (1 : Int32) :: st, a, h) := Rn_go c237_1207 rfl
theorem c237_1208 : mcode 237 1208 = some (.iadd, 1, 0, 0, 0) := rfl
theorem r237_1208 : Rn 237 (1208, [x0, x1, x2, x3], .int j :: .int i :: st, a, h) = Rn 237 (1209, [x0, x1, x2, x3], .int (i + j) :: st, a, h) := Rn_go c237_1208 rfl
theorem c237_1209 : mcode 237 1209 = some (.iaload, 1, 0, 0, 0) := rfl
theorem r237_1209 : Rn 237 (1209, [x0, x1, x2, x3], .int i :: .ref q :: st, a, h) = Ki 237 1210 [x0, x1, x2, x3] st a h (mld h q i false) := Rn_iald c237_1209 rfl
theorem c237_1210 : mcode 237 1210 = some (.aload_n 0, 1, 0, 0, 0) := rfl
theorem r237_1210 : Rn 237 (1210, [some (.ref q), x1, x2, x3], st, a, h) = Rn 237 (1211, [some (.ref q), x1, x2, x3], .ref q :: st, a, h) := Rn_go c237_1210 rfl
theorem c237_1211 : mcode 237 1211 = some (.iload_n 3, 1, 0, 0, 0) := rfl
theorem r237_1211 : Rn 237 (1211, [x0, x1, x2, some (.int i)], st, a, h) = Rn 237 (1212, [x0, x1, x2, some (.int i)], .int i :: st, a, h) := Rn_go c237_1211 rfl
theorem c237_1212 : mcode 237 1212 = some (.iconst 2, 1, 0, 0, 0) := rfl
theorem r237_1212 : Rn 237 (1212, [x0, x1, x2, x3], st, a, h) = Rn 237 (1213, [x0, x1, x2, x3], .int (2 : Int32) :: st, a, h) := Rn_go c237_1212 rfl
theorem c237_1213 : mcode 237 1213 = some (.iadd, 1, 0, 0, 0) := rfl
theorem r237_1213 : Rn 237 (1213, [x0, x1, x2, x3], .int j :: .int i :: st, a, h) = Rn 237 (1214, [x0, x1, x2, x3], .int (i + j) :: st, a, h) := Rn_go c237_1213 rfl
theorem c237_1214 : mcode 237 1214 = some (.iaload, 1, 0, 0, 0) := rfl
theorem r237_1214 : Rn 237 (1214, [x0, x1, x2, x3], .int i :: .ref q :: st, a, h) = Ki 237 1215 [x0, x1, x2, x3] st a h (mld h q i false) := Rn_iald c237_1214 rfl
theorem c237_1215 : mcode 237 1215 = some (.invokevirtual 145, 3, 214, 2, 6) := rfl
theorem r237_1215 : Rn 237 (1215, [x0, x1, x2, x3], [v1, v0, .ref q, .int i0], a, h) = if mis h q 6 = true then Bk 237 1218 [x0, x1, x2, x3] [.int i0] (Ec 214 [.ref q, v0, v1] a h) else none := Rn_call1 c237_1215 rfl (Nat.le_of_ble_eq_true rfl) rfl rfl (Nat.le_of_ble_eq_true rfl)
theorem c237_1218 : mcode 237 1218 = some (.if_icmp .eq 285, 3, 0, 0, 0) := rfl
theorem r237_1218 : Rn 237 (1218, [x0, x1, x2, x3], .int j :: .int i :: st, a, h) = if i = j then Rn 237 (1503, [x0, x1, x2, x3], st, a, h) else Rn 237 (1221, [x0, x1, x2, x3], st, a, h) := Rn_icmp c237_1218 mc_eq rfl rfl
theorem c237_1221 : mcode 237 1221 = some (.iconst 0, 1, 0, 0, 0) := rfl
theorem r237_1221 : Rn 237 (1221, [x0, x1, x2, x3], st, a, h) = Rn 237 (1222, [x0, x1, x2, x3], .int (0 : Int32) :: st, a, h) := Rn_go c237_1221 rfl
theorem c237_1222 : mcode 237 1222 = some (.ireturn, 1, 1, 0, 0) := rfl
theorem r237_1222 : Rn 237 (1222, [x0, x1, x2, x3], [.int i], a, h) = if mrt 1 i = true then some (some (.int i), a, h) else none := Rn_iretz c237_1222
theorem c237_1223 : mcode 237 1223 = some (.aload_n 1, 1, 0, 0, 0) := rfl
theorem r237_1223 : Rn 237 (1223, [x0, some (.ref q), x2, x3], st, a, h) = Rn 237 (1224, [x0, some (.ref q), x2, x3], .ref q :: st, a, h) := Rn_go c237_1223 rfl
theorem c237_1224 : mcode 237 1224 = some (.aload_n 0, 1, 0, 0, 0) := rfl
theorem r237_1224 : Rn 237 (1224, [some (.ref q), x1, x2, x3], st, a, h) = Rn 237 (1225, [some (.ref q), x1, x2, x3], .ref q :: st, a, h) := Rn_go c237_1224 rfl
theorem c237_1225 : mcode 237 1225 = some (.iload_n 3, 1, 0, 0, 0) := rfl
theorem r237_1225 : Rn 237 (1225, [x0, x1, x2, some (.int i)], st, a, h) = Rn 237 (1226, [x0, x1, x2, some (.int i)], .int i :: st, a, h) := Rn_go c237_1225 rfl
theorem c237_1226 : mcode 237 1226 = some (.iconst 1, 1, 0, 0, 0) := rfl
theorem r237_1226 : Rn 237 (1226, [x0, x1, x2, x3], st, a, h) = Rn 237 (1227, [x0, x1, x2, x3], .int (1 : Int32) :: st, a, h) := Rn_go c237_1226 rfl
theorem c237_1227 : mcode 237 1227 = some (.iadd, 1, 0, 0, 0) := rfl
theorem r237_1227 : Rn 237 (1227, [x0, x1, x2, x3], .int j :: .int i :: st, a, h) = Rn 237 (1228, [x0, x1, x2, x3], .int (i + j) :: st, a, h) := Rn_go c237_1227 rfl
theorem c237_1228 : mcode 237 1228 = some (.iaload, 1, 0, 0, 0) := rfl
theorem r237_1228 : Rn 237 (1228, [x0, x1, x2, x3], .int i :: .ref q :: st, a, h) = Ki 237 1229 [x0, x1, x2, x3] st a h (mld h q i false) := Rn_iald c237_1228 rfl
theorem c237_1229 : mcode 237 1229 = some (.aload_n 0, 1, 0, 0, 0) := rfl
theorem r237_1229 : Rn 237 (1229, [some (.ref q), x1, x2, x3], st, a, h) = Rn 237 (1230, [some (.ref q), x1, x2, x3], .ref q :: st, a, h) := Rn_go c237_1229 rfl
theorem c237_1230 : mcode 237 1230 = some (.iload_n 3, 1, 0, 0, 0) := rfl
theorem r237_1230 : Rn 237 (1230, [x0, x1, x2, some (.int i)], st, a, h) = Rn 237 (1231, [x0, x1, x2, some (.int i)], .int i :: st, a, h) := Rn_go c237_1230 rfl
theorem c237_1231 : mcode 237 1231 = some (.iconst 2, 1, 0, 0, 0) := rfl
theorem r237_1231 : Rn 237 (1231, [x0, x1, x2, x3], st, a, h) = Rn 237 (1232, [x0, x1, x2, x3], .int (2 : Int32) :: st, a, h) := Rn_go c237_1231 rfl
theorem c237_1232 : mcode 237 1232 = some (.iadd, 1, 0, 0, 0) := rfl
theorem r237_1232 : Rn 237 (1232, [x0, x1, x2, x3], .int j :: .int i :: st, a, h) = Rn 237 (1233, [x0, x1, x2, x3], .int (i + j) :: st, a, h) := Rn_go c237_1232 rfl
theorem c237_1233 : mcode 237 1233 = some (.iaload, 1, 0, 0, 0) := rfl
theorem r237_1233 : Rn 237 (1233, [x0, x1, x2, x3], .int i :: .ref q :: st, a, h) = Ki 237 1234 [x0, x1, x2, x3] st a h (mld h q i false) := Rn_iald c237_1233 rfl
theorem c237_1234 : mcode 237 1234 = some (.aload_n 0, 1, 0, 0, 0) := rfl
theorem r237_1234 : Rn 237 (1234, [some (.ref q), x1, x2, x3], st, a, h) = Rn 237 (1235, [some (.ref q), x1, x2, x3], .ref q :: st, a, h) := Rn_go c237_1234 rfl
theorem c237_1235 : mcode 237 1235 = some (.iload_n 3, 1, 0, 0, 0) := rfl
theorem r237_1235 : Rn 237 (1235, [x0, x1, x2, some (.int i)], st, a, h) = Rn 237 (1236, [x0, x1, x2, some (.int i)], .int i :: st, a, h) := Rn_go c237_1235 rfl
theorem c237_1236 : mcode 237 1236 = some (.iconst 3, 1, 0, 0, 0) := rfl
theorem r237_1236 : Rn 237 (1236, [x0, x1, x2, x3], st, a, h) = Rn 237 (1237, [x0, x1, x2, x3], .int (3 : Int32) :: st, a, h) := Rn_go c237_1236 rfl
theorem c237_1237 : mcode 237 1237 = some (.iadd, 1, 0, 0, 0) := rfl
theorem r237_1237 : Rn 237 (1237, [x0, x1, x2, x3], .int j :: .int i :: st, a, h) = Rn 237 (1238, [x0, x1, x2, x3], .int (i + j) :: st, a, h) := Rn_go c237_1237 rfl
theorem c237_1238 : mcode 237 1238 = some (.iaload, 1, 0, 0, 0) := rfl
theorem r237_1238 : Rn 237 (1238, [x0, x1, x2, x3], .int i :: .ref q :: st, a, h) = Ki 237 1239 [x0, x1, x2, x3] st a h (mld h q i false) := Rn_iald c237_1238 rfl
theorem c237_1239 : mcode 237 1239 = some (.invokevirtual 146, 3, 95, 3, 5) := rfl
theorem r237_1239 : Rn 237 (1239, [x0, x1, x2, x3], [v2, v1, v0, .ref q], a, h) = if mis h q 5 = true then Bk 237 1242 [x0, x1, x2, x3] [] (Ec 95 [.ref q, v0, v1, v2] a h) else none := Rn_call1 c237_1239 rfl (Nat.le_of_ble_eq_true rfl) rfl rfl (Nat.le_of_ble_eq_true rfl)
theorem c237_1242 : mcode 237 1242 = some (.aload_n 2, 1, 0, 0, 0) := rfl
theorem r237_1242 : Rn 237 (1242, [x0, x1, some (.ref q), x3], st, a, h) = Rn 237 (1243, [x0, x1, some (.ref q), x3], .ref q :: st, a, h) := Rn_go c237_1242 rfl
theorem c237_1243 : mcode 237 1243 = some (.aload_n 0, 1, 0, 0, 0) := rfl
theorem r237_1243 : Rn 237 (1243, [some (.ref q), x1, x2, x3], st, a, h) = Rn 237 (1244, [some (.ref q), x1, x2, x3], .ref q :: st, a, h) := Rn_go c237_1243 rfl
theorem c237_1244 : mcode 237 1244 = some (.iload_n 3, 1, 0, 0, 0) := rfl
theorem r237_1244 : Rn 237 (1244, [x0, x1, x2, some (.int i)], st, a, h) = Rn 237 (1245, [x0, x1, x2, some (.int i)], .int i :: st, a, h) := Rn_go c237_1244 rfl
theorem c237_1245 : mcode 237 1245 = some (.iconst 1, 1, 0, 0, 0) := rfl
theorem r237_1245 : Rn 237 (1245, [x0, x1, x2, x3], st, a, h) = Rn 237 (1246, [x0, x1, x2, x3], .int (1 : Int32) :: st, a, h) := Rn_go c237_1245 rfl
theorem c237_1246 : mcode 237 1246 = some (.iadd, 1, 0, 0, 0) := rfl
theorem r237_1246 : Rn 237 (1246, [x0, x1, x2, x3], .int j :: .int i :: st, a, h) = Rn 237 (1247, [x0, x1, x2, x3], .int (i + j) :: st, a, h) := Rn_go c237_1246 rfl
theorem c237_1247 : mcode 237 1247 = some (.iaload, 1, 0, 0, 0) := rfl
theorem r237_1247 : Rn 237 (1247, [x0, x1, x2, x3], .int i :: .ref q :: st, a, h) = Ki 237 1248 [x0, x1, x2, x3] st a h (mld h q i false) := Rn_iald c237_1247 rfl
theorem c237_1248 : mcode 237 1248 = some (.aload_n 0, 1, 0, 0, 0) := rfl
theorem r237_1248 : Rn 237 (1248, [some (.ref q), x1, x2, x3], st, a, h) = Rn 237 (1249, [some (.ref q), x1, x2, x3], .ref q :: st, a, h) := Rn_go c237_1248 rfl
theorem c237_1249 : mcode 237 1249 = some (.iload_n 3, 1, 0, 0, 0) := rfl
theorem r237_1249 : Rn 237 (1249, [x0, x1, x2, some (.int i)], st, a, h) = Rn 237 (1250, [x0, x1, x2, some (.int i)], .int i :: st, a, h) := Rn_go c237_1249 rfl
theorem c237_1250 : mcode 237 1250 = some (.iconst 2, 1, 0, 0, 0) := rfl
theorem r237_1250 : Rn 237 (1250, [x0, x1, x2, x3], st, a, h) = Rn 237 (1251, [x0, x1, x2, x3], .int (2 : Int32) :: st, a, h) := Rn_go c237_1250 rfl
theorem c237_1251 : mcode 237 1251 = some (.iadd, 1, 0, 0, 0) := rfl
theorem r237_1251 : Rn 237 (1251, [x0, x1, x2, x3], .int j :: .int i :: st, a, h) = Rn 237 (1252, [x0, x1, x2, x3], .int (i + j) :: st, a, h) := Rn_go c237_1251 rfl
theorem c237_1252 : mcode 237 1252 = some (.iaload, 1, 0, 0, 0) := rfl
theorem r237_1252 : Rn 237 (1252, [x0, x1, x2, x3], .int i :: .ref q :: st, a, h) = Ki 237 1253 [x0, x1, x2, x3] st a h (mld h q i false) := Rn_iald c237_1252 rfl
theorem c237_1253 : mcode 237 1253 = some (.aload_n 0, 1, 0, 0, 0) := rfl
theorem r237_1253 : Rn 237 (1253, [some (.ref q), x1, x2, x3], st, a, h) = Rn 237 (1254, [some (.ref q), x1, x2, x3], .ref q :: st, a, h) := Rn_go c237_1253 rfl
theorem c237_1254 : mcode 237 1254 = some (.iload_n 3, 1, 0, 0, 0) := rfl
theorem r237_1254 : Rn 237 (1254, [x0, x1, x2, some (.int i)], st, a, h) = Rn 237 (1255, [x0, x1, x2, some (.int i)], .int i :: st, a, h) := Rn_go c237_1254 rfl
theorem c237_1255 : mcode 237 1255 = some (.iconst 3, 1, 0, 0, 0) := rfl
theorem r237_1255 : Rn 237 (1255, [x0, x1, x2, x3], st, a, h) = Rn 237 (1256, [x0, x1, x2, x3], .int (3 : Int32) :: st, a, h) := Rn_go c237_1255 rfl
theorem c237_1256 : mcode 237 1256 = some (.iadd, 1, 0, 0, 0) := rfl
theorem r237_1256 : Rn 237 (1256, [x0, x1, x2, x3], .int j :: .int i :: st, a, h) = Rn 237 (1257, [x0, x1, x2, x3], .int (i + j) :: st, a, h) := Rn_go c237_1256 rfl
theorem c237_1257 : mcode 237 1257 = some (.iaload, 1, 0, 0, 0) := rfl
theorem r237_1257 : Rn 237 (1257, [x0, x1, x2, x3], .int i :: .ref q :: st, a, h) = Ki 237 1258 [x0, x1, x2, x3] st a h (mld h q i false) := Rn_iald c237_1257 rfl
theorem c237_1258 : mcode 237 1258 = some (.invokevirtual 149, 3, 216, 3, 6) := rfl
theorem r237_1258 : Rn 237 (1258, [x0, x1, x2, x3], [v2, v1, v0, .ref q, .int i0], a, h) = if mis h q 6 = true then Bk 237 1261 [x0, x1, x2, x3] [.int i0] (Ec 216 [.ref q, v0, v1, v2] a h) else none := Rn_call1 c237_1258 rfl (Nat.le_of_ble_eq_true rfl) rfl rfl (Nat.le_of_ble_eq_true rfl)
theorem c237_1261 : mcode 237 1261 = some (.if_icmp .eq 242, 3, 0, 0, 0) := rfl
theorem r237_1261 : Rn 237 (1261, [x0, x1, x2, x3], .int j :: .int i :: st, a, h) = if i = j then Rn 237 (1503, [x0, x1, x2, x3], st, a, h) else Rn 237 (1264, [x0, x1, x2, x3], st, a, h) := Rn_icmp c237_1261 mc_eq rfl rfl
theorem c237_1264 : mcode 237 1264 = some (.iconst 0, 1, 0, 0, 0) := rfl
theorem r237_1264 : Rn 237 (1264, [x0, x1, x2, x3], st, a, h) = Rn 237 (1265, [x0, x1, x2, x3], .int (0 : Int32) :: st, a, h) := Rn_go c237_1264 rfl
theorem c237_1265 : mcode 237 1265 = some (.ireturn, 1, 1, 0, 0) := rfl
theorem r237_1265 : Rn 237 (1265, [x0, x1, x2, x3], [.int i], a, h) = if mrt 1 i = true then some (some (.int i), a, h) else none := Rn_iretz c237_1265
theorem c237_1266 : mcode 237 1266 = some (.aload_n 1, 1, 0, 0, 0) := rfl
theorem r237_1266 : Rn 237 (1266, [x0, some (.ref q), x2, x3], st, a, h) = Rn 237 (1267, [x0, some (.ref q), x2, x3], .ref q :: st, a, h) := Rn_go c237_1266 rfl
theorem c237_1267 : mcode 237 1267 = some (.aload_n 0, 1, 0, 0, 0) := rfl
theorem r237_1267 : Rn 237 (1267, [some (.ref q), x1, x2, x3], st, a, h) = Rn 237 (1268, [some (.ref q), x1, x2, x3], .ref q :: st, a, h) := Rn_go c237_1267 rfl
theorem c237_1268 : mcode 237 1268 = some (.iload_n 3, 1, 0, 0, 0) := rfl
theorem r237_1268 : Rn 237 (1268, [x0, x1, x2, some (.int i)], st, a, h) = Rn 237 (1269, [x0, x1, x2, some (.int i)], .int i :: st, a, h) := Rn_go c237_1268 rfl
theorem c237_1269 : mcode 237 1269 = some (.iconst 1, 1, 0, 0, 0) := rfl
theorem r237_1269 : Rn 237 (1269, [x0, x1, x2, x3], st, a, h) = Rn 237 (1270, [x0, x1, x2, x3], .int (1 : Int32) :: st, a, h) := Rn_go c237_1269 rfl
theorem c237_1270 : mcode 237 1270 = some (.iadd, 1, 0, 0, 0) := rfl
theorem r237_1270 : Rn 237 (1270, [x0, x1, x2, x3], .int j :: .int i :: st, a, h) = Rn 237 (1271, [x0, x1, x2, x3], .int (i + j) :: st, a, h) := Rn_go c237_1270 rfl
theorem c237_1271 : mcode 237 1271 = some (.iaload, 1, 0, 0, 0) := rfl
theorem r237_1271 : Rn 237 (1271, [x0, x1, x2, x3], .int i :: .ref q :: st, a, h) = Ki 237 1272 [x0, x1, x2, x3] st a h (mld h q i false) := Rn_iald c237_1271 rfl
theorem c237_1272 : mcode 237 1272 = some (.aload_n 0, 1, 0, 0, 0) := rfl
theorem r237_1272 : Rn 237 (1272, [some (.ref q), x1, x2, x3], st, a, h) = Rn 237 (1273, [some (.ref q), x1, x2, x3], .ref q :: st, a, h) := Rn_go c237_1272 rfl
theorem c237_1273 : mcode 237 1273 = some (.iload_n 3, 1, 0, 0, 0) := rfl
theorem r237_1273 : Rn 237 (1273, [x0, x1, x2, some (.int i)], st, a, h) = Rn 237 (1274, [x0, x1, x2, some (.int i)], .int i :: st, a, h) := Rn_go c237_1273 rfl
theorem c237_1274 : mcode 237 1274 = some (.iconst 2, 1, 0, 0, 0) := rfl
theorem r237_1274 : Rn 237 (1274, [x0, x1, x2, x3], st, a, h) = Rn 237 (1275, [x0, x1, x2, x3], .int (2 : Int32) :: st, a, h) := Rn_go c237_1274 rfl
theorem c237_1275 : mcode 237 1275 = some (.iadd, 1, 0, 0, 0) := rfl
theorem r237_1275 : Rn 237 (1275, [x0, x1, x2, x3], .int j :: .int i :: st, a, h) = Rn 237 (1276, [x0, x1, x2, x3], .int (i + j) :: st, a, h) := Rn_go c237_1275 rfl
theorem c237_1276 : mcode 237 1276 = some (.iaload, 1, 0, 0, 0) := rfl
theorem r237_1276 : Rn 237 (1276, [x0, x1, x2, x3], .int i :: .ref q :: st, a, h) = Ki 237 1277 [x0, x1, x2, x3] st a h (mld h q i false) := Rn_iald c237_1276 rfl
theorem c237_1277 : mcode 237 1277 = some (.aload_n 0, 1, 0, 0, 0) := rfl
theorem r237_1277 : Rn 237 (1277, [some (.ref q), x1, x2, x3], st, a, h) = Rn 237 (1278, [some (.ref q), x1, x2, x3], .ref q :: st, a, h) := Rn_go c237_1277 rfl
theorem c237_1278 : mcode 237 1278 = some (.iload_n 3, 1, 0, 0, 0) := rfl
theorem r237_1278 : Rn 237 (1278, [x0, x1, x2, some (.int i)], st, a, h) = Rn 237 (1279, [x0, x1, x2, some (.int i)], .int i :: st, a, h) := Rn_go c237_1278 rfl
theorem c237_1279 : mcode 237 1279 = some (.iconst 3, 1, 0, 0, 0) := rfl
theorem r237_1279 : Rn 237 (1279, [x0, x1, x2, x3], st, a, h) = Rn 237 (1280, [x0, x1, x2, x3], .int (3 : Int32) :: st, a, h) := Rn_go c237_1279 rfl
theorem c237_1280 : mcode 237 1280 = some (.iadd, 1, 0, 0, 0) := rfl
theorem r237_1280 : Rn 237 (1280, [x0, x1, x2, x3], .int j :: .int i :: st, a, h) = Rn 237 (1281, [x0, x1, x2, x3], .int (i + j) :: st, a, h) := Rn_go c237_1280 rfl
theorem c237_1281 : mcode 237 1281 = some (.iaload, 1, 0, 0, 0) := rfl
theorem r237_1281 : Rn 237 (1281, [x0, x1, x2, x3], .int i :: .ref q :: st, a, h) = Ki 237 1282 [x0, x1, x2, x3] st a h (mld h q i false) := Rn_iald c237_1281 rfl
theorem c237_1282 : mcode 237 1282 = some (.invokevirtual 150, 3, 96, 3, 5) := rfl
theorem r237_1282 : Rn 237 (1282, [x0, x1, x2, x3], [v2, v1, v0, .ref q], a, h) = if mis h q 5 = true then Bk 237 1285 [x0, x1, x2, x3] [] (Ec 96 [.ref q, v0, v1, v2] a h) else none := Rn_call1 c237_1282 rfl (Nat.le_of_ble_eq_true rfl) rfl rfl (Nat.le_of_ble_eq_true rfl)
theorem c237_1285 : mcode 237 1285 = some (.aload_n 2, 1, 0, 0, 0) := rfl
theorem r237_1285 : Rn 237 (1285, [x0, x1, some (.ref q), x3], st, a, h) = Rn 237 (1286, [x0, x1, some (.ref q), x3], .ref q :: st, a, h) := Rn_go c237_1285 rfl
theorem c237_1286 : mcode 237 1286 = some (.aload_n 0, 1, 0, 0, 0) := rfl
theorem r237_1286 : Rn 237 (1286, [some (.ref q), x1, x2, x3], st, a, h) = Rn 237 (1287, [some (.ref q), x1, x2, x3], .ref q :: st, a, h) := Rn_go c237_1286 rfl
theorem c237_1287 : mcode 237 1287 = some (.iload_n 3, 1, 0, 0, 0) := rfl
theorem r237_1287 : Rn 237 (1287, [x0, x1, x2, some (.int i)], st, a, h) = Rn 237 (1288, [x0, x1, x2, some (.int i)], .int i :: st, a, h) := Rn_go c237_1287 rfl
theorem c237_1288 : mcode 237 1288 = some (.iconst 1, 1, 0, 0, 0) := rfl
theorem r237_1288 : Rn 237 (1288, [x0, x1, x2, x3], st, a, h) = Rn 237 (1289, [x0, x1, x2, x3], .int (1 : Int32) :: st, a, h) := Rn_go c237_1288 rfl
theorem c237_1289 : mcode 237 1289 = some (.iadd, 1, 0, 0, 0) := rfl
theorem r237_1289 : Rn 237 (1289, [x0, x1, x2, x3], .int j :: .int i :: st, a, h) = Rn 237 (1290, [x0, x1, x2, x3], .int (i + j) :: st, a, h) := Rn_go c237_1289 rfl
theorem c237_1290 : mcode 237 1290 = some (.iaload, 1, 0, 0, 0) := rfl
theorem r237_1290 : Rn 237 (1290, [x0, x1, x2, x3], .int i :: .ref q :: st, a, h) = Ki 237 1291 [x0, x1, x2, x3] st a h (mld h q i false) := Rn_iald c237_1290 rfl
theorem c237_1291 : mcode 237 1291 = some (.aload_n 0, 1, 0, 0, 0) := rfl
theorem r237_1291 : Rn 237 (1291, [some (.ref q), x1, x2, x3], st, a, h) = Rn 237 (1292, [some (.ref q), x1, x2, x3], .ref q :: st, a, h) := Rn_go c237_1291 rfl
theorem c237_1292 : mcode 237 1292 = some (.iload_n 3, 1, 0, 0, 0) := rfl
theorem r237_1292 : Rn 237 (1292, [x0, x1, x2, some (.int i)], st, a, h) = Rn 237 (1293, [x0, x1, x2, some (.int i)], .int i :: st, a, h) := Rn_go c237_1292 rfl
theorem c237_1293 : mcode 237 1293 = some (.iconst 2, 1, 0, 0, 0) := rfl
theorem r237_1293 : Rn 237 (1293, [x0, x1, x2, x3], st, a, h) = Rn 237 (1294, [x0, x1, x2, x3], .int (2 : Int32) :: st, a, h) := Rn_go c237_1293 rfl
theorem c237_1294 : mcode 237 1294 = some (.iadd, 1, 0, 0, 0) := rfl
theorem r237_1294 : Rn 237 (1294, [x0, x1, x2, x3], .int j :: .int i :: st, a, h) = Rn 237 (1295, [x0, x1, x2, x3], .int (i + j) :: st, a, h) := Rn_go c237_1294 rfl
theorem c237_1295 : mcode 237 1295 = some (.iaload, 1, 0, 0, 0) := rfl
theorem r237_1295 : Rn 237 (1295, [x0, x1, x2, x3], .int i :: .ref q :: st, a, h) = Ki 237 1296 [x0, x1, x2, x3] st a h (mld h q i false) := Rn_iald c237_1295 rfl
theorem c237_1296 : mcode 237 1296 = some (.aload_n 0, 1, 0, 0, 0) := rfl
theorem r237_1296 : Rn 237 (1296, [some (.ref q), x1, x2, x3], st, a, h) = Rn 237 (1297, [some (.ref q), x1, x2, x3], .ref q :: st, a, h) := Rn_go c237_1296 rfl
theorem c237_1297 : mcode 237 1297 = some (.iload_n 3, 1, 0, 0, 0) := rfl
theorem r237_1297 : Rn 237 (1297, [x0, x1, x2, some (.int i)], st, a, h) = Rn 237 (1298, [x0, x1, x2, some (.int i)], .int i :: st, a, h) := Rn_go c237_1297 rfl
theorem c237_1298 : mcode 237 1298 = some (.iconst 3, 1, 0, 0, 0) := rfl
theorem r237_1298 : Rn 237 (1298, [x0, x1, x2, x3], st, a, h) = Rn 237 (1299, [x0, x1, x2, x3], .int (3 : Int32) :: st, a, h) := Rn_go c237_1298 rfl
theorem c237_1299 : mcode 237 1299 = some (.iadd, 1, 0, 0, 0) := rfl
theorem r237_1299 : Rn 237 (1299, [x0, x1, x2, x3], .int j :: .int i :: st, a, h) = Rn 237 (1300, [x0, x1, x2, x3], .int (i + j) :: st, a, h) := Rn_go c237_1299 rfl
theorem c237_1300 : mcode 237 1300 = some (.iaload, 1, 0, 0, 0) := rfl
theorem r237_1300 : Rn 237 (1300, [x0, x1, x2, x3], .int i :: .ref q :: st, a, h) = Ki 237 1301 [x0, x1, x2, x3] st a h (mld h q i false) := Rn_iald c237_1300 rfl
theorem c237_1301 : mcode 237 1301 = some (.invokevirtual 153, 3, 217, 3, 6) := rfl
theorem r237_1301 : Rn 237 (1301, [x0, x1, x2, x3], [v2, v1, v0, .ref q, .int i0], a, h) = if mis h q 6 = true then Bk 237 1304 [x0, x1, x2, x3] [.int i0] (Ec 217 [.ref q, v0, v1, v2] a h) else none := Rn_call1 c237_1301 rfl (Nat.le_of_ble_eq_true rfl) rfl rfl (Nat.le_of_ble_eq_true rfl)
theorem c237_1304 : mcode 237 1304 = some (.if_icmp .eq 199, 3, 0, 0, 0) := rfl
theorem r237_1304 : Rn 237 (1304, [x0, x1, x2, x3], .int j :: .int i :: st, a, h) = if i = j then Rn 237 (1503, [x0, x1, x2, x3], st, a, h) else Rn 237 (1307, [x0, x1, x2, x3], st, a, h) := Rn_icmp c237_1304 mc_eq rfl rfl
theorem c237_1307 : mcode 237 1307 = some (.iconst 0, 1, 0, 0, 0) := rfl
theorem r237_1307 : Rn 237 (1307, [x0, x1, x2, x3], st, a, h) = Rn 237 (1308, [x0, x1, x2, x3], .int (0 : Int32) :: st, a, h) := Rn_go c237_1307 rfl
theorem c237_1308 : mcode 237 1308 = some (.ireturn, 1, 1, 0, 0) := rfl
theorem r237_1308 : Rn 237 (1308, [x0, x1, x2, x3], [.int i], a, h) = if mrt 1 i = true then some (some (.int i), a, h) else none := Rn_iretz c237_1308
theorem c237_1309 : mcode 237 1309 = some (.aload_n 1, 1, 0, 0, 0) := rfl
theorem r237_1309 : Rn 237 (1309, [x0, some (.ref q), x2, x3], st, a, h) = Rn 237 (1310, [x0, some (.ref q), x2, x3], .ref q :: st, a, h) := Rn_go c237_1309 rfl
theorem c237_1310 : mcode 237 1310 = some (.aload_n 0, 1, 0, 0, 0) := rfl
theorem r237_1310 : Rn 237 (1310, [some (.ref q), x1, x2, x3], st, a, h) = Rn 237 (1311, [some (.ref q), x1, x2, x3], .ref q :: st, a, h) := Rn_go c237_1310 rfl
theorem c237_1311 : mcode 237 1311 = some (.iload_n 3, 1, 0, 0, 0) := rfl
theorem r237_1311 : Rn 237 (1311, [x0, x1, x2, some (.int i)], st, a, h) = Rn 237 (1312, [x0, x1, x2, some (.int i)], .int i :: st, a, h) := Rn_go c237_1311 rfl
theorem c237_1312 : mcode 237 1312 = some (.iconst 1, 1, 0, 0, 0) := rfl
theorem r237_1312 : Rn 237 (1312, [x0, x1, x2, x3], st, a, h) = Rn 237 (1313, [x0, x1, x2, x3], .int (1 : Int32) :: st, a, h) := Rn_go c237_1312 rfl
theorem c237_1313 : mcode 237 1313 = some (.iadd, 1, 0, 0, 0) := rfl
theorem r237_1313 : Rn 237 (1313, [x0, x1, x2, x3], .int j :: .int i :: st, a, h) = Rn 237 (1314, [x0, x1, x2, x3], .int (i + j) :: st, a, h) := Rn_go c237_1313 rfl
theorem c237_1314 : mcode 237 1314 = some (.iaload, 1, 0, 0, 0) := rfl
theorem r237_1314 : Rn 237 (1314, [x0, x1, x2, x3], .int i :: .ref q :: st, a, h) = Ki 237 1315 [x0, x1, x2, x3] st a h (mld h q i false) := Rn_iald c237_1314 rfl
theorem c237_1315 : mcode 237 1315 = some (.aload_n 0, 1, 0, 0, 0) := rfl
theorem r237_1315 : Rn 237 (1315, [some (.ref q), x1, x2, x3], st, a, h) = Rn 237 (1316, [some (.ref q), x1, x2, x3], .ref q :: st, a, h) := Rn_go c237_1315 rfl
theorem c237_1316 : mcode 237 1316 = some (.iload_n 3, 1, 0, 0, 0) := rfl
theorem r237_1316 : Rn 237 (1316, [x0, x1, x2, some (.int i)], st, a, h) = Rn 237 (1317, [x0, x1, x2, some (.int i)], .int i :: st, a, h) := Rn_go c237_1316 rfl
theorem c237_1317 : mcode 237 1317 = some (.iconst 2, 1, 0, 0, 0) := rfl
theorem r237_1317 : Rn 237 (1317, [x0, x1, x2, x3], st, a, h) = Rn 237 (1318, [x0, x1, x2, x3], .int (2 : Int32) :: st, a, h) := Rn_go c237_1317 rfl
theorem c237_1318 : mcode 237 1318 = some (.iadd, 1, 0, 0, 0) := rfl
theorem r237_1318 : Rn 237 (1318, [x0, x1, x2, x3], .int j :: .int i :: st, a, h) = Rn 237 (1319, [x0, x1, x2, x3], .int (i + j) :: st, a, h) := Rn_go c237_1318 rfl
theorem c237_1319 : mcode 237 1319 = some (.iaload, 1, 0, 0, 0) := rfl
theorem r237_1319 : Rn 237 (1319, [x0, x1, x2, x3], .int i :: .ref q :: st, a, h) = Ki 237 1320 [x0, x1, x2, x3] st a h (mld h q i false) := Rn_iald c237_1319 rfl
theorem c237_1320 : mcode 237 1320 = some (.aload_n 0, 1, 0, 0, 0) := rfl
theorem r237_1320 : Rn 237 (1320, [some (.ref q), x1, x2, x3], st, a, h) = Rn 237 (1321, [some (.ref q), x1, x2, x3], .ref q :: st, a, h) := Rn_go c237_1320 rfl
theorem c237_1321 : mcode 237 1321 = some (.iload_n 3, 1, 0, 0, 0) := rfl
theorem r237_1321 : Rn 237 (1321, [x0, x1, x2, some (.int i)], st, a, h) = Rn 237 (1322, [x0, x1, x2, some (.int i)], .int i :: st, a, h) := Rn_go c237_1321 rfl
theorem c237_1322 : mcode 237 1322 = some (.iconst 3, 1, 0, 0, 0) := rfl
theorem r237_1322 : Rn 237 (1322, [x0, x1, x2, x3], st, a, h) = Rn 237 (1323, [x0, x1, x2, x3], .int (3 : Int32) :: st, a, h) := Rn_go c237_1322 rfl
theorem c237_1323 : mcode 237 1323 = some (.iadd, 1, 0, 0, 0) := rfl
theorem r237_1323 : Rn 237 (1323, [x0, x1, x2, x3], .int j :: .int i :: st, a, h) = Rn 237 (1324, [x0, x1, x2, x3], .int (i + j) :: st, a, h) := Rn_go c237_1323 rfl
theorem c237_1324 : mcode 237 1324 = some (.iaload, 1, 0, 0, 0) := rfl
theorem r237_1324 : Rn 237 (1324, [x0, x1, x2, x3], .int i :: .ref q :: st, a, h) = Ki 237 1325 [x0, x1, x2, x3] st a h (mld h q i false) := Rn_iald c237_1324 rfl
theorem c237_1325 : mcode 237 1325 = some (.aload_n 0, 1, 0, 0, 0) := rfl
theorem r237_1325 : Rn 237 (1325, [some (.ref q), x1, x2, x3], st, a, h) = Rn 237 (1326, [some (.ref q), x1, x2, x3], .ref q :: st, a, h) := Rn_go c237_1325 rfl
theorem c237_1326 : mcode 237 1326 = some (.iload_n 3, 1, 0, 0, 0) := rfl
theorem r237_1326 : Rn 237 (1326, [x0, x1, x2, some (.int i)], st, a, h) = Rn 237 (1327, [x0, x1, x2, some (.int i)], .int i :: st, a, h) := Rn_go c237_1326 rfl
theorem c237_1327 : mcode 237 1327 = some (.iconst 4, 1, 0, 0, 0) := rfl
theorem r237_1327 : Rn 237 (1327, [x0, x1, x2, x3], st, a, h) = Rn 237 (1328, [x0, x1, x2, x3], .int (4 : Int32) :: st, a, h) := Rn_go c237_1327 rfl
theorem c237_1328 : mcode 237 1328 = some (.iadd, 1, 0, 0, 0) := rfl
theorem r237_1328 : Rn 237 (1328, [x0, x1, x2, x3], .int j :: .int i :: st, a, h) = Rn 237 (1329, [x0, x1, x2, x3], .int (i + j) :: st, a, h) := Rn_go c237_1328 rfl
theorem c237_1329 : mcode 237 1329 = some (.iaload, 1, 0, 0, 0) := rfl
theorem r237_1329 : Rn 237 (1329, [x0, x1, x2, x3], .int i :: .ref q :: st, a, h) = Ki 237 1330 [x0, x1, x2, x3] st a h (mld h q i false) := Rn_iald c237_1329 rfl
theorem c237_1330 : mcode 237 1330 = some (.aload_n 0, 1, 0, 0, 0) := rfl
theorem r237_1330 : Rn 237 (1330, [some (.ref q), x1, x2, x3], st, a, h) = Rn 237 (1331, [some (.ref q), x1, x2, x3], .ref q :: st, a, h) := Rn_go c237_1330 rfl
theorem c237_1331 : mcode 237 1331 = some (.iload_n 3, 1, 0, 0, 0) := rfl
theorem r237_1331 : Rn 237 (1331, [x0, x1, x2, some (.int i)], st, a, h) = Rn 237 (1332, [x0, x1, x2, some (.int i)], .int i :: st, a, h) := Rn_go c237_1331 rfl
theorem c237_1332 : mcode 237 1332 = some (.iconst 5, 1, 0, 0, 0) := rfl
theorem r237_1332 : Rn 237 (1332, [x0, x1, x2, x3], st, a, h) = Rn 237 (1333, [x0, x1, x2, x3], .int (5 : Int32) :: st, a, h) := Rn_go c237_1332 rfl
theorem c237_1333 : mcode 237 1333 = some (.iadd, 1, 0, 0, 0) := rfl
theorem r237_1333 : Rn 237 (1333, [x0, x1, x2, x3], .int j :: .int i :: st, a, h) = Rn 237 (1334, [x0, x1, x2, x3], .int (i + j) :: st, a, h) := Rn_go c237_1333 rfl
theorem c237_1334 : mcode 237 1334 = some (.iaload, 1, 0, 0, 0) := rfl
theorem r237_1334 : Rn 237 (1334, [x0, x1, x2, x3], .int i :: .ref q :: st, a, h) = Ki 237 1335 [x0, x1, x2, x3] st a h (mld h q i false) := Rn_iald c237_1334 rfl
theorem c237_1335 : mcode 237 1335 = some (.invokevirtual 154, 3, 97, 5, 5) := rfl
theorem r237_1335 : Rn 237 (1335, [x0, x1, x2, x3], [v4, v3, v2, v1, v0, .ref q], a, h) = if mis h q 5 = true then Bk 237 1338 [x0, x1, x2, x3] [] (Ec 97 [.ref q, v0, v1, v2, v3, v4] a h) else none := Rn_call1 c237_1335 rfl (Nat.le_of_ble_eq_true rfl) rfl rfl (Nat.le_of_ble_eq_true rfl)
theorem c237_1338 : mcode 237 1338 = some (.aload_n 2, 1, 0, 0, 0) := rfl
theorem r237_1338 : Rn 237 (1338, [x0, x1, some (.ref q), x3], st, a, h) = Rn 237 (1339, [x0, x1, some (.ref q), x3], .ref q :: st, a, h) := Rn_go c237_1338 rfl
theorem c237_1339 : mcode 237 1339 = some (.aload_n 0, 1, 0, 0, 0) := rfl
theorem r237_1339 : Rn 237 (1339, [some (.ref q), x1, x2, x3], st, a, h) = Rn 237 (1340, [some (.ref q), x1, x2, x3], .ref q :: st, a, h) := Rn_go c237_1339 rfl
theorem c237_1340 : mcode 237 1340 = some (.iload_n 3, 1, 0, 0, 0) := rfl
theorem r237_1340 : Rn 237 (1340, [x0, x1, x2, some (.int i)], st, a, h) = Rn 237 (1341, [x0, x1, x2, some (.int i)], .int i :: st, a, h) := Rn_go c237_1340 rfl
theorem c237_1341 : mcode 237 1341 = some (.iconst 1, 1, 0, 0, 0) := rfl
theorem r237_1341 : Rn 237 (1341, [x0, x1, x2, x3], st, a, h) = Rn 237 (1342, [x0, x1, x2, x3], .int (1 : Int32) :: st, a, h) := Rn_go c237_1341 rfl
theorem c237_1342 : mcode 237 1342 = some (.iadd, 1, 0, 0, 0) := rfl
theorem r237_1342 : Rn 237 (1342, [x0, x1, x2, x3], .int j :: .int i :: st, a, h) = Rn 237 (1343, [x0, x1, x2, x3], .int (i + j) :: st, a, h) := Rn_go c237_1342 rfl
theorem c237_1343 : mcode 237 1343 = some (.iaload, 1, 0, 0, 0) := rfl
theorem r237_1343 : Rn 237 (1343, [x0, x1, x2, x3], .int i :: .ref q :: st, a, h) = Ki 237 1344 [x0, x1, x2, x3] st a h (mld h q i false) := Rn_iald c237_1343 rfl
theorem c237_1344 : mcode 237 1344 = some (.aload_n 0, 1, 0, 0, 0) := rfl
theorem r237_1344 : Rn 237 (1344, [some (.ref q), x1, x2, x3], st, a, h) = Rn 237 (1345, [some (.ref q), x1, x2, x3], .ref q :: st, a, h) := Rn_go c237_1344 rfl
theorem c237_1345 : mcode 237 1345 = some (.iload_n 3, 1, 0, 0, 0) := rfl
theorem r237_1345 : Rn 237 (1345, [x0, x1, x2, some (.int i)], st, a, h) = Rn 237 (1346, [x0, x1, x2, some (.int i)], .int i :: st, a, h) := Rn_go c237_1345 rfl
theorem c237_1346 : mcode 237 1346 = some (.iconst 2, 1, 0, 0, 0) := rfl
theorem r237_1346 : Rn 237 (1346, [x0, x1, x2, x3], st, a, h) = Rn 237 (1347, [x0, x1, x2, x3], .int (2 : Int32) :: st, a, h) := Rn_go c237_1346 rfl
theorem c237_1347 : mcode 237 1347 = some (.iadd, 1, 0, 0, 0) := rfl
theorem r237_1347 : Rn 237 (1347, [x0, x1, x2, x3], .int j :: .int i :: st, a, h) = Rn 237 (1348, [x0, x1, x2, x3], .int (i + j) :: st, a, h) := Rn_go c237_1347 rfl
theorem c237_1348 : mcode 237 1348 = some (.iaload, 1, 0, 0, 0) := rfl
theorem r237_1348 : Rn 237 (1348, [x0, x1, x2, x3], .int i :: .ref q :: st, a, h) = Ki 237 1349 [x0, x1, x2, x3] st a h (mld h q i false) := Rn_iald c237_1348 rfl
theorem c237_1349 : mcode 237 1349 = some (.aload_n 0, 1, 0, 0, 0) := rfl
theorem r237_1349 : Rn 237 (1349, [some (.ref q), x1, x2, x3], st, a, h) = Rn 237 (1350, [some (.ref q), x1, x2, x3], .ref q :: st, a, h) := Rn_go c237_1349 rfl
theorem c237_1350 : mcode 237 1350 = some (.iload_n 3, 1, 0, 0, 0) := rfl
theorem r237_1350 : Rn 237 (1350, [x0, x1, x2, some (.int i)], st, a, h) = Rn 237 (1351, [x0, x1, x2, some (.int i)], .int i :: st, a, h) := Rn_go c237_1350 rfl
theorem c237_1351 : mcode 237 1351 = some (.iconst 3, 1, 0, 0, 0) := rfl
theorem r237_1351 : Rn 237 (1351, [x0, x1, x2, x3], st, a, h) = Rn 237 (1352, [x0, x1, x2, x3], .int (3 : Int32) :: st, a, h) := Rn_go c237_1351 rfl
theorem c237_1352 : mcode 237 1352 = some (.iadd, 1, 0, 0, 0) := rfl
theorem r237_1352 : Rn 237 (1352, [x0, x1, x2, x3], .int j :: .int i :: st, a, h) = Rn 237 (1353, [x0, x1, x2, x3], .int (i + j) :: st, a, h) := Rn_go c237_1352 rfl
theorem c237_1353 : mcode 237 1353 = some (.iaload, 1, 0, 0, 0) := rfl
theorem r237_1353 : Rn 237 (1353, [x0, x1, x2, x3], .int i :: .ref q :: st, a, h) = Ki 237 1354 [x0, x1, x2, x3] st a h (mld h q i false) := Rn_iald c237_1353 rfl
theorem c237_1354 : mcode 237 1354 = some (.aload_n 0, 1, 0, 0, 0) := rfl
theorem r237_1354 : Rn 237 (1354, [some (.ref q), x1, x2, x3], st, a, h) = Rn 237 (1355, [some (.ref q), x1, x2, x3], .ref q :: st, a, h) := Rn_go c237_1354 rfl
theorem c237_1355 : mcode 237 1355 = some (.iload_n 3, 1, 0, 0, 0) := rfl
theorem r237_1355 : Rn 237 (1355, [x0, x1, x2, some (.int i)], st, a, h) = Rn 237 (1356, [x0, x1, x2, some (.int i)], .int i :: st, a, h) := Rn_go c237_1355 rfl
theorem c237_1356 : mcode 237 1356 = some (.iconst 4, 1, 0, 0, 0) := rfl
theorem r237_1356 : Rn 237 (1356, [x0, x1, x2, x3], st, a, h) = Rn 237 (1357, [x0, x1, x2, x3], .int (4 : Int32) :: st, a, h) := Rn_go c237_1356 rfl
theorem c237_1357 : mcode 237 1357 = some (.iadd, 1, 0, 0, 0) := rfl
theorem r237_1357 : Rn 237 (1357, [x0, x1, x2, x3], .int j :: .int i :: st, a, h) = Rn 237 (1358, [x0, x1, x2, x3], .int (i + j) :: st, a, h) := Rn_go c237_1357 rfl
theorem c237_1358 : mcode 237 1358 = some (.iaload, 1, 0, 0, 0) := rfl
theorem r237_1358 : Rn 237 (1358, [x0, x1, x2, x3], .int i :: .ref q :: st, a, h) = Ki 237 1359 [x0, x1, x2, x3] st a h (mld h q i false) := Rn_iald c237_1358 rfl
theorem c237_1359 : mcode 237 1359 = some (.aload_n 0, 1, 0, 0, 0) := rfl
theorem r237_1359 : Rn 237 (1359, [some (.ref q), x1, x2, x3], st, a, h) = Rn 237 (1360, [some (.ref q), x1, x2, x3], .ref q :: st, a, h) := Rn_go c237_1359 rfl
theorem c237_1360 : mcode 237 1360 = some (.iload_n 3, 1, 0, 0, 0) := rfl
theorem r237_1360 : Rn 237 (1360, [x0, x1, x2, some (.int i)], st, a, h) = Rn 237 (1361, [x0, x1, x2, some (.int i)], .int i :: st, a, h) := Rn_go c237_1360 rfl
theorem c237_1361 : mcode 237 1361 = some (.iconst 5, 1, 0, 0, 0) := rfl
theorem r237_1361 : Rn 237 (1361, [x0, x1, x2, x3], st, a, h) = Rn 237 (1362, [x0, x1, x2, x3], .int (5 : Int32) :: st, a, h) := Rn_go c237_1361 rfl
theorem c237_1362 : mcode 237 1362 = some (.iadd, 1, 0, 0, 0) := rfl
theorem r237_1362 : Rn 237 (1362, [x0, x1, x2, x3], .int j :: .int i :: st, a, h) = Rn 237 (1363, [x0, x1, x2, x3], .int (i + j) :: st, a, h) := Rn_go c237_1362 rfl
theorem c237_1363 : mcode 237 1363 = some (.iaload, 1, 0, 0, 0) := rfl
theorem r237_1363 : Rn 237 (1363, [x0, x1, x2, x3], .int i :: .ref q :: st, a, h) = Ki 237 1364 [x0, x1, x2, x3] st a h (mld h q i false) := Rn_iald c237_1363 rfl
theorem c237_1364 : mcode 237 1364 = some (.invokevirtual 158, 3, 218, 5, 6) := rfl
theorem r237_1364 : Rn 237 (1364, [x0, x1, x2, x3], [v4, v3, v2, v1, v0, .ref q, .int i0], a, h) = if mis h q 6 = true then Bk 237 1367 [x0, x1, x2, x3] [.int i0] (Ec 218 [.ref q, v0, v1, v2, v3, v4] a h) else none := Rn_call1 c237_1364 rfl (Nat.le_of_ble_eq_true rfl) rfl rfl (Nat.le_of_ble_eq_true rfl)
theorem c237_1367 : mcode 237 1367 = some (.if_icmp .eq 136, 3, 0, 0, 0) := rfl
theorem r237_1367 : Rn 237 (1367, [x0, x1, x2, x3], .int j :: .int i :: st, a, h) = if i = j then Rn 237 (1503, [x0, x1, x2, x3], st, a, h) else Rn 237 (1370, [x0, x1, x2, x3], st, a, h) := Rn_icmp c237_1367 mc_eq rfl rfl
theorem c237_1370 : mcode 237 1370 = some (.iconst 0, 1, 0, 0, 0) := rfl
theorem r237_1370 : Rn 237 (1370, [x0, x1, x2, x3], st, a, h) = Rn 237 (1371, [x0, x1, x2, x3], .int (0 : Int32) :: st, a, h) := Rn_go c237_1370 rfl
theorem c237_1371 : mcode 237 1371 = some (.ireturn, 1, 1, 0, 0) := rfl
theorem r237_1371 : Rn 237 (1371, [x0, x1, x2, x3], [.int i], a, h) = if mrt 1 i = true then some (some (.int i), a, h) else none := Rn_iretz c237_1371
theorem c237_1372 : mcode 237 1372 = some (.aload_n 1, 1, 0, 0, 0) := rfl
theorem r237_1372 : Rn 237 (1372, [x0, some (.ref q), x2, x3], st, a, h) = Rn 237 (1373, [x0, some (.ref q), x2, x3], .ref q :: st, a, h) := Rn_go c237_1372 rfl
theorem c237_1373 : mcode 237 1373 = some (.aload_n 0, 1, 0, 0, 0) := rfl
theorem r237_1373 : Rn 237 (1373, [some (.ref q), x1, x2, x3], st, a, h) = Rn 237 (1374, [some (.ref q), x1, x2, x3], .ref q :: st, a, h) := Rn_go c237_1373 rfl
theorem c237_1374 : mcode 237 1374 = some (.iload_n 3, 1, 0, 0, 0) := rfl
theorem r237_1374 : Rn 237 (1374, [x0, x1, x2, some (.int i)], st, a, h) = Rn 237 (1375, [x0, x1, x2, some (.int i)], .int i :: st, a, h) := Rn_go c237_1374 rfl
theorem c237_1375 : mcode 237 1375 = some (.iconst 1, 1, 0, 0, 0) := rfl
theorem r237_1375 : Rn 237 (1375, [x0, x1, x2, x3], st, a, h) = Rn 237 (1376, [x0, x1, x2, x3], .int (1 : Int32) :: st, a, h) := Rn_go c237_1375 rfl
theorem c237_1376 : mcode 237 1376 = some (.iadd, 1, 0, 0, 0) := rfl
theorem r237_1376 : Rn 237 (1376, [x0, x1, x2, x3], .int j :: .int i :: st, a, h) = Rn 237 (1377, [x0, x1, x2, x3], .int (i + j) :: st, a, h) := Rn_go c237_1376 rfl
theorem c237_1377 : mcode 237 1377 = some (.iaload, 1, 0, 0, 0) := rfl
theorem r237_1377 : Rn 237 (1377, [x0, x1, x2, x3], .int i :: .ref q :: st, a, h) = Ki 237 1378 [x0, x1, x2, x3] st a h (mld h q i false) := Rn_iald c237_1377 rfl
theorem c237_1378 : mcode 237 1378 = some (.invokevirtual 159, 3, 98, 1, 5) := rfl
theorem r237_1378 : Rn 237 (1378, [x0, x1, x2, x3], [v0, .ref q], a, h) = if mis h q 5 = true then Bk 237 1381 [x0, x1, x2, x3] [] (Ec 98 [.ref q, v0] a h) else none := Rn_call1 c237_1378 rfl (Nat.le_of_ble_eq_true rfl) rfl rfl (Nat.le_of_ble_eq_true rfl)
theorem c237_1381 : mcode 237 1381 = some (.aload_n 2, 1, 0, 0, 0) := rfl
theorem r237_1381 : Rn 237 (1381, [x0, x1, some (.ref q), x3], st, a, h) = Rn 237 (1382, [x0, x1, some (.ref q), x3], .ref q :: st, a, h) := Rn_go c237_1381 rfl
theorem c237_1382 : mcode 237 1382 = some (.aload_n 0, 1, 0, 0, 0) := rfl
theorem r237_1382 : Rn 237 (1382, [some (.ref q), x1, x2, x3], st, a, h) = Rn 237 (1383, [some (.ref q), x1, x2, x3], .ref q :: st, a, h) := Rn_go c237_1382 rfl
theorem c237_1383 : mcode 237 1383 = some (.iload_n 3, 1, 0, 0, 0) := rfl
theorem r237_1383 : Rn 237 (1383, [x0, x1, x2, some (.int i)], st, a, h) = Rn 237 (1384, [x0, x1, x2, some (.int i)], .int i :: st, a, h) := Rn_go c237_1383 rfl
theorem c237_1384 : mcode 237 1384 = some (.iconst 1, 1, 0, 0, 0) := rfl
theorem r237_1384 : Rn 237 (1384, [x0, x1, x2, x3], st, a, h) = Rn 237 (1385, [x0, x1, x2, x3], .int (1 : Int32) :: st, a, h) := Rn_go c237_1384 rfl
theorem c237_1385 : mcode 237 1385 = some (.iadd, 1, 0, 0, 0) := rfl
theorem r237_1385 : Rn 237 (1385, [x0, x1, x2, x3], .int j :: .int i :: st, a, h) = Rn 237 (1386, [x0, x1, x2, x3], .int (i + j) :: st, a, h) := Rn_go c237_1385 rfl
theorem c237_1386 : mcode 237 1386 = some (.iaload, 1, 0, 0, 0) := rfl
theorem r237_1386 : Rn 237 (1386, [x0, x1, x2, x3], .int i :: .ref q :: st, a, h) = Ki 237 1387 [x0, x1, x2, x3] st a h (mld h q i false) := Rn_iald c237_1386 rfl
theorem c237_1387 : mcode 237 1387 = some (.invokevirtual 162, 3, 220, 1, 6) := rfl
theorem r237_1387 : Rn 237 (1387, [x0, x1, x2, x3], [v0, .ref q, .int i0], a, h) = if mis h q 6 = true then Bk 237 1390 [x0, x1, x2, x3] [.int i0] (Ec 220 [.ref q, v0] a h) else none := Rn_call1 c237_1387 rfl (Nat.le_of_ble_eq_true rfl) rfl rfl (Nat.le_of_ble_eq_true rfl)
theorem c237_1390 : mcode 237 1390 = some (.if_icmp .eq 113, 3, 0, 0, 0) := rfl
theorem r237_1390 : Rn 237 (1390, [x0, x1, x2, x3], .int j :: .int i :: st, a, h) = if i = j then Rn 237 (1503, [x0, x1, x2, x3], st, a, h) else Rn 237 (1393, [x0, x1, x2, x3], st, a, h) := Rn_icmp c237_1390 mc_eq rfl rfl
theorem c237_1393 : mcode 237 1393 = some (.iconst 0, 1, 0, 0, 0) := rfl
theorem r237_1393 : Rn 237 (1393, [x0, x1, x2, x3], st, a, h) = Rn 237 (1394, [x0, x1, x2, x3], .int (0 : Int32) :: st, a, h) := Rn_go c237_1393 rfl
theorem c237_1394 : mcode 237 1394 = some (.ireturn, 1, 1, 0, 0) := rfl
theorem r237_1394 : Rn 237 (1394, [x0, x1, x2, x3], [.int i], a, h) = if mrt 1 i = true then some (some (.int i), a, h) else none := Rn_iretz c237_1394
theorem c237_1395 : mcode 237 1395 = some (.aload_n 1, 1, 0, 0, 0) := rfl
theorem r237_1395 : Rn 237 (1395, [x0, some (.ref q), x2, x3], st, a, h) = Rn 237 (1396, [x0, some (.ref q), x2, x3], .ref q :: st, a, h) := Rn_go c237_1395 rfl
theorem c237_1396 : mcode 237 1396 = some (.aload_n 0, 1, 0, 0, 0) := rfl
theorem r237_1396 : Rn 237 (1396, [some (.ref q), x1, x2, x3], st, a, h) = Rn 237 (1397, [some (.ref q), x1, x2, x3], .ref q :: st, a, h) := Rn_go c237_1396 rfl
theorem c237_1397 : mcode 237 1397 = some (.iload_n 3, 1, 0, 0, 0) := rfl
theorem r237_1397 : Rn 237 (1397, [x0, x1, x2, some (.int i)], st, a, h) = Rn 237 (1398, [x0, x1, x2, some (.int i)], .int i :: st, a, h) := Rn_go c237_1397 rfl
theorem c237_1398 : mcode 237 1398 = some (.iconst 1, 1, 0, 0, 0) := rfl
theorem r237_1398 : Rn 237 (1398, [x0, x1, x2, x3], st, a, h) = Rn 237 (1399, [x0, x1, x2, x3], .int (1 : Int32) :: st, a, h) := Rn_go c237_1398 rfl
theorem c237_1399 : mcode 237 1399 = some (.iadd, 1, 0, 0, 0) := rfl
theorem r237_1399 : Rn 237 (1399, [x0, x1, x2, x3], .int j :: .int i :: st, a, h) = Rn 237 (1400, [x0, x1, x2, x3], .int (i + j) :: st, a, h) := Rn_go c237_1399 rfl
theorem c237_1400 : mcode 237 1400 = some (.iaload, 1, 0, 0, 0) := rfl
theorem r237_1400 : Rn 237 (1400, [x0, x1, x2, x3], .int i :: .ref q :: st, a, h) = Ki 237 1401 [x0, x1, x2, x3] st a h (mld h q i false) := Rn_iald c237_1400 rfl
theorem c237_1401 : mcode 237 1401 = some (.invokevirtual 163, 3, 99, 1, 5) := rfl
theorem r237_1401 : Rn 237 (1401, [x0, x1, x2, x3], [v0, .ref q], a, h) = if mis h q 5 = true then Bk 237 1404 [x0, x1, x2, x3] [] (Ec 99 [.ref q, v0] a h) else none := Rn_call1 c237_1401 rfl (Nat.le_of_ble_eq_true rfl) rfl rfl (Nat.le_of_ble_eq_true rfl)
theorem c237_1404 : mcode 237 1404 = some (.aload_n 2, 1, 0, 0, 0) := rfl
theorem r237_1404 : Rn 237 (1404, [x0, x1, some (.ref q), x3], st, a, h) = Rn 237 (1405, [x0, x1, some (.ref q), x3], .ref q :: st, a, h) := Rn_go c237_1404 rfl
theorem c237_1405 : mcode 237 1405 = some (.aload_n 0, 1, 0, 0, 0) := rfl
theorem r237_1405 : Rn 237 (1405, [some (.ref q), x1, x2, x3], st, a, h) = Rn 237 (1406, [some (.ref q), x1, x2, x3], .ref q :: st, a, h) := Rn_go c237_1405 rfl
theorem c237_1406 : mcode 237 1406 = some (.iload_n 3, 1, 0, 0, 0) := rfl
theorem r237_1406 : Rn 237 (1406, [x0, x1, x2, some (.int i)], st, a, h) = Rn 237 (1407, [x0, x1, x2, some (.int i)], .int i :: st, a, h) := Rn_go c237_1406 rfl
theorem c237_1407 : mcode 237 1407 = some (.iconst 1, 1, 0, 0, 0) := rfl
theorem r237_1407 : Rn 237 (1407, [x0, x1, x2, x3], st, a, h) = Rn 237 (1408, [x0, x1, x2, x3], .int (1 : Int32) :: st, a, h) := Rn_go c237_1407 rfl
theorem c237_1408 : mcode 237 1408 = some (.iadd, 1, 0, 0, 0) := rfl
theorem r237_1408 : Rn 237 (1408, [x0, x1, x2, x3], .int j :: .int i :: st, a, h) = Rn 237 (1409, [x0, x1, x2, x3], .int (i + j) :: st, a, h) := Rn_go c237_1408 rfl
theorem c237_1409 : mcode 237 1409 = some (.iaload, 1, 0, 0, 0) := rfl
theorem r237_1409 : Rn 237 (1409, [x0, x1, x2, x3], .int i :: .ref q :: st, a, h) = Ki 237 1410 [x0, x1, x2, x3] st a h (mld h q i false) := Rn_iald c237_1409 rfl
theorem c237_1410 : mcode 237 1410 = some (.invokevirtual 166, 3, 221, 1, 6) := rfl
theorem r237_1410 : Rn 237 (1410, [x0, x1, x2, x3], [v0, .ref q, .int i0], a, h) = if mis h q 6 = true then Bk 237 1413 [x0, x1, x2, x3] [.int i0] (Ec 221 [.ref q, v0] a h) else none := Rn_call1 c237_1410 rfl (Nat.le_of_ble_eq_true rfl) rfl rfl (Nat.le_of_ble_eq_true rfl)
theorem c237_1413 : mcode 237 1413 = some (.if_icmp .eq 90, 3, 0, 0, 0) := rfl
theorem r237_1413 : Rn 237 (1413, [x0, x1, x2, x3], .int j :: .int i :: st, a, h) = if i = j then Rn 237 (1503, [x0, x1, x2, x3], st, a, h) else Rn 237 (1416, [x0, x1, x2, x3], st, a, h) := Rn_icmp c237_1413 mc_eq rfl rfl
theorem c237_1416 : mcode 237 1416 = some (.iconst 0, 1, 0, 0, 0) := rfl
theorem r237_1416 : Rn 237 (1416, [x0, x1, x2, x3], st, a, h) = Rn 237 (1417, [x0, x1, x2, x3], .int (0 : Int32) :: st, a, h) := Rn_go c237_1416 rfl
theorem c237_1417 : mcode 237 1417 = some (.ireturn, 1, 1, 0, 0) := rfl
theorem r237_1417 : Rn 237 (1417, [x0, x1, x2, x3], [.int i], a, h) = if mrt 1 i = true then some (some (.int i), a, h) else none := Rn_iretz c237_1417
theorem c237_1418 : mcode 237 1418 = some (.aload_n 1, 1, 0, 0, 0) := rfl
theorem r237_1418 : Rn 237 (1418, [x0, some (.ref q), x2, x3], st, a, h) = Rn 237 (1419, [x0, some (.ref q), x2, x3], .ref q :: st, a, h) := Rn_go c237_1418 rfl
theorem c237_1419 : mcode 237 1419 = some (.invokevirtual 167, 3, 100, 0, 5) := rfl
theorem r237_1419 : Rn 237 (1419, [x0, x1, x2, x3], [.ref q], a, h) = if mis h q 5 = true then Bk 237 1422 [x0, x1, x2, x3] [] (Ec 100 [.ref q] a h) else none := Rn_call1 c237_1419 rfl (Nat.le_of_ble_eq_true rfl) rfl rfl (Nat.le_of_ble_eq_true rfl)
theorem c237_1422 : mcode 237 1422 = some (.aload_n 2, 1, 0, 0, 0) := rfl
theorem r237_1422 : Rn 237 (1422, [x0, x1, some (.ref q), x3], st, a, h) = Rn 237 (1423, [x0, x1, some (.ref q), x3], .ref q :: st, a, h) := Rn_go c237_1422 rfl
theorem c237_1423 : mcode 237 1423 = some (.invokevirtual 170, 3, 222, 0, 6) := rfl
theorem r237_1423 : Rn 237 (1423, [x0, x1, x2, x3], [.ref q, .int i0], a, h) = if mis h q 6 = true then Bk 237 1426 [x0, x1, x2, x3] [.int i0] (Ec 222 [.ref q] a h) else none := Rn_call1 c237_1423 rfl (Nat.le_of_ble_eq_true rfl) rfl rfl (Nat.le_of_ble_eq_true rfl)
theorem c237_1426 : mcode 237 1426 = some (.if_icmp .eq 77, 3, 0, 0, 0) := rfl
theorem r237_1426 : Rn 237 (1426, [x0, x1, x2, x3], .int j :: .int i :: st, a, h) = if i = j then Rn 237 (1503, [x0, x1, x2, x3], st, a, h) else Rn 237 (1429, [x0, x1, x2, x3], st, a, h) := Rn_icmp c237_1426 mc_eq rfl rfl
theorem c237_1429 : mcode 237 1429 = some (.iconst 0, 1, 0, 0, 0) := rfl
theorem r237_1429 : Rn 237 (1429, [x0, x1, x2, x3], st, a, h) = Rn 237 (1430, [x0, x1, x2, x3], .int (0 : Int32) :: st, a, h) := Rn_go c237_1429 rfl
theorem c237_1430 : mcode 237 1430 = some (.ireturn, 1, 1, 0, 0) := rfl
theorem r237_1430 : Rn 237 (1430, [x0, x1, x2, x3], [.int i], a, h) = if mrt 1 i = true then some (some (.int i), a, h) else none := Rn_iretz c237_1430
theorem c237_1431 : mcode 237 1431 = some (.aload_n 1, 1, 0, 0, 0) := rfl
theorem r237_1431 : Rn 237 (1431, [x0, some (.ref q), x2, x3], st, a, h) = Rn 237 (1432, [x0, some (.ref q), x2, x3], .ref q :: st, a, h) := Rn_go c237_1431 rfl
theorem c237_1432 : mcode 237 1432 = some (.invokevirtual 171, 3, 101, 0, 5) := rfl
theorem r237_1432 : Rn 237 (1432, [x0, x1, x2, x3], [.ref q], a, h) = if mis h q 5 = true then Bk 237 1435 [x0, x1, x2, x3] [] (Ec 101 [.ref q] a h) else none := Rn_call1 c237_1432 rfl (Nat.le_of_ble_eq_true rfl) rfl rfl (Nat.le_of_ble_eq_true rfl)
theorem c237_1435 : mcode 237 1435 = some (.aload_n 2, 1, 0, 0, 0) := rfl
theorem r237_1435 : Rn 237 (1435, [x0, x1, some (.ref q), x3], st, a, h) = Rn 237 (1436, [x0, x1, some (.ref q), x3], .ref q :: st, a, h) := Rn_go c237_1435 rfl
theorem c237_1436 : mcode 237 1436 = some (.invokevirtual 174, 3, 223, 0, 6) := rfl
theorem r237_1436 : Rn 237 (1436, [x0, x1, x2, x3], [.ref q, .int i0], a, h) = if mis h q 6 = true then Bk 237 1439 [x0, x1, x2, x3] [.int i0] (Ec 223 [.ref q] a h) else none := Rn_call1 c237_1436 rfl (Nat.le_of_ble_eq_true rfl) rfl rfl (Nat.le_of_ble_eq_true rfl)
theorem c237_1439 : mcode 237 1439 = some (.if_icmp .eq 64, 3, 0, 0, 0) := rfl
theorem r237_1439 : Rn 237 (1439, [x0, x1, x2, x3], .int j :: .int i :: st, a, h) = if i = j then Rn 237 (1503, [x0, x1, x2, x3], st, a, h) else Rn 237 (1442, [x0, x1, x2, x3], st, a, h) := Rn_icmp c237_1439 mc_eq rfl rfl
theorem c237_1442 : mcode 237 1442 = some (.iconst 0, 1, 0, 0, 0) := rfl
theorem r237_1442 : Rn 237 (1442, [x0, x1, x2, x3], st, a, h) = Rn 237 (1443, [x0, x1, x2, x3], .int (0 : Int32) :: st, a, h) := Rn_go c237_1442 rfl
theorem c237_1443 : mcode 237 1443 = some (.ireturn, 1, 1, 0, 0) := rfl
theorem r237_1443 : Rn 237 (1443, [x0, x1, x2, x3], [.int i], a, h) = if mrt 1 i = true then some (some (.int i), a, h) else none := Rn_iretz c237_1443
theorem c237_1444 : mcode 237 1444 = some (.aload_n 1, 1, 0, 0, 0) := rfl
theorem r237_1444 : Rn 237 (1444, [x0, some (.ref q), x2, x3], st, a, h) = Rn 237 (1445, [x0, some (.ref q), x2, x3], .ref q :: st, a, h) := Rn_go c237_1444 rfl
theorem c237_1445 : mcode 237 1445 = some (.invokevirtual 175, 3, 102, 0, 5) := rfl
theorem r237_1445 : Rn 237 (1445, [x0, x1, x2, x3], [.ref q], a, h) = if mis h q 5 = true then Bk 237 1448 [x0, x1, x2, x3] [] (Ec 102 [.ref q] a h) else none := Rn_call1 c237_1445 rfl (Nat.le_of_ble_eq_true rfl) rfl rfl (Nat.le_of_ble_eq_true rfl)
theorem c237_1448 : mcode 237 1448 = some (.aload_n 2, 1, 0, 0, 0) := rfl
theorem r237_1448 : Rn 237 (1448, [x0, x1, some (.ref q), x3], st, a, h) = Rn 237 (1449, [x0, x1, some (.ref q), x3], .ref q :: st, a, h) := Rn_go c237_1448 rfl
theorem c237_1449 : mcode 237 1449 = some (.invokevirtual 178, 3, 224, 0, 6) := rfl
theorem r237_1449 : Rn 237 (1449, [x0, x1, x2, x3], [.ref q, .int i0], a, h) = if mis h q 6 = true then Bk 237 1452 [x0, x1, x2, x3] [.int i0] (Ec 224 [.ref q] a h) else none := Rn_call1 c237_1449 rfl (Nat.le_of_ble_eq_true rfl) rfl rfl (Nat.le_of_ble_eq_true rfl)
theorem c237_1452 : mcode 237 1452 = some (.if_icmp .eq 51, 3, 0, 0, 0) := rfl
theorem r237_1452 : Rn 237 (1452, [x0, x1, x2, x3], .int j :: .int i :: st, a, h) = if i = j then Rn 237 (1503, [x0, x1, x2, x3], st, a, h) else Rn 237 (1455, [x0, x1, x2, x3], st, a, h) := Rn_icmp c237_1452 mc_eq rfl rfl
theorem c237_1455 : mcode 237 1455 = some (.iconst 0, 1, 0, 0, 0) := rfl
theorem r237_1455 : Rn 237 (1455, [x0, x1, x2, x3], st, a, h) = Rn 237 (1456, [x0, x1, x2, x3], .int (0 : Int32) :: st, a, h) := Rn_go c237_1455 rfl
theorem c237_1456 : mcode 237 1456 = some (.ireturn, 1, 1, 0, 0) := rfl
theorem r237_1456 : Rn 237 (1456, [x0, x1, x2, x3], [.int i], a, h) = if mrt 1 i = true then some (some (.int i), a, h) else none := Rn_iretz c237_1456
theorem c237_1457 : mcode 237 1457 = some (.aload_n 1, 1, 0, 0, 0) := rfl
theorem r237_1457 : Rn 237 (1457, [x0, some (.ref q), x2, x3], st, a, h) = Rn 237 (1458, [x0, some (.ref q), x2, x3], .ref q :: st, a, h) := Rn_go c237_1457 rfl
theorem c237_1458 : mcode 237 1458 = some (.aload_n 0, 1, 0, 0, 0) := rfl
theorem r237_1458 : Rn 237 (1458, [some (.ref q), x1, x2, x3], st, a, h) = Rn 237 (1459, [some (.ref q), x1, x2, x3], .ref q :: st, a, h) := Rn_go c237_1458 rfl
theorem c237_1459 : mcode 237 1459 = some (.iload_n 3, 1, 0, 0, 0) := rfl
theorem r237_1459 : Rn 237 (1459, [x0, x1, x2, some (.int i)], st, a, h) = Rn 237 (1460, [x0, x1, x2, some (.int i)], .int i :: st, a, h) := Rn_go c237_1459 rfl
theorem c237_1460 : mcode 237 1460 = some (.iconst 1, 1, 0, 0, 0) := rfl
theorem r237_1460 : Rn 237 (1460, [x0, x1, x2, x3], st, a, h) = Rn 237 (1461, [x0, x1, x2, x3], .int (1 : Int32) :: st, a, h) := Rn_go c237_1460 rfl
theorem c237_1461 : mcode 237 1461 = some (.iadd, 1, 0, 0, 0) := rfl
theorem r237_1461 : Rn 237 (1461, [x0, x1, x2, x3], .int j :: .int i :: st, a, h) = Rn 237 (1462, [x0, x1, x2, x3], .int (i + j) :: st, a, h) := Rn_go c237_1461 rfl
theorem c237_1462 : mcode 237 1462 = some (.iaload, 1, 0, 0, 0) := rfl
theorem r237_1462 : Rn 237 (1462, [x0, x1, x2, x3], .int i :: .ref q :: st, a, h) = Ki 237 1463 [x0, x1, x2, x3] st a h (mld h q i false) := Rn_iald c237_1462 rfl
theorem c237_1463 : mcode 237 1463 = some (.invokevirtual 179, 3, 103, 1, 5) := rfl
theorem r237_1463 : Rn 237 (1463, [x0, x1, x2, x3], [v0, .ref q], a, h) = if mis h q 5 = true then Bk 237 1466 [x0, x1, x2, x3] [] (Ec 103 [.ref q, v0] a h) else none := Rn_call1 c237_1463 rfl (Nat.le_of_ble_eq_true rfl) rfl rfl (Nat.le_of_ble_eq_true rfl)
theorem c237_1466 : mcode 237 1466 = some (.aload_n 2, 1, 0, 0, 0) := rfl
theorem r237_1466 : Rn 237 (1466, [x0, x1, some (.ref q), x3], st, a, h) = Rn 237 (1467, [x0, x1, some (.ref q), x3], .ref q :: st, a, h) := Rn_go c237_1466 rfl
theorem c237_1467 : mcode 237 1467 = some (.aload_n 0, 1, 0, 0, 0) := rfl
theorem r237_1467 : Rn 237 (1467, [some (.ref q), x1, x2, x3], st, a, h) = Rn 237 (1468, [some (.ref q), x1, x2, x3], .ref q :: st, a, h) := Rn_go c237_1467 rfl
theorem c237_1468 : mcode 237 1468 = some (.iload_n 3, 1, 0, 0, 0) := rfl
theorem r237_1468 : Rn 237 (1468, [x0, x1, x2, some (.int i)], st, a, h) = Rn 237 (1469, [x0, x1, x2, some (.int i)], .int i :: st, a, h) := Rn_go c237_1468 rfl
theorem c237_1469 : mcode 237 1469 = some (.iconst 1, 1, 0, 0, 0) := rfl
theorem r237_1469 : Rn 237 (1469, [x0, x1, x2, x3], st, a, h) = Rn 237 (1470, [x0, x1, x2, x3], .int (1 : Int32) :: st, a, h) := Rn_go c237_1469 rfl
theorem c237_1470 : mcode 237 1470 = some (.iadd, 1, 0, 0, 0) := rfl
theorem r237_1470 : Rn 237 (1470, [x0, x1, x2, x3], .int j :: .int i :: st, a, h) = Rn 237 (1471, [x0, x1, x2, x3], .int (i + j) :: st, a, h) := Rn_go c237_1470 rfl
theorem c237_1471 : mcode 237 1471 = some (.iaload, 1, 0, 0, 0) := rfl
theorem r237_1471 : Rn 237 (1471, [x0, x1, x2, x3], .int i :: .ref q :: st, a, h) = Ki 237 1472 [x0, x1, x2, x3] st a h (mld h q i false) := Rn_iald c237_1471 rfl
theorem c237_1472 : mcode 237 1472 = some (.invokevirtual 182, 3, 225, 1, 6) := rfl
theorem r237_1472 : Rn 237 (1472, [x0, x1, x2, x3], [v0, .ref q, .int i0], a, h) = if mis h q 6 = true then Bk 237 1475 [x0, x1, x2, x3] [.int i0] (Ec 225 [.ref q, v0] a h) else none := Rn_call1 c237_1472 rfl (Nat.le_of_ble_eq_true rfl) rfl rfl (Nat.le_of_ble_eq_true rfl)
theorem c237_1475 : mcode 237 1475 = some (.if_icmp .eq 28, 3, 0, 0, 0) := rfl
theorem r237_1475 : Rn 237 (1475, [x0, x1, x2, x3], .int j :: .int i :: st, a, h) = if i = j then Rn 237 (1503, [x0, x1, x2, x3], st, a, h) else Rn 237 (1478, [x0, x1, x2, x3], st, a, h) := Rn_icmp c237_1475 mc_eq rfl rfl
theorem c237_1478 : mcode 237 1478 = some (.iconst 0, 1, 0, 0, 0) := rfl
theorem r237_1478 : Rn 237 (1478, [x0, x1, x2, x3], st, a, h) = Rn 237 (1479, [x0, x1, x2, x3], .int (0 : Int32) :: st, a, h) := Rn_go c237_1478 rfl
theorem c237_1479 : mcode 237 1479 = some (.ireturn, 1, 1, 0, 0) := rfl
theorem r237_1479 : Rn 237 (1479, [x0, x1, x2, x3], [.int i], a, h) = if mrt 1 i = true then some (some (.int i), a, h) else none := Rn_iretz c237_1479
theorem c237_1480 : mcode 237 1480 = some (.aload_n 1, 1, 0, 0, 0) := rfl
theorem r237_1480 : Rn 237 (1480, [x0, some (.ref q), x2, x3], st, a, h) = Rn 237 (1481, [x0, some (.ref q), x2, x3], .ref q :: st, a, h) := Rn_go c237_1480 rfl
theorem c237_1481 : mcode 237 1481 = some (.aload_n 0, 1, 0, 0, 0) := rfl
theorem r237_1481 : Rn 237 (1481, [some (.ref q), x1, x2, x3], st, a, h) = Rn 237 (1482, [some (.ref q), x1, x2, x3], .ref q :: st, a, h) := Rn_go c237_1481 rfl
theorem c237_1482 : mcode 237 1482 = some (.iload_n 3, 1, 0, 0, 0) := rfl
theorem r237_1482 : Rn 237 (1482, [x0, x1, x2, some (.int i)], st, a, h) = Rn 237 (1483, [x0, x1, x2, some (.int i)], .int i :: st, a, h) := Rn_go c237_1482 rfl
theorem c237_1483 : mcode 237 1483 = some (.iconst 1, 1, 0, 0, 0) := rfl
theorem r237_1483 : Rn 237 (1483, [x0, x1, x2, x3], st, a, h) = Rn 237 (1484, [x0, x1, x2, x3], .int (1 : Int32) :: st, a, h) := Rn_go c237_1483 rfl
theorem c237_1484 : mcode 237 1484 = some (.iadd, 1, 0, 0, 0) := rfl
theorem r237_1484 : Rn 237 (1484, [x0, x1, x2, x3], .int j :: .int i :: st, a, h) = Rn 237 (1485, [x0, x1, x2, x3], .int (i + j) :: st, a, h) := Rn_go c237_1484 rfl
theorem c237_1485 : mcode 237 1485 = some (.iaload, 1, 0, 0, 0) := rfl
theorem r237_1485 : Rn 237 (1485, [x0, x1, x2, x3], .int i :: .ref q :: st, a, h) = Ki 237 1486 [x0, x1, x2, x3] st a h (mld h q i false) := Rn_iald c237_1485 rfl
theorem c237_1486 : mcode 237 1486 = some (.invokevirtual 183, 3, 104, 1, 5) := rfl
theorem r237_1486 : Rn 237 (1486, [x0, x1, x2, x3], [v0, .ref q], a, h) = if mis h q 5 = true then Bk 237 1489 [x0, x1, x2, x3] [] (Ec 104 [.ref q, v0] a h) else none := Rn_call1 c237_1486 rfl (Nat.le_of_ble_eq_true rfl) rfl rfl (Nat.le_of_ble_eq_true rfl)
theorem c237_1489 : mcode 237 1489 = some (.aload_n 2, 1, 0, 0, 0) := rfl
theorem r237_1489 : Rn 237 (1489, [x0, x1, some (.ref q), x3], st, a, h) = Rn 237 (1490, [x0, x1, some (.ref q), x3], .ref q :: st, a, h) := Rn_go c237_1489 rfl
theorem c237_1490 : mcode 237 1490 = some (.aload_n 0, 1, 0, 0, 0) := rfl
theorem r237_1490 : Rn 237 (1490, [some (.ref q), x1, x2, x3], st, a, h) = Rn 237 (1491, [some (.ref q), x1, x2, x3], .ref q :: st, a, h) := Rn_go c237_1490 rfl
theorem c237_1491 : mcode 237 1491 = some (.iload_n 3, 1, 0, 0, 0) := rfl
theorem r237_1491 : Rn 237 (1491, [x0, x1, x2, some (.int i)], st, a, h) = Rn 237 (1492, [x0, x1, x2, some (.int i)], .int i :: st, a, h) := Rn_go c237_1491 rfl
theorem c237_1492 : mcode 237 1492 = some (.iconst 1, 1, 0, 0, 0) := rfl
theorem r237_1492 : Rn 237 (1492, [x0, x1, x2, x3], st, a, h) = Rn 237 (1493, [x0, x1, x2, x3], .int (1 : Int32) :: st, a, h) := Rn_go c237_1492 rfl
theorem c237_1493 : mcode 237 1493 = some (.iadd, 1, 0, 0, 0) := rfl
theorem r237_1493 : Rn 237 (1493, [x0, x1, x2, x3], .int j :: .int i :: st, a, h) = Rn 237 (1494, [x0, x1, x2, x3], .int (i + j) :: st, a, h) := Rn_go c237_1493 rfl
theorem c237_1494 : mcode 237 1494 = some (.iaload, 1, 0, 0, 0) := rfl
theorem r237_1494 : Rn 237 (1494, [x0, x1, x2, x3], .int i :: .ref q :: st, a, h) = Ki 237 1495 [x0, x1, x2, x3] st a h (mld h q i false) := Rn_iald c237_1494 rfl
theorem c237_1495 : mcode 237 1495 = some (.invokevirtual 186, 3, 226, 1, 6) := rfl
theorem r237_1495 : Rn 237 (1495, [x0, x1, x2, x3], [v0, .ref q, .int i0], a, h) = if mis h q 6 = true then Bk 237 1498 [x0, x1, x2, x3] [.int i0] (Ec 226 [.ref q, v0] a h) else none := Rn_call1 c237_1495 rfl (Nat.le_of_ble_eq_true rfl) rfl rfl (Nat.le_of_ble_eq_true rfl)
theorem c237_1498 : mcode 237 1498 = some (.if_icmp .eq 5, 3, 0, 0, 0) := rfl
theorem r237_1498 : Rn 237 (1498, [x0, x1, x2, x3], .int j :: .int i :: st, a, h) = if i = j then Rn 237 (1503, [x0, x1, x2, x3], st, a, h) else Rn 237 (1501, [x0, x1, x2, x3], st, a, h) := Rn_icmp c237_1498 mc_eq rfl rfl
theorem c237_1501 : mcode 237 1501 = some (.iconst 0, 1, 0, 0, 0) := rfl
theorem r237_1501 : Rn 237 (1501, [x0, x1, x2, x3], st, a, h) = Rn 237 (1502, [x0, x1, x2, x3], .int (0 : Int32) :: st, a, h) := Rn_go c237_1501 rfl
theorem c237_1502 : mcode 237 1502 = some (.ireturn, 1, 1, 0, 0) := rfl
theorem r237_1502 : Rn 237 (1502, [x0, x1, x2, x3], [.int i], a, h) = if mrt 1 i = true then some (some (.int i), a, h) else none := Rn_iretz c237_1502
theorem c237_1503 : mcode 237 1503 = some (.iinc 3 6, 3, 0, 0, 0) := rfl
theorem r237_1503 : Rn 237 (1503, [x0, x1, x2, some (.int i)], st, a, h) = Nl x2 (Rn 237 (1506, [x0, x1, x2, some (.int (i + (6 : Int32)))], st, a, h)) := Rn_st1 (k := 3) (v := .int (i + (6 : Int32))) x2 c237_1503 rfl rfl rfl rfl
theorem c237_1506 : mcode 237 1506 = some (.goto (-1488), 3, 0, 0, 0) := rfl
theorem r237_1506 : Rn 237 (1506, [x0, x1, x2, x3], st, a, h) = Rn 237 (18, [x0, x1, x2, x3], st, a, h) := Rn_goto c237_1506 rfl
theorem c237_1509 : mcode 237 1509 = some (.iconst 1, 1, 0, 0, 0) := rfl
theorem r237_1509 : Rn 237 (1509, [x0, x1, x2, x3], st, a, h) = Rn 237 (1510, [x0, x1, x2, x3], .int (1 : Int32) :: st, a, h) := Rn_go c237_1509 rfl
theorem c237_1510 : mcode 237 1510 = some (.ireturn, 1, 1, 0, 0) := rfl
theorem r237_1510 : Rn 237 (1510, [x0, x1, x2, x3], [.int i], a, h) = if mrt 1 i = true then some (some (.int i), a, h) else none := Rn_iretz c237_1510
end
