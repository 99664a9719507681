section
variable {x0 x1 x2 x3 x4 x5 x6 x7 x8 x9 : Option Value} {i j k i0 i1 i2 i3 i4 i5 i6 : Int32} {p q q0 q1 q2 q3 q4 q5 : Nat} {l m l0 l1 l2 : Int64} {u v w v0 v1 v2 v3 v4 v5 : Value} {st : List Value} {a : MA} {h : MH}
theorem c62_0 : mcode 62 0 = some (.aload_n 0, 1, 0, 0, 0) := rfl
theorem r62_0 : Rn 62 (0, [some (.ref q), x1], st, a, h) = Rn 62 (1, [some (.ref q), x1], .ref q :: st, a, h) := Rn_go c62_0 rfl
theorem c62_1 : mcode 62 1 = some (.invokespecial 3, 3, 9999, 0, 0) := rfl
theorem r62_1 : Rn 62 (1, [x0, x1], [.ref q], a, h) = Rn 62 (4, [x0, x1], [], a, h) := Rn_go c62_1 rfl
theorem c62_4 : mcode 62 4 = some (.aload_n 0, 1, 0, 0, 0) := rfl
theorem r62_4 : Rn 62 (4, [some (.ref q), x1], st, a, h) = Rn 62 (5, [some (.ref q), x1], .ref q :: st, a, h) := Rn_go c62_4 rfl
theorem c62_5 : mcode 62 5 = some (.new 9, 3, 4, 0, 0) := rfl
theorem r62_5 {b c d : Nat} (hb : b < 999) : Rn 62 (5, [x0, x1], st, (b, c, d), h) = Rn 62 (8, [x0, x1], .ref b :: st, (b + 1, c + 1, d + 8), mup h b (.inr (.inr (4, mdf 4)))) := Rn_new c62_5 rfl hb
theorem c62_8 : mcode 62 8 = some (.dup, 1, 0, 0, 0) := rfl
theorem r62_8 : Rn 62 (8, [x0, x1], .ref q :: st, a, h) = Rn 62 (9, [x0, x1], .ref q :: .ref q :: st, a, h) := Rn_go c62_8 rfl
theorem c62_9 : mcode 62 9 = some (.invokespecial 11, 3, 34, 0, 0) := rfl
theorem r62_9 : Rn 62 (9, [x0, x1], [.ref q, .ref q0, .ref q1], a, h) = Bk 62 12 [x0, x1] [.ref q0, .ref q1] (Ec 34 [.ref q] a h) := Rn_call2 c62_9 (fun z => nomatch z) rfl (Nat.le_of_ble_eq_true rfl) rfl rfl (Nat.le_of_ble_eq_true rfl)
theorem c62_12 : mcode 62 12 = some (.putfield 12, 3, 5, 0, 2) := rfl
theorem r62_12 : Rn 62 (12, [x0, x1], .ref p :: .ref q :: st, a, h) = Kh 62 15 [x0, x1] st a (mpf h q 5 0 (.ref p)) := Rn_putfr c62_12 rfl rfl
theorem c62_15 : mcode 62 15 = some (.aload_n 0, 1, 0, 0, 0) := rfl
theorem r62_15 : Rn 62 (15, [some (.ref q), x1], st, a, h) = Rn 62 (16, [some (.ref q), x1], .ref q :: st, a, h) := Rn_go c62_15 rfl
theorem c62_16 : mcode 62 16 = some (.new 9, 3, 4, 0, 0) := rfl
theorem r62_16 {b c d : Nat} (hb : b < 999) : Rn 62 (16, [x0, x1], st, (b, c, d), h) = Rn 62 (19, [x0, x1], .ref b :: st, (b + 1, c + 1, d + 8), mup h b (.inr (.inr (4, mdf 4)))) := Rn_new c62_16 rfl hb
theorem c62_19 : mcode 62 19 = some (.dup, 1, 0, 0, 0) := rfl
theorem r62_19 : Rn 62 (19, [x0, x1], .ref q :: st, a, h) = Rn 62 (20, [x0, x1], .ref q :: .ref q :: st, a, h) := Rn_go c62_19 rfl
theorem c62_20 : mcode 62 20 = some (.invokespecial 11, 3, 34, 0, 0) := rfl
theorem r62_20 : Rn 62 (20, [x0, x1], [.ref q, .ref q0, .ref q1], a, h) = Bk 62 23 [x0, x1] [.ref q0, .ref q1] (Ec 34 [.ref q] a h) := Rn_call2 c62_20 (fun z => nomatch z) rfl (Nat.le_of_ble_eq_true rfl) rfl rfl (Nat.le_of_ble_eq_true rfl)
theorem c62_23 : mcode 62 23 = some (.putfield 16, 3, 5, 1, 2) := rfl
theorem r62_23 : Rn 62 (23, [x0, x1], .ref p :: .ref q :: st, a, h) = Kh 62 26 [x0, x1] st a (mpf h q 5 1 (.ref p)) := Rn_putfr c62_23 rfl rfl
theorem c62_26 : mcode 62 26 = some (.aload_n 0, 1, 0, 0, 0) := rfl
theorem r62_26 : Rn 62 (26, [some (.ref q), x1], st, a, h) = Rn 62 (27, [some (.ref q), x1], .ref q :: st, a, h) := Rn_go c62_26 rfl
theorem c62_27 : mcode 62 27 = some (.new 9, 3, 4, 0, 0) := rfl
theorem r62_27 {b c d : Nat} (hb : b < 999) : Rn 62 (27, [x0, x1], st, (b, c, d), h) = Rn 62 (30, [x0, x1], .ref b :: st, (b + 1, c + 1, d + 8), mup h b (.inr (.inr (4, mdf 4)))) := Rn_new c62_27 rfl hb
theorem c62_30 : mcode 62 30 = some (.dup, 1, 0, 0, 0) := rfl
theorem r62_30 : Rn 62 (30, [x0, x1], .ref q :: st, a, h) = Rn 62 (31, [x0, x1], .ref q :: .ref q :: st, a, h) := Rn_go c62_30 rfl
theorem c62_31 : mcode 62 31 = some (.invokespecial 11, 3, 34, 0, 0) := rfl
theorem r62_31 : Rn 62 (31, [x0, x1], [.ref q, .ref q0, .ref q1], a, h) = Bk 62 34 [x0, x1] [.ref q0, .ref q1] (Ec 34 [.ref q] a h) := Rn_call2 c62_31 (fun z => nomatch z) rfl (Nat.le_of_ble_eq_true rfl) rfl rfl (Nat.le_of_ble_eq_true rfl)
theorem c62_34 : mcode 62 34 = some (.putfield 19, 3, 5, 2, 2) := rfl
theorem r62_34 : Rn 62 (34, [x0, x1], .ref p :: .ref q :: st, a, h) = Kh 62 37 [x0, x1] st a (mpf h q 5 2 (.ref p)) := Rn_putfr c62_34 rfl rfl
theorem c62_37 : mcode 62 37 = some (.aload_n 0, 1, 0, 0, 0) := rfl
theorem r62_37 : Rn 62 (37, [some (.ref q), x1], st, a, h) = Rn 62 (38, [some (.ref q), x1], .ref q :: st, a, h) := Rn_go c62_37 rfl
theorem c62_38 : mcode 62 38 = some (.iconst 0, 1, 0, 0, 0) := rfl
theorem r62_38 : Rn 62 (38, [x0, x1], st, a, h) = Rn 62 (39, [x0, x1], .int (0 : Int32) :: st, a, h) := Rn_go c62_38 rfl
theorem c62_39 : mcode 62 39 = some (.putfield 22, 3, 5, 3, 1) := rfl
theorem r62_39 : Rn 62 (39, [x0, x1], .int i :: .ref q :: st, a, h) = if mok 1 (.int i) = true then Kh 62 42 [x0, x1] st a (mpf h q 5 3 (.int i)) else none := Rn_putf c62_39 rfl rfl
theorem c62_42 : mcode 62 42 = some (.aload_n 0, 1, 0, 0, 0) := rfl
theorem r62_42 : Rn 62 (42, [some (.ref q), x1], st, a, h) = Rn 62 (43, [some (.ref q), x1], .ref q :: st, a, h) := Rn_go c62_42 rfl
theorem c62_43 : mcode 62 43 = some (.new 26, 3, 2, 0, 0) := rfl
theorem r62_43 {b c d : Nat} (hb : b < 999) : Rn 62 (43, [x0, x1], st, (b, c, d), h) = Rn 62 (46, [x0, x1], .ref b :: st, (b + 1, c + 1, d + 5), mup h b (.inr (.inr (2, mdf 2)))) := Rn_new c62_43 rfl hb
theorem c62_46 : mcode 62 46 = some (.dup, 1, 0, 0, 0) := rfl
theorem r62_46 : Rn 62 (46, [x0, x1], .ref q :: st, a, h) = Rn 62 (47, [x0, x1], .ref q :: .ref q :: st, a, h) := Rn_go c62_46 rfl
theorem c62_47 : mcode 62 47 = some (.invokespecial 28, 3, 11, 0, 0) := rfl
theorem r62_47 : Rn 62 (47, [x0, x1], [.ref q, .ref q0, .ref q1], a, h) = Bk 62 50 [x0, x1] [.ref q0, .ref q1] (Ec 11 [.ref q] a h) := Rn_call2 c62_47 (fun z => nomatch z) rfl (Nat.le_of_ble_eq_true rfl) rfl rfl (Nat.le_of_ble_eq_true rfl)
theorem c62_50 : mcode 62 50 = some (.putfield 29, 3, 5, 4, 2) := rfl
theorem r62_50 : Rn 62 (50, [x0, x1], .ref p :: .ref q :: st, a, h) = Kh 62 53 [x0, x1] st a (mpf h q 5 4 (.ref p)) := Rn_putfr c62_50 rfl rfl
theorem c62_53 : mcode 62 53 = some (.aload_n 0, 1, 0, 0, 0) := rfl
theorem r62_53 : Rn 62 (53, [some (.ref q), x1], st, a, h) = Rn 62 (54, [some (.ref q), x1], .ref q :: st, a, h) := Rn_go c62_53 rfl
theorem c62_54 : mcode 62 54 = some (.aload_n 0, 1, 0, 0, 0) := rfl
theorem r62_54 : Rn 62 (54, [some (.ref q), x1], st, a, h) = Rn 62 (55, [some (.ref q), x1], .ref q :: st, a, h) := Rn_go c62_54 rfl
theorem c62_55 : mcode 62 55 = some (.getfield 29, 3, 5, 4, 0) := rfl
theorem r62_55 : Rn 62 (55, [x0, x1], .ref q :: st, a, h) = Kv 62 58 [x0, x1] st a h (mgf h q 5 4) := Rn_getf c62_55 rfl
theorem c62_58 : mcode 62 58 = some (.getfield 33, 3, 2, 0, 0) := rfl
theorem r62_58 : Rn 62 (58, [x0, x1], .ref q :: st, a, h) = Kv 62 61 [x0, x1] st a h (mgf h q 2 0) := Rn_getf c62_58 rfl
theorem c62_61 : mcode 62 61 = some (.putfield 37, 3, 5, 5, 2) := rfl
theorem r62_61 : Rn 62 (61, [x0, x1], .ref p :: .ref q :: st, a, h) = Kh 62 64 [x0, x1] st a (mpf h q 5 5 (.ref p)) := Rn_putfr c62_61 rfl rfl
theorem c62_64 : mcode 62 64 = some (.aload_n 0, 1, 0, 0, 0) := rfl
theorem r62_64 : Rn 62 (64, [some (.ref q), x1], st, a, h) = Rn 62 (65, [some (.ref q), x1], .ref q :: st, a, h) := Rn_go c62_64 rfl
theorem c62_65 : mcode 62 65 = some (.iconst 4, 1, 0, 0, 0) := rfl
theorem r62_65 : Rn 62 (65, [x0, x1], st, a, h) = Rn 62 (66, [x0, x1], .int (4 : Int32) :: st, a, h) := Rn_go c62_65 rfl
theorem c62_66 : mcode 62 66 = some (.anewarray 38, 3, 0, 0, 0) := rfl
theorem r62_66 {b c d : Nat} (hi : ¬ i < 0) (hj : i.toNatClampNeg ≤ 65536) (hb : b < 999) : Rn 62 (66, [x0, x1], .int i :: st, (b, c, d), h) = Rn 62 (69, [x0, x1], .ref b :: st, (b + 1, c + 1, d + i.toNatClampNeg), mup h b (.inr (.inl (0, i.toNatClampNeg, fun _ => none)))) := Rn_anewarray c62_66 rfl hi hj hb
theorem c62_69 : mcode 62 69 = some (.putfield 40, 3, 5, 6, 2) := rfl
theorem r62_69 : Rn 62 (69, [x0, x1], .ref p :: .ref q :: st, a, h) = Kh 62 72 [x0, x1] st a (mpf h q 5 6 (.ref p)) := Rn_putfr c62_69 rfl rfl
theorem c62_72 : mcode 62 72 = some (.aload_n 0, 1, 0, 0, 0) := rfl
theorem r62_72 : Rn 62 (72, [some (.ref q), x1], st, a, h) = Rn 62 (73, [some (.ref q), x1], .ref q :: st, a, h) := Rn_go c62_72 rfl
theorem c62_73 : mcode 62 73 = some (.bipush 7, 2, 0, 0, 0) := rfl
theorem r62_73 : Rn 62 (73, [x0, x1], st, a, h) = Rn 62 (75, [x0, x1], .int (7 : Int32) :: st, a, h) := Rn_go c62_73 rfl
theorem c62_75 : mcode 62 75 = some (.newarray .int, 2, 0, 0, 0) := rfl
theorem r62_75 {b c d : Nat} (hi : ¬ i < 0) (hj : i.toNatClampNeg ≤ 65536) (hb : b < 999) : Rn 62 (75, [x0, x1], .int i :: st, (b, c, d), h) = Rn 62 (77, [x0, x1], .ref b :: st, (b + 1, c + 1, d + i.toNatClampNeg), mup h b (.inl (i.toNatClampNeg, fun _ => 0))) := Rn_newarray c62_75 rfl hi hj hb
theorem c62_77 : mcode 62 77 = some (.putfield 44, 3, 5, 7, 2) := rfl
theorem r62_77 : Rn 62 (77, [x0, x1], .ref p :: .ref q :: st, a, h) = Kh 62 80 [x0, x1] st a (mpf h q 5 7 (.ref p)) := Rn_putfr c62_77 rfl rfl
theorem c62_80 : mcode 62 80 = some (.iconst 0, 1, 0, 0, 0) := rfl
theorem r62_80 : Rn 62 (80, [x0, x1], st, a, h) = Rn 62 (81, [x0, x1], .int (0 : Int32) :: st, a, h) := Rn_go c62_80 rfl
theorem c62_81 : mcode 62 81 = some (.istore_n 1, 1, 0, 0, 0) := rfl
theorem r62_81 : Rn 62 (81, [x0, x1], .int i :: st, a, h) = Nl x0 (Rn 62 (82, [x0, some (.int i)], st, a, h)) := Rn_st1 (k := 1) (v := .int i) x0 c62_81 rfl rfl rfl rfl
theorem c62_82 : mcode 62 82 = some (.iload_n 1, 1, 0, 0, 0) := rfl
theorem r62_82 : Rn 62 (82, [x0, some (.int i)], st, a, h) = Rn 62 (83, [x0, some (.int i)], .int i :: st, a, h) := Rn_go c62_82 rfl
theorem c62_83 : mcode 62 83 = some (.aload_n 0, 1, 0, 0, 0) := rfl
theorem r62_83 : Rn 62 (83, [some (.ref q), x1], st, a, h) = Rn 62 (84, [some (.ref q), x1], .ref q :: st, a, h) := Rn_go c62_83 rfl
theorem c62_84 : mcode 62 84 = some (.getfield 40, 3, 5, 6, 0) := rfl
theorem r62_84 : Rn 62 (84, [x0, x1], .ref q :: st, a, h) = Kv 62 87 [x0, x1] st a h (mgf h q 5 6) := Rn_getf c62_84 rfl
theorem c62_87 : mcode 62 87 = some (.arraylength, 1, 0, 0, 0) := rfl
theorem r62_87 : Rn 62 (87, [x0, x1], .ref q :: st, a, h) = Ki 62 88 [x0, x1] st a h (mlen h q) := Rn_alen c62_87 rfl
theorem c62_88 : mcode 62 88 = some (.if_icmp .ge 22, 3, 0, 0, 0) := rfl
theorem r62_88 : Rn 62 (88, [x0, x1], .int j :: .int i :: st, a, h) = if i < j then Rn 62 (91, [x0, x1], st, a, h) else Rn 62 (110, [x0, x1], st, a, h) := Rn_icmpn c62_88 mc_ge rfl rfl
theorem c62_91 : mcode 62 91 = some (.aload_n 0, 1, 0, 0, 0) := rfl
theorem r62_91 : Rn 62 (91, [some (.ref q), x1], st, a, h) = Rn 62 (92, [some (.ref q), x1], .ref q :: st, a, h) := Rn_go c62_91 rfl
theorem c62_92 : mcode 62 92 = some (.getfield 40, 3, 5, 6, 0) := rfl
theorem r62_92 : Rn 62 (92, [x0, x1], .ref q :: st, a, h) = Kv 62 95 [x0, x1] st a h (mgf h q 5 6) := Rn_getf c62_92 rfl
theorem c62_95 : mcode 62 95 = some (.iload_n 1, 1, 0, 0, 0) := rfl
theorem r62_95 : Rn 62 (95, [x0, some (.int i)], st, a, h) = Rn 62 (96, [x0, some (.int i)], .int i :: st, a, h) := Rn_go c62_95 rfl
theorem c62_96 : mcode 62 96 = some (.new 38, 3, 0, 0, 0) := rfl
theorem r62_96 {b c d : Nat} (hb : b < 999) : Rn 62 (96, [x0, x1], st, (b, c, d), h) = Rn 62 (99, [x0, x1], .ref b :: st, (b + 1, c + 1, d + 3), mup h b (.inr (.inr (0, mdf 0)))) := Rn_new c62_96 rfl hb
theorem c62_99 : mcode 62 99 = some (.dup, 1, 0, 0, 0) := rfl
theorem r62_99 : Rn 62 (99, [x0, x1], .ref q :: st, a, h) = Rn 62 (100, [x0, x1], .ref q :: .ref q :: st, a, h) := Rn_go c62_99 rfl
theorem c62_100 : mcode 62 100 = some (.invokespecial 48, 3, 0, 0, 0) := rfl
theorem r62_100 : Rn 62 (100, [x0, x1], [.ref q, .ref q0, .int i1, .ref q2], a, h) = Bk 62 103 [x0, x1] [.ref q0, .int i1, .ref q2] (Ec 0 [.ref q] a h) := Rn_call2 c62_100 (fun z => nomatch z) rfl (Nat.le_of_ble_eq_true rfl) rfl rfl (Nat.le_of_ble_eq_true rfl)
theorem c62_103 : mcode 62 103 = some (.aastore, 1, 0, 0, 0) := rfl
theorem r62_103 : Rn 62 (103, [x0, x1], .ref p :: .int i :: .ref q :: st, a, h) = Kh 62 104 [x0, x1] st a (maas h q i p) := Rn_aast c62_103 rfl
theorem c62_104 : mcode 62 104 = some (.iinc 1 1, 3, 0, 0, 0) := rfl
theorem r62_104 : Rn 62 (104, [x0, some (.int i)], st, a, h) = Nl x0 (Rn 62 (107, [x0, some (.int (i + (1 : Int32)))], st, a, h)) := Rn_st1 (k := 1) (v := .int (i + (1 : Int32))) x0 c62_104 rfl rfl rfl rfl
theorem c62_107 : mcode 62 107 = some (.goto (-25), 3, 0, 0, 0) := rfl
theorem r62_107 : Rn 62 (107, [x0, x1], st, a, h) = Rn 62 (82, [x0, x1], st, a, h) := Rn_goto c62_107 rfl
theorem c62_110 : mcode 62 110 = some (.return_, 1, 0, 0, 0) := rfl
theorem r62_110 : Rn 62 (110, [x0, x1], [], a, h) = some (none, a, h) := Rn_act c62_110
theorem c63_0 : mcode 63 0 = some (.iload_n 1, 1, 0, 0, 0) := rfl
theorem r63_0 : Rn 63 (0, [x0, some (.int i), x2, x3, x4], st, a, h) = Rn 63 (1, [x0, some (.int i), x2, x3, x4], .int i :: st, a, h) := Rn_go c63_0 rfl
theorem c63_1 : mcode 63 1 = some (.invokestatic 49, 3, 107, 1, 0) := rfl
theorem r63_1 : Rn 63 (1, [x0, x1, x2, x3, x4], [v0], a, h) = Bk 63 4 [x0, x1, x2, x3, x4] [] (Ec 107 [v0] a h) := Rn_call0 c63_1 (fun z => nomatch z) rfl (Nat.le_of_ble_eq_true rfl) rfl rfl (Nat.le_of_ble_eq_true rfl)
theorem c63_4 : mcode 63 4 = some (.ifCond .eq 21, 3, 0, 0, 0) := rfl
theorem r63_4 : Rn 63 (4, [x0, x1, x2, x3, x4], .int i :: st, a, h) = if i = 0 then Rn 63 (25, [x0, x1, x2, x3, x4], st, a, h) else Rn 63 (7, [x0, x1, x2, x3, x4], st, a, h) := Rn_ifc c63_4 mc_eq rfl rfl
theorem c63_7 : mcode 63 7 = some (.iload_n 2, 1, 0, 0, 0) := rfl
theorem r63_7 : Rn 63 (7, [x0, x1, some (.int i), x3, x4], st, a, h) = Rn 63 (8, [x0, x1, some (.int i), x3, x4], .int i :: st, a, h) := Rn_go c63_7 rfl
theorem c63_8 : mcode 63 8 = some (.invokestatic 53, 3, 108, 1, 0) := rfl
theorem r63_8 : Rn 63 (8, [x0, x1, x2, x3, x4], [v0], a, h) = Bk 63 11 [x0, x1, x2, x3, x4] [] (Ec 108 [v0] a h) := Rn_call0 c63_8 (fun z => nomatch z) rfl (Nat.le_of_ble_eq_true rfl) rfl rfl (Nat.le_of_ble_eq_true rfl)
theorem c63_11 : mcode 63 11 = some (.ifCond .eq 14, 3, 0, 0, 0) := rfl
theorem r63_11 : Rn 63 (11, [x0, x1, x2, x3, x4], .int i :: st, a, h) = if i = 0 then Rn 63 (25, [x0, x1, x2, x3, x4], st, a, h) else Rn 63 (14, [x0, x1, x2, x3, x4], st, a, h) := Rn_ifc c63_11 mc_eq rfl rfl
theorem c63_14 : mcode 63 14 = some (.iload_n 3, 1, 0, 0, 0) := rfl
theorem r63_14 : Rn 63 (14, [x0, x1, x2, some (.int i), x4], st, a, h) = Rn 63 (15, [x0, x1, x2, some (.int i), x4], .int i :: st, a, h) := Rn_go c63_14 rfl
theorem c63_15 : mcode 63 15 = some (.iconst 0, 1, 0, 0, 0) := rfl
theorem r63_15 : Rn 63 (15, [x0, x1, x2, x3, x4], st, a, h) = Rn 63 (16, [x0, x1, x2, x3, x4], .int (0 : Int32) :: st, a, h) := Rn_go c63_15 rfl
theorem c63_16 : mcode 63 16 = some (.sipush 999, 3, 0, 0, 0) := rfl
theorem r63_16 : Rn 63 (16, [x0, x1, x2, x3, x4], st, a, h) = Rn 63 (19, [x0, x1, x2, x3, x4], .int (999 : Int32) :: st, a, h) := Rn_go c63_16 rfl
theorem c63_19 : mcode 63 19 = some (.invokestatic 56, 3, 106, 3, 0) := rfl
theorem r63_19 : Rn 63 (19, [x0, x1, x2, x3, x4], [v2, v1, v0], a, h) = Bk 63 22 [x0, x1, x2, x3, x4] [] (Ec 106 [v0, v1, v2] a h) := Rn_call0 c63_19 (fun z => nomatch z) rfl (Nat.le_of_ble_eq_true rfl) rfl rfl (Nat.le_of_ble_eq_true rfl)
theorem c63_22 : mcode 63 22 = some (.ifCond .ne 10, 3, 0, 0, 0) := rfl
theorem r63_22 : Rn 63 (22, [x0, x1, x2, x3, x4], .int i :: st, a, h) = if i = 0 then Rn 63 (25, [x0, x1, x2, x3, x4], st, a, h) else Rn 63 (32, [x0, x1, x2, x3, x4], st, a, h) := Rn_ifcn c63_22 mc_ne rfl rfl
theorem c63_25 : mcode 63 25 = some (.aload_n 0, 1, 0, 0, 0) := rfl
theorem r63_25 : Rn 63 (25, [some (.ref q), x1, x2, x3, x4], st, a, h) = Rn 63 (26, [some (.ref q), x1, x2, x3, x4], .ref q :: st, a, h) := Rn_go c63_25 rfl
theorem c63_26 : mcode 63 26 = some (.ldc 60, 2, 0, 0, -1000001) := rfl
theorem r63_26 : Rn 63 (26, [x0, x1, x2, x3, x4], st, a, h) = Rn 63 (28, [x0, x1, x2, x3, x4], .int (-1000001 : Int32) :: st, a, h) := Rn_go c63_26 rfl
theorem c63_28 : mcode 63 28 = some (.invokevirtual 61, 3, 105, 1, 5) := rfl
theorem r63_28 : Rn 63 (28, [x0, x1, x2, x3, x4], [v0, .ref q], a, h) = if mis h q 5 = true then Bk 63 31 [x0, x1, x2, x3, x4] [] (Ec 105 [.ref q, v0] a h) else none := Rn_call1 c63_28 rfl (Nat.le_of_ble_eq_true rfl) rfl rfl (Nat.le_of_ble_eq_true rfl)
theorem c63_31 : mcode 63 31 = some (.ireturn, 1, 0, 0, 0) := rfl
theorem r63_31 : Rn 63 (31, [x0, x1, x2, x3, x4], [.int i], a, h) = some (some (.int i), a, h) := Rn_ireti c63_31
theorem c63_32 : mcode 63 32 = some (.aload_n 0, 1, 0, 0, 0) := rfl
theorem r63_32 : Rn 63 (32, [some (.ref q), x1, x2, x3, x4], st, a, h) = Rn 63 (33, [some (.ref q), x1, x2, x3, x4], .ref q :: st, a, h) := Rn_go c63_32 rfl
theorem c63_33 : mcode 63 33 = some (.getfield 12, 3, 5, 0, 0) := rfl
theorem r63_33 : Rn 63 (33, [x0, x1, x2, x3, x4], .ref q :: st, a, h) = Kv 63 36 [x0, x1, x2, x3, x4] st a h (mgf h q 5 0) := Rn_getf c63_33 rfl
theorem c63_36 : mcode 63 36 = some (.iload_n 1, 1, 0, 0, 0) := rfl
theorem r63_36 : Rn 63 (36, [x0, some (.int i), x2, x3, x4], st, a, h) = Rn 63 (37, [x0, some (.int i), x2, x3, x4], .int i :: st, a, h) := Rn_go c63_36 rfl
theorem c63_37 : mcode 63 37 = some (.iload_n 2, 1, 0, 0, 0) := rfl
theorem r63_37 : Rn 63 (37, [x0, x1, some (.int i), x3, x4], st, a, h) = Rn 63 (38, [x0, x1, some (.int i), x3, x4], .int i :: st, a, h) := Rn_go c63_37 rfl
theorem c63_38 : mcode 63 38 = some (.invokevirtual 65, 3, 41, 2, 4) := rfl
theorem r63_38 : Rn 63 (38, [x0, x1, x2, x3, x4], [v1, v0, .ref q], a, h) = if mis h q 4 = true then Bk 63 41 [x0, x1, x2, x3, x4] [] (Ec 41 [.ref q, v0, v1] a h) else none := Rn_call1 c63_38 rfl (Nat.le_of_ble_eq_true rfl) rfl rfl (Nat.le_of_ble_eq_true rfl)
theorem c63_41 : mcode 63 41 = some (.istore 4, 2, 0, 0, 0) := rfl
theorem r63_41 : Rn 63 (41, [x0, x1, x2, x3, x4], .int i :: st, a, h) = Nl x3 (Rn 63 (43, [x0, x1, x2, x3, some (.int i)], st, a, h)) := Rn_st1 (k := 4) (v := .int i) x3 c63_41 rfl rfl rfl rfl
theorem c63_43 : mcode 63 43 = some (.aload_n 0, 1, 0, 0, 0) := rfl
theorem r63_43 : Rn 63 (43, [some (.ref q), x1, x2, x3, x4], st, a, h) = Rn 63 (44, [some (.ref q), x1, x2, x3, x4], .ref q :: st, a, h) := Rn_go c63_43 rfl
theorem c63_44 : mcode 63 44 = some (.getfield 12, 3, 5, 0, 0) := rfl
theorem r63_44 : Rn 63 (44, [x0, x1, x2, x3, x4], .ref q :: st, a, h) = Kv 63 47 [x0, x1, x2, x3, x4] st a h (mgf h q 5 0) := Rn_getf c63_44 rfl
theorem c63_47 : mcode 63 47 = some (.iload_n 1, 1, 0, 0, 0) := rfl
theorem r63_47 : Rn 63 (47, [x0, some (.int i), x2, x3, x4], st, a, h) = Rn 63 (48, [x0, some (.int i), x2, x3, x4], .int i :: st, a, h) := Rn_go c63_47 rfl
theorem c63_48 : mcode 63 48 = some (.iload_n 2, 1, 0, 0, 0) := rfl
theorem r63_48 : Rn 63 (48, [x0, x1, some (.int i), x3, x4], st, a, h) = Rn 63 (49, [x0, x1, some (.int i), x3, x4], .int i :: st, a, h) := Rn_go c63_48 rfl
theorem c63_49 : mcode 63 49 = some (.iload_n 3, 1, 0, 0, 0) := rfl
theorem r63_49 : Rn 63 (49, [x0, x1, x2, some (.int i), x4], st, a, h) = Rn 63 (50, [x0, x1, x2, some (.int i), x4], .int i :: st, a, h) := Rn_go c63_49 rfl
theorem c63_50 : mcode 63 50 = some (.invokevirtual 69, 3, 42, 3, 4) := rfl
theorem r63_50 : Rn 63 (50, [x0, x1, x2, x3, x4], [v2, v1, v0, .ref q], a, h) = if mis h q 4 = true then Bk 63 53 [x0, x1, x2, x3, x4] [] (Ec 42 [.ref q, v0, v1, v2] a h) else none := Rn_call1 c63_50 rfl (Nat.le_of_ble_eq_true rfl) rfl rfl (Nat.le_of_ble_eq_true rfl)
theorem c63_53 : mcode 63 53 = some (.iload 4, 2, 0, 0, 0) := rfl
theorem r63_53 : Rn 63 (53, [x0, x1, x2, x3, some (.int i)], st, a, h) = Rn 63 (55, [x0, x1, x2, x3, some (.int i)], .int i :: st, a, h) := Rn_go c63_53 rfl
theorem c63_55 : mcode 63 55 = some (.ireturn, 1, 0, 0, 0) := rfl
theorem r63_55 : Rn 63 (55, [x0, x1, x2, x3, x4], [.int i], a, h) = some (some (.int i), a, h) := Rn_ireti c63_55
theorem c64_0 : mcode 64 0 = some (.iload_n 1, 1, 0, 0, 0) := rfl
theorem r64_0 : Rn 64 (0, [x0, some (.int i), x2], st, a, h) = Rn 64 (1, [x0, some (.int i), x2], .int i :: st, a, h) := Rn_go c64_0 rfl
theorem c64_1 : mcode 64 1 = some (.invokestatic 49, 3, 107, 1, 0) := rfl
theorem r64_1 : Rn 64 (1, [x0, x1, x2], [v0], a, h) = Bk 64 4 [x0, x1, x2] [] (Ec 107 [v0] a h) := Rn_call0 c64_1 (fun z => nomatch z) rfl (Nat.le_of_ble_eq_true rfl) rfl rfl (Nat.le_of_ble_eq_true rfl)
theorem c64_4 : mcode 64 4 = some (.ifCond .ne 10, 3, 0, 0, 0) := rfl
theorem r64_4 : Rn 64 (4, [x0, x1, x2], .int i :: st, a, h) = if i = 0 then Rn 64 (7, [x0, x1, x2], st, a, h) else Rn 64 (14, [x0, x1, x2], st, a, h) := Rn_ifcn c64_4 mc_ne rfl rfl
theorem c64_7 : mcode 64 7 = some (.aload_n 0, 1, 0, 0, 0) := rfl
theorem r64_7 : Rn 64 (7, [some (.ref q), x1, x2], st, a, h) = Rn 64 (8, [some (.ref q), x1, x2], .ref q :: st, a, h) := Rn_go c64_7 rfl
theorem c64_8 : mcode 64 8 = some (.ldc 60, 2, 0, 0, -1000001) := rfl
theorem r64_8 : Rn 64 (8, [x0, x1, x2], st, a, h) = Rn 64 (10, [x0, x1, x2], .int (-1000001 : Int32) :: st, a, h) := Rn_go c64_8 rfl
theorem c64_10 : mcode 64 10 = some (.invokevirtual 61, 3, 105, 1, 5) := rfl
theorem r64_10 : Rn 64 (10, [x0, x1, x2], [v0, .ref q], a, h) = if mis h q 5 = true then Bk 64 13 [x0, x1, x2] [] (Ec 105 [.ref q, v0] a h) else none := Rn_call1 c64_10 rfl (Nat.le_of_ble_eq_true rfl) rfl rfl (Nat.le_of_ble_eq_true rfl)
theorem c64_13 : mcode 64 13 = some (.ireturn, 1, 0, 0, 0) := rfl
theorem r64_13 : Rn 64 (13, [x0, x1, x2], [.int i], a, h) = some (some (.int i), a, h) := Rn_ireti c64_13
theorem c64_14 : mcode 64 14 = some (.iload_n 2, 1, 0, 0, 0) := rfl
theorem r64_14 : Rn 64 (14, [x0, x1, some (.int i)], st, a, h) = Rn 64 (15, [x0, x1, some (.int i)], .int i :: st, a, h) := Rn_go c64_14 rfl
theorem c64_15 : mcode 64 15 = some (.tableswitch 75 0 5 #[37, 37, 37, 47, 56, 65], 37, 0, 0, 0) := rfl
theorem r64_15_0 : Rn 64 (15, [x0, x1, x2], .int (0 : Int32) :: st, a, h) = Rn 64 (52, [x0, x1, x2], st, a, h) := Rn_swAt c64_15 rfl rfl
theorem r64_15_1 : Rn 64 (15, [x0, x1, x2], .int (1 : Int32) :: st, a, h) = Rn 64 (52, [x0, x1, x2], st, a, h) := Rn_swAt c64_15 rfl rfl
theorem r64_15_2 : Rn 64 (15, [x0, x1, x2], .int (2 : Int32) :: st, a, h) = Rn 64 (52, [x0, x1, x2], st, a, h) := Rn_swAt c64_15 rfl rfl
theorem r64_15_3 : Rn 64 (15, [x0, x1, x2], .int (3 : Int32) :: st, a, h) = Rn 64 (62, [x0, x1, x2], st, a, h) := Rn_swAt c64_15 rfl rfl
theorem r64_15_4 : Rn 64 (15, [x0, x1, x2], .int (4 : Int32) :: st, a, h) = Rn 64 (71, [x0, x1, x2], st, a, h) := Rn_swAt c64_15 rfl rfl
theorem r64_15_5 : Rn 64 (15, [x0, x1, x2], .int (5 : Int32) :: st, a, h) = Rn 64 (80, [x0, x1, x2], st, a, h) := Rn_swAt c64_15 rfl rfl
theorem r64_15_d (hi : i.toInt < 0 ∨ 5 < i.toInt) : Rn 64 (15, [x0, x1, x2], .int i :: st, a, h) = Rn 64 (90, [x0, x1, x2], st, a, h) := Rn_swAt c64_15 (if_pos hi) rfl
theorem c64_52 : mcode 64 52 = some (.aload_n 0, 1, 0, 0, 0) := rfl
theorem r64_52 : Rn 64 (52, [some (.ref q), x1, x2], st, a, h) = Rn 64 (53, [some (.ref q), x1, x2], .ref q :: st, a, h) := Rn_go c64_52 rfl
theorem c64_53 : mcode 64 53 = some (.getfield 12, 3, 5, 0, 0) := rfl
theorem r64_53 : Rn 64 (53, [x0, x1, x2], .ref q :: st, a, h) = Kv 64 56 [x0, x1, x2] st a h (mgf h q 5 0) := Rn_getf c64_53 rfl
theorem c64_56 : mcode 64 56 = some (.iload_n 1, 1, 0, 0, 0) := rfl
theorem r64_56 : Rn 64 (56, [x0, some (.int i), x2], st, a, h) = Rn 64 (57, [x0, some (.int i), x2], .int i :: st, a, h) := Rn_go c64_56 rfl
theorem c64_57 : mcode 64 57 = some (.iload_n 2, 1, 0, 0, 0) := rfl
theorem r64_57 : Rn 64 (57, [x0, x1, some (.int i)], st, a, h) = Rn 64 (58, [x0, x1, some (.int i)], .int i :: st, a, h) := Rn_go c64_57 rfl
theorem c64_58 : mcode 64 58 = some (.invokevirtual 65, 3, 41, 2, 4) := rfl
theorem r64_58 : Rn 64 (58, [x0, x1, x2], [v1, v0, .ref q], a, h) = if mis h q 4 = true then Bk 64 61 [x0, x1, x2] [] (Ec 41 [.ref q, v0, v1] a h) else none := Rn_call1 c64_58 rfl (Nat.le_of_ble_eq_true rfl) rfl rfl (Nat.le_of_ble_eq_true rfl)
theorem c64_61 : mcode 64 61 = some (.ireturn, 1, 0, 0, 0) := rfl
theorem r64_61 : Rn 64 (61, [x0, x1, x2], [.int i], a, h) = some (some (.int i), a, h) := Rn_ireti c64_61
theorem c64_62 : mcode 64 62 = some (.aload_n 0, 1, 0, 0, 0) := rfl
theorem r64_62 : Rn 64 (62, [some (.ref q), x1, x2], st, a, h) = Rn 64 (63, [some (.ref q), x1, x2], .ref q :: st, a, h) := Rn_go c64_62 rfl
theorem c64_63 : mcode 64 63 = some (.getfield 12, 3, 5, 0, 0) := rfl
theorem r64_63 : Rn 64 (63, [x0, x1, x2], .ref q :: st, a, h) = Kv 64 66 [x0, x1, x2] st a h (mgf h q 5 0) := Rn_getf c64_63 rfl
theorem c64_66 : mcode 64 66 = some (.iload_n 1, 1, 0, 0, 0) := rfl
theorem r64_66 : Rn 64 (66, [x0, some (.int i), x2], st, a, h) = Rn 64 (67, [x0, some (.int i), x2], .int i :: st, a, h) := Rn_go c64_66 rfl
theorem c64_67 : mcode 64 67 = some (.invokevirtual 73, 3, 43, 1, 4) := rfl
theorem r64_67 : Rn 64 (67, [x0, x1, x2], [v0, .ref q], a, h) = if mis h q 4 = true then Bk 64 70 [x0, x1, x2] [] (Ec 43 [.ref q, v0] a h) else none := Rn_call1 c64_67 rfl (Nat.le_of_ble_eq_true rfl) rfl rfl (Nat.le_of_ble_eq_true rfl)
theorem c64_70 : mcode 64 70 = some (.ireturn, 1, 0, 0, 0) := rfl
theorem r64_70 : Rn 64 (70, [x0, x1, x2], [.int i], a, h) = some (some (.int i), a, h) := Rn_ireti c64_70
theorem c64_71 : mcode 64 71 = some (.aload_n 0, 1, 0, 0, 0) := rfl
theorem r64_71 : Rn 64 (71, [some (.ref q), x1, x2], st, a, h) = Rn 64 (72, [some (.ref q), x1, x2], .ref q :: st, a, h) := Rn_go c64_71 rfl
theorem c64_72 : mcode 64 72 = some (.getfield 12, 3, 5, 0, 0) := rfl
theorem r64_72 : Rn 64 (72, [x0, x1, x2], .ref q :: st, a, h) = Kv 64 75 [x0, x1, x2] st a h (mgf h q 5 0) := Rn_getf c64_72 rfl
theorem c64_75 : mcode 64 75 = some (.iload_n 1, 1, 0, 0, 0) := rfl
theorem r64_75 : Rn 64 (75, [x0, some (.int i), x2], st, a, h) = Rn 64 (76, [x0, some (.int i), x2], .int i :: st, a, h) := Rn_go c64_75 rfl
theorem c64_76 : mcode 64 76 = some (.invokevirtual 76, 3, 48, 1, 4) := rfl
theorem r64_76 : Rn 64 (76, [x0, x1, x2], [v0, .ref q], a, h) = if mis h q 4 = true then Bk 64 79 [x0, x1, x2] [] (Ec 48 [.ref q, v0] a h) else none := Rn_call1 c64_76 rfl (Nat.le_of_ble_eq_true rfl) rfl rfl (Nat.le_of_ble_eq_true rfl)
theorem c64_79 : mcode 64 79 = some (.ireturn, 1, 0, 0, 0) := rfl
theorem r64_79 : Rn 64 (79, [x0, x1, x2], [.int i], a, h) = some (some (.int i), a, h) := Rn_ireti c64_79
theorem c64_80 : mcode 64 80 = some (.aload_n 0, 1, 0, 0, 0) := rfl
theorem r64_80 : Rn 64 (80, [some (.ref q), x1, x2], st, a, h) = Rn 64 (81, [some (.ref q), x1, x2], .ref q :: st, a, h) := Rn_go c64_80 rfl
theorem c64_81 : mcode 64 81 = some (.getfield 12, 3, 5, 0, 0) := rfl
theorem r64_81 : Rn 64 (81, [x0, x1, x2], .ref q :: st, a, h) = Kv 64 84 [x0, x1, x2] st a h (mgf h q 5 0) := Rn_getf c64_81 rfl
theorem c64_84 : mcode 64 84 = some (.iload_n 1, 1, 0, 0, 0) := rfl
theorem r64_84 : Rn 64 (84, [x0, some (.int i), x2], st, a, h) = Rn 64 (85, [x0, some (.int i), x2], .int i :: st, a, h) := Rn_go c64_84 rfl
theorem c64_85 : mcode 64 85 = some (.iconst (-1), 1, 0, 0, 0) := rfl
theorem r64_85 : Rn 64 (85, [x0, x1, x2], st, a, h) = Rn 64 (86, [x0, x1, x2], .int (-1 : Int32) :: st, a, h) := Rn_go c64_85 rfl
theorem c64_86 : mcode 64 86 = some (.invokevirtual 79, 3, 47, 2, 4) := rfl
theorem r64_86 : Rn 64 (86, [x0, x1, x2], [v1, v0, .ref q], a, h) = if mis h q 4 = true then Bk 64 89 [x0, x1, x2] [] (Ec 47 [.ref q, v0, v1] a h) else none := Rn_call1 c64_86 rfl (Nat.le_of_ble_eq_true rfl) rfl rfl (Nat.le_of_ble_eq_true rfl)
theorem c64_89 : mcode 64 89 = some (.ireturn, 1, 0, 0, 0) := rfl
theorem r64_89 : Rn 64 (89, [x0, x1, x2], [.int i], a, h) = some (some (.int i), a, h) := Rn_ireti c64_89
theorem c64_90 : mcode 64 90 = some (.aload_n 0, 1, 0, 0, 0) := rfl
theorem r64_90 : Rn 64 (90, [some (.ref q), x1, x2], st, a, h) = Rn 64 (91, [some (.ref q), x1, x2], .ref q :: st, a, h) := Rn_go c64_90 rfl
theorem c64_91 : mcode 64 91 = some (.ldc 60, 2, 0, 0, -1000001) := rfl
theorem r64_91 : Rn 64 (91, [x0, x1, x2], st, a, h) = Rn 64 (93, [x0, x1, x2], .int (-1000001 : Int32) :: st, a, h) := Rn_go c64_91 rfl
theorem c64_93 : mcode 64 93 = some (.invokevirtual 61, 3, 105, 1, 5) := rfl
theorem r64_93 : Rn 64 (93, [x0, x1, x2], [v0, .ref q], a, h) = if mis h q 5 = true then Bk 64 96 [x0, x1, x2] [] (Ec 105 [.ref q, v0] a h) else none := Rn_call1 c64_93 rfl (Nat.le_of_ble_eq_true rfl) rfl rfl (Nat.le_of_ble_eq_true rfl)
theorem c64_96 : mcode 64 96 = some (.ireturn, 1, 0, 0, 0) := rfl
theorem r64_96 : Rn 64 (96, [x0, x1, x2], [.int i], a, h) = some (some (.int i), a, h) := Rn_ireti c64_96
theorem c65_0 : mcode 65 0 = some (.iload_n 1, 1, 0, 0, 0) := rfl
theorem r65_0 : Rn 65 (0, [x0, some (.int i), x2], st, a, h) = Rn 65 (1, [x0, some (.int i), x2], .int i :: st, a, h) := Rn_go c65_0 rfl
theorem c65_1 : mcode 65 1 = some (.iconst 0, 1, 0, 0, 0) := rfl
theorem r65_1 : Rn 65 (1, [x0, x1, x2], st, a, h) = Rn 65 (2, [x0, x1, x2], .int (0 : Int32) :: st, a, h) := Rn_go c65_1 rfl
theorem c65_2 : mcode 65 2 = some (.bipush 9, 2, 0, 0, 0) := rfl
theorem r65_2 : Rn 65 (2, [x0, x1, x2], st, a, h) = Rn 65 (4, [x0, x1, x2], .int (9 : Int32) :: st, a, h) := Rn_go c65_2 rfl
theorem c65_4 : mcode 65 4 = some (.invokestatic 56, 3, 106, 3, 0) := rfl
theorem r65_4 : Rn 65 (4, [x0, x1, x2], [v2, v1, v0], a, h) = Bk 65 7 [x0, x1, x2] [] (Ec 106 [v0, v1, v2] a h) := Rn_call0 c65_4 (fun z => nomatch z) rfl (Nat.le_of_ble_eq_true rfl) rfl rfl (Nat.le_of_ble_eq_true rfl)
theorem c65_7 : mcode 65 7 = some (.ifCond .ne 10, 3, 0, 0, 0) := rfl
theorem r65_7 : Rn 65 (7, [x0, x1, x2], .int i :: st, a, h) = if i = 0 then Rn 65 (10, [x0, x1, x2], st, a, h) else Rn 65 (17, [x0, x1, x2], st, a, h) := Rn_ifcn c65_7 mc_ne rfl rfl
theorem c65_10 : mcode 65 10 = some (.aload_n 0, 1, 0, 0, 0) := rfl
theorem r65_10 : Rn 65 (10, [some (.ref q), x1, x2], st, a, h) = Rn 65 (11, [some (.ref q), x1, x2], .ref q :: st, a, h) := Rn_go c65_10 rfl
theorem c65_11 : mcode 65 11 = some (.ldc 60, 2, 0, 0, -1000001) := rfl
theorem r65_11 : Rn 65 (11, [x0, x1, x2], st, a, h) = Rn 65 (13, [x0, x1, x2], .int (-1000001 : Int32) :: st, a, h) := Rn_go c65_11 rfl
theorem c65_13 : mcode 65 13 = some (.invokevirtual 61, 3, 105, 1, 5) := rfl
theorem r65_13 : Rn 65 (13, [x0, x1, x2], [v0, .ref q], a, h) = if mis h q 5 = true then Bk 65 16 [x0, x1, x2] [] (Ec 105 [.ref q, v0] a h) else none := Rn_call1 c65_13 rfl (Nat.le_of_ble_eq_true rfl) rfl rfl (Nat.le_of_ble_eq_true rfl)
theorem c65_16 : mcode 65 16 = some (.ireturn, 1, 0, 0, 0) := rfl
theorem r65_16 : Rn 65 (16, [x0, x1, x2], [.int i], a, h) = some (some (.int i), a, h) := Rn_ireti c65_16
theorem c65_17 : mcode 65 17 = some (.aload_n 0, 1, 0, 0, 0) := rfl
theorem r65_17 : Rn 65 (17, [some (.ref q), x1, x2], st, a, h) = Rn 65 (18, [some (.ref q), x1, x2], .ref q :: st, a, h) := Rn_go c65_17 rfl
theorem c65_18 : mcode 65 18 = some (.getfield 12, 3, 5, 0, 0) := rfl
theorem r65_18 : Rn 65 (18, [x0, x1, x2], .ref q :: st, a, h) = Kv 65 21 [x0, x1, x2] st a h (mgf h q 5 0) := Rn_getf c65_18 rfl
theorem c65_21 : mcode 65 21 = some (.getfield 82, 3, 4, 4, 0) := rfl
theorem r65_21 : Rn 65 (21, [x0, x1, x2], .ref q :: st, a, h) = Kv 65 24 [x0, x1, x2] st a h (mgf h q 4 4) := Rn_getf c65_21 rfl
theorem c65_24 : mcode 65 24 = some (.istore_n 2, 1, 0, 0, 0) := rfl
theorem r65_24 : Rn 65 (24, [x0, x1, x2], .int i :: st, a, h) = Nl x1 (Rn 65 (25, [x0, x1, some (.int i)], st, a, h)) := Rn_st1 (k := 2) (v := .int i) x1 c65_24 rfl rfl rfl rfl
theorem c65_25 : mcode 65 25 = some (.aload_n 0, 1, 0, 0, 0) := rfl
theorem r65_25 : Rn 65 (25, [some (.ref q), x1, x2], st, a, h) = Rn 65 (26, [some (.ref q), x1, x2], .ref q :: st, a, h) := Rn_go c65_25 rfl
theorem c65_26 : mcode 65 26 = some (.getfield 12, 3, 5, 0, 0) := rfl
theorem r65_26 : Rn 65 (26, [x0, x1, x2], .ref q :: st, a, h) = Kv 65 29 [x0, x1, x2] st a h (mgf h q 5 0) := Rn_getf c65_26 rfl
theorem c65_29 : mcode 65 29 = some (.iload_n 1, 1, 0, 0, 0) := rfl
theorem r65_29 : Rn 65 (29, [x0, some (.int i), x2], st, a, h) = Rn 65 (30, [x0, some (.int i), x2], .int i :: st, a, h) := Rn_go c65_29 rfl
theorem c65_30 : mcode 65 30 = some (.putfield 82, 3, 4, 4, 0) := rfl
theorem r65_30 : Rn 65 (30, [x0, x1, x2], .int i :: .ref q :: st, a, h) = Kh 65 33 [x0, x1, x2] st a (mpf h q 4 4 (.int i)) := Rn_putfi c65_30 rfl rfl
theorem c65_33 : mcode 65 33 = some (.iload_n 2, 1, 0, 0, 0) := rfl
theorem r65_33 : Rn 65 (33, [x0, x1, some (.int i)], st, a, h) = Rn 65 (34, [x0, x1, some (.int i)], .int i :: st, a, h) := Rn_go c65_33 rfl
theorem c65_34 : mcode 65 34 = some (.ireturn, 1, 0, 0, 0) := rfl
theorem r65_34 : Rn 65 (34, [x0, x1, x2], [.int i], a, h) = some (some (.int i), a, h) := Rn_ireti c65_34
theorem c66_0 : mcode 66 0 = some (.iload_n 1, 1, 0, 0, 0) := rfl
theorem r66_0 : Rn 66 (0, [x0, some (.int i), x2], st, a, h) = Rn 66 (1, [x0, some (.int i), x2], .int i :: st, a, h) := Rn_go c66_0 rfl
theorem c66_1 : mcode 66 1 = some (.invokestatic 49, 3, 107, 1, 0) := rfl
theorem r66_1 : Rn 66 (1, [x0, x1, x2], [v0], a, h) = Bk 66 4 [x0, x1, x2] [] (Ec 107 [v0] a h) := Rn_call0 c66_1 (fun z => nomatch z) rfl (Nat.le_of_ble_eq_true rfl) rfl rfl (Nat.le_of_ble_eq_true rfl)
theorem c66_4 : mcode 66 4 = some (.ifCond .eq 15, 3, 0, 0, 0) := rfl
theorem r66_4 : Rn 66 (4, [x0, x1, x2], .int i :: st, a, h) = if i = 0 then Rn 66 (19, [x0, x1, x2], st, a, h) else Rn 66 (7, [x0, x1, x2], st, a, h) := Rn_ifc c66_4 mc_eq rfl rfl
theorem c66_7 : mcode 66 7 = some (.iload_n 2, 1, 0, 0, 0) := rfl
theorem r66_7 : Rn 66 (7, [x0, x1, some (.int i)], st, a, h) = Rn 66 (8, [x0, x1, some (.int i)], .int i :: st, a, h) := Rn_go c66_7 rfl
theorem c66_8 : mcode 66 8 = some (.invokestatic 49, 3, 107, 1, 0) := rfl
theorem r66_8 : Rn 66 (8, [x0, x1, x2], [v0], a, h) = Bk 66 11 [x0, x1, x2] [] (Ec 107 [v0] a h) := Rn_call0 c66_8 (fun z => nomatch z) rfl (Nat.le_of_ble_eq_true rfl) rfl rfl (Nat.le_of_ble_eq_true rfl)
theorem c66_11 : mcode 66 11 = some (.ifCond .eq 8, 3, 0, 0, 0) := rfl
theorem r66_11 : Rn 66 (11, [x0, x1, x2], .int i :: st, a, h) = if i = 0 then Rn 66 (19, [x0, x1, x2], st, a, h) else Rn 66 (14, [x0, x1, x2], st, a, h) := Rn_ifc c66_11 mc_eq rfl rfl
theorem c66_14 : mcode 66 14 = some (.iload_n 1, 1, 0, 0, 0) := rfl
theorem r66_14 : Rn 66 (14, [x0, some (.int i), x2], st, a, h) = Rn 66 (15, [x0, some (.int i), x2], .int i :: st, a, h) := Rn_go c66_14 rfl
theorem c66_15 : mcode 66 15 = some (.iload_n 2, 1, 0, 0, 0) := rfl
theorem r66_15 : Rn 66 (15, [x0, x1, some (.int i)], st, a, h) = Rn 66 (16, [x0, x1, some (.int i)], .int i :: st, a, h) := Rn_go c66_15 rfl
theorem c66_16 : mcode 66 16 = some (.if_icmp .ne 10, 3, 0, 0, 0) := rfl
theorem r66_16 : Rn 66 (16, [x0, x1, x2], .int j :: .int i :: st, a, h) = if i = j then Rn 66 (19, [x0, x1, x2], st, a, h) else Rn 66 (26, [x0, x1, x2], st, a, h) := Rn_icmpn c66_16 mc_ne rfl rfl
theorem c66_19 : mcode 66 19 = some (.aload_n 0, 1, 0, 0, 0) := rfl
theorem r66_19 : Rn 66 (19, [some (.ref q), x1, x2], st, a, h) = Rn 66 (20, [some (.ref q), x1, x2], .ref q :: st, a, h) := Rn_go c66_19 rfl
theorem c66_20 : mcode 66 20 = some (.ldc 60, 2, 0, 0, -1000001) := rfl
theorem r66_20 : Rn 66 (20, [x0, x1, x2], st, a, h) = Rn 66 (22, [x0, x1, x2], .int (-1000001 : Int32) :: st, a, h) := Rn_go c66_20 rfl
theorem c66_22 : mcode 66 22 = some (.invokevirtual 61, 3, 105, 1, 5) := rfl
theorem r66_22 : Rn 66 (22, [x0, x1, x2], [v0, .ref q], a, h) = if mis h q 5 = true then Bk 66 25 [x0, x1, x2] [] (Ec 105 [.ref q, v0] a h) else none := Rn_call1 c66_22 rfl (Nat.le_of_ble_eq_true rfl) rfl rfl (Nat.le_of_ble_eq_true rfl)
theorem c66_25 : mcode 66 25 = some (.ireturn, 1, 0, 0, 0) := rfl
theorem r66_25 : Rn 66 (25, [x0, x1, x2], [.int i], a, h) = some (some (.int i), a, h) := Rn_ireti c66_25
theorem c66_26 : mcode 66 26 = some (.aload_n 0, 1, 0, 0, 0) := rfl
theorem r66_26 : Rn 66 (26, [some (.ref q), x1, x2], st, a, h) = Rn 66 (27, [some (.ref q), x1, x2], .ref q :: st, a, h) := Rn_go c66_26 rfl
theorem c66_27 : mcode 66 27 = some (.getfield 12, 3, 5, 0, 0) := rfl
theorem r66_27 : Rn 66 (27, [x0, x1, x2], .ref q :: st, a, h) = Kv 66 30 [x0, x1, x2] st a h (mgf h q 5 0) := Rn_getf c66_27 rfl
theorem c66_30 : mcode 66 30 = some (.iload_n 1, 1, 0, 0, 0) := rfl
theorem r66_30 : Rn 66 (30, [x0, some (.int i), x2], st, a, h) = Rn 66 (31, [x0, some (.int i), x2], .int i :: st, a, h) := Rn_go c66_30 rfl
theorem c66_31 : mcode 66 31 = some (.iload_n 2, 1, 0, 0, 0) := rfl
theorem r66_31 : Rn 66 (31, [x0, x1, some (.int i)], st, a, h) = Rn 66 (32, [x0, x1, some (.int i)], .int i :: st, a, h) := Rn_go c66_31 rfl
theorem c66_32 : mcode 66 32 = some (.invokevirtual 86, 3, 52, 2, 4) := rfl
theorem r66_32 : Rn 66 (32, [x0, x1, x2], [v1, v0, .ref q], a, h) = if mis h q 4 = true then Bk 66 35 [x0, x1, x2] [] (Ec 52 [.ref q, v0, v1] a h) else none := Rn_call1 c66_32 rfl (Nat.le_of_ble_eq_true rfl) rfl rfl (Nat.le_of_ble_eq_true rfl)
theorem c66_35 : mcode 66 35 = some (.aload_n 0, 1, 0, 0, 0) := rfl
theorem r66_35 : Rn 66 (35, [some (.ref q), x1, x2], st, a, h) = Rn 66 (36, [some (.ref q), x1, x2], .ref q :: st, a, h) := Rn_go c66_35 rfl
theorem c66_36 : mcode 66 36 = some (.getfield 12, 3, 5, 0, 0) := rfl
theorem r66_36 : Rn 66 (36, [x0, x1, x2], .ref q :: st, a, h) = Kv 66 39 [x0, x1, x2] st a h (mgf h q 5 0) := Rn_getf c66_36 rfl
theorem c66_39 : mcode 66 39 = some (.iload_n 1, 1, 0, 0, 0) := rfl
theorem r66_39 : Rn 66 (39, [x0, some (.int i), x2], st, a, h) = Rn 66 (40, [x0, some (.int i), x2], .int i :: st, a, h) := Rn_go c66_39 rfl
theorem c66_40 : mcode 66 40 = some (.invokevirtual 76, 3, 48, 1, 4) := rfl
theorem r66_40 : Rn 66 (40, [x0, x1, x2], [v0, .ref q], a, h) = if mis h q 4 = true then Bk 66 43 [x0, x1, x2] [] (Ec 48 [.ref q, v0] a h) else none := Rn_call1 c66_40 rfl (Nat.le_of_ble_eq_true rfl) rfl rfl (Nat.le_of_ble_eq_true rfl)
theorem c66_43 : mcode 66 43 = some (.aload_n 0, 1, 0, 0, 0) := rfl
theorem r66_43 : Rn 66 (43, [some (.ref q), x1, x2], st, a, h) = Rn 66 (44, [some (.ref q), x1, x2], .ref q :: st, a, h) := Rn_go c66_43 rfl
theorem c66_44 : mcode 66 44 = some (.getfield 12, 3, 5, 0, 0) := rfl
theorem r66_44 : Rn 66 (44, [x0, x1, x2], .ref q :: st, a, h) = Kv 66 47 [x0, x1, x2] st a h (mgf h q 5 0) := Rn_getf c66_44 rfl
theorem c66_47 : mcode 66 47 = some (.iload_n 2, 1, 0, 0, 0) := rfl
theorem r66_47 : Rn 66 (47, [x0, x1, some (.int i)], st, a, h) = Rn 66 (48, [x0, x1, some (.int i)], .int i :: st, a, h) := Rn_go c66_47 rfl
theorem c66_48 : mcode 66 48 = some (.invokevirtual 76, 3, 48, 1, 4) := rfl
theorem r66_48 : Rn 66 (48, [x0, x1, x2], [v0, .ref q, .int i0], a, h) = if mis h q 4 = true then Bk 66 51 [x0, x1, x2] [.int i0] (Ec 48 [.ref q, v0] a h) else none := Rn_call1 c66_48 rfl (Nat.le_of_ble_eq_true rfl) rfl rfl (Nat.le_of_ble_eq_true rfl)
theorem c66_51 : mcode 66 51 = some (.ior, 1, 0, 0, 0) := rfl
theorem r66_51 : Rn 66 (51, [x0, x1, x2], .int j :: .int i :: st, a, h) = Rn 66 (52, [x0, x1, x2], .int (i ||| j) :: st, a, h) := Rn_go c66_51 rfl
theorem c66_52 : mcode 66 52 = some (.invokestatic 90, 3, 226, 1, 0) := rfl
theorem r66_52 : Rn 66 (52, [x0, x1, x2], [v0], a, h) = Bk 66 55 [x0, x1, x2] [] (Ec 226 [v0] a h) := Rn_call0 c66_52 (fun z => nomatch z) rfl (Nat.le_of_ble_eq_true rfl) rfl rfl (Nat.le_of_ble_eq_true rfl)
theorem c66_55 : mcode 66 55 = some (.ireturn, 1, 0, 0, 0) := rfl
theorem r66_55 : Rn 66 (55, [x0, x1, x2], [.int i], a, h) = some (some (.int i), a, h) := Rn_ireti c66_55
theorem c67_0 : mcode 67 0 = some (.iload_n 1, 1, 0, 0, 0) := rfl
theorem r67_0 : Rn 67 (0, [x0, some (.int i), x2], st, a, h) = Rn 67 (1, [x0, some (.int i), x2], .int i :: st, a, h) := Rn_go c67_0 rfl
theorem c67_1 : mcode 67 1 = some (.invokestatic 95, 3, 109, 1, 0) := rfl
theorem r67_1 : Rn 67 (1, [x0, x1, x2], [v0], a, h) = Bk 67 4 [x0, x1, x2] [] (Ec 109 [v0] a h) := Rn_call0 c67_1 (fun z => nomatch z) rfl (Nat.le_of_ble_eq_true rfl) rfl rfl (Nat.le_of_ble_eq_true rfl)
theorem c67_4 : mcode 67 4 = some (.ifCond .eq 10, 3, 0, 0, 0) := rfl
theorem r67_4 : Rn 67 (4, [x0, x1, x2], .int i :: st, a, h) = if i = 0 then Rn 67 (14, [x0, x1, x2], st, a, h) else Rn 67 (7, [x0, x1, x2], st, a, h) := Rn_ifc c67_4 mc_eq rfl rfl
theorem c67_7 : mcode 67 7 = some (.iload_n 2, 1, 0, 0, 0) := rfl
theorem r67_7 : Rn 67 (7, [x0, x1, some (.int i)], st, a, h) = Rn 67 (8, [x0, x1, some (.int i)], .int i :: st, a, h) := Rn_go c67_7 rfl
theorem c67_8 : mcode 67 8 = some (.invokestatic 49, 3, 107, 1, 0) := rfl
theorem r67_8 : Rn 67 (8, [x0, x1, x2], [v0], a, h) = Bk 67 11 [x0, x1, x2] [] (Ec 107 [v0] a h) := Rn_call0 c67_8 (fun z => nomatch z) rfl (Nat.le_of_ble_eq_true rfl) rfl rfl (Nat.le_of_ble_eq_true rfl)
theorem c67_11 : mcode 67 11 = some (.ifCond .ne 10, 3, 0, 0, 0) := rfl
theorem r67_11 : Rn 67 (11, [x0, x1, x2], .int i :: st, a, h) = if i = 0 then Rn 67 (14, [x0, x1, x2], st, a, h) else Rn 67 (21, [x0, x1, x2], st, a, h) := Rn_ifcn c67_11 mc_ne rfl rfl
theorem c67_14 : mcode 67 14 = some (.aload_n 0, 1, 0, 0, 0) := rfl
theorem r67_14 : Rn 67 (14, [some (.ref q), x1, x2], st, a, h) = Rn 67 (15, [some (.ref q), x1, x2], .ref q :: st, a, h) := Rn_go c67_14 rfl
theorem c67_15 : mcode 67 15 = some (.ldc 60, 2, 0, 0, -1000001) := rfl
theorem r67_15 : Rn 67 (15, [x0, x1, x2], st, a, h) = Rn 67 (17, [x0, x1, x2], .int (-1000001 : Int32) :: st, a, h) := Rn_go c67_15 rfl
theorem c67_17 : mcode 67 17 = some (.invokevirtual 61, 3, 105, 1, 5) := rfl
theorem r67_17 : Rn 67 (17, [x0, x1, x2], [v0, .ref q], a, h) = if mis h q 5 = true then Bk 67 20 [x0, x1, x2] [] (Ec 105 [.ref q, v0] a h) else none := Rn_call1 c67_17 rfl (Nat.le_of_ble_eq_true rfl) rfl rfl (Nat.le_of_ble_eq_true rfl)
theorem c67_20 : mcode 67 20 = some (.ireturn, 1, 0, 0, 0) := rfl
theorem r67_20 : Rn 67 (20, [x0, x1, x2], [.int i], a, h) = some (some (.int i), a, h) := Rn_ireti c67_20
theorem c67_21 : mcode 67 21 = some (.aload_n 0, 1, 0, 0, 0) := rfl
theorem r67_21 : Rn 67 (21, [some (.ref q), x1, x2], st, a, h) = Rn 67 (22, [some (.ref q), x1, x2], .ref q :: st, a, h) := Rn_go c67_21 rfl
theorem c67_22 : mcode 67 22 = some (.getfield 12, 3, 5, 0, 0) := rfl
theorem r67_22 : Rn 67 (22, [x0, x1, x2], .ref q :: st, a, h) = Kv 67 25 [x0, x1, x2] st a h (mgf h q 5 0) := Rn_getf c67_22 rfl
theorem c67_25 : mcode 67 25 = some (.invokevirtual 98, 3, 37, 0, 4) := rfl
theorem r67_25 : Rn 67 (25, [x0, x1, x2], [.ref q], a, h) = if mis h q 4 = true then Bk 67 28 [x0, x1, x2] [] (Ec 37 [.ref q] a h) else none := Rn_call1 c67_25 rfl (Nat.le_of_ble_eq_true rfl) rfl rfl (Nat.le_of_ble_eq_true rfl)
theorem c67_28 : mcode 67 28 = some (.ifCond .eq 10, 3, 0, 0, 0) := rfl
theorem r67_28 : Rn 67 (28, [x0, x1, x2], .int i :: st, a, h) = if i = 0 then Rn 67 (38, [x0, x1, x2], st, a, h) else Rn 67 (31, [x0, x1, x2], st, a, h) := Rn_ifc c67_28 mc_eq rfl rfl
theorem c67_31 : mcode 67 31 = some (.aload_n 0, 1, 0, 0, 0) := rfl
theorem r67_31 : Rn 67 (31, [some (.ref q), x1, x2], st, a, h) = Rn 67 (32, [some (.ref q), x1, x2], .ref q :: st, a, h) := Rn_go c67_31 rfl
theorem c67_32 : mcode 67 32 = some (.ldc 102, 2, 0, 0, -1000002) := rfl
theorem r67_32 : Rn 67 (32, [x0, x1, x2], st, a, h) = Rn 67 (34, [x0, x1, x2], .int (-1000002 : Int32) :: st, a, h) := Rn_go c67_32 rfl
theorem c67_34 : mcode 67 34 = some (.invokevirtual 61, 3, 105, 1, 5) := rfl
theorem r67_34 : Rn 67 (34, [x0, x1, x2], [v0, .ref q], a, h) = if mis h q 5 = true then Bk 67 37 [x0, x1, x2] [] (Ec 105 [.ref q, v0] a h) else none := Rn_call1 c67_34 rfl (Nat.le_of_ble_eq_true rfl) rfl rfl (Nat.le_of_ble_eq_true rfl)
theorem c67_37 : mcode 67 37 = some (.ireturn, 1, 0, 0, 0) := rfl
theorem r67_37 : Rn 67 (37, [x0, x1, x2], [.int i], a, h) = some (some (.int i), a, h) := Rn_ireti c67_37
theorem c67_38 : mcode 67 38 = some (.aload_n 0, 1, 0, 0, 0) := rfl
theorem r67_38 : Rn 67 (38, [some (.ref q), x1, x2], st, a, h) = Rn 67 (39, [some (.ref q), x1, x2], .ref q :: st, a, h) := Rn_go c67_38 rfl
theorem c67_39 : mcode 67 39 = some (.getfield 12, 3, 5, 0, 0) := rfl
theorem r67_39 : Rn 67 (39, [x0, x1, x2], .ref q :: st, a, h) = Kv 67 42 [x0, x1, x2] st a h (mgf h q 5 0) := Rn_getf c67_39 rfl
theorem c67_42 : mcode 67 42 = some (.iload_n 1, 1, 0, 0, 0) := rfl
theorem r67_42 : Rn 67 (42, [x0, some (.int i), x2], st, a, h) = Rn 67 (43, [x0, some (.int i), x2], .int i :: st, a, h) := Rn_go c67_42 rfl
theorem c67_43 : mcode 67 43 = some (.iload_n 2, 1, 0, 0, 0) := rfl
theorem r67_43 : Rn 67 (43, [x0, x1, some (.int i)], st, a, h) = Rn 67 (44, [x0, x1, some (.int i)], .int i :: st, a, h) := Rn_go c67_43 rfl
theorem c67_44 : mcode 67 44 = some (.invokevirtual 103, 3, 38, 2, 4) := rfl
theorem r67_44 : Rn 67 (44, [x0, x1, x2], [v1, v0, .ref q], a, h) = if mis h q 4 = true then Bk 67 47 [x0, x1, x2] [] (Ec 38 [.ref q, v0, v1] a h) else none := Rn_call1 c67_44 rfl (Nat.le_of_ble_eq_true rfl) rfl rfl (Nat.le_of_ble_eq_true rfl)
theorem c67_47 : mcode 67 47 = some (.aload_n 0, 1, 0, 0, 0) := rfl
theorem r67_47 : Rn 67 (47, [some (.ref q), x1, x2], st, a, h) = Rn 67 (48, [some (.ref q), x1, x2], .ref q :: st, a, h) := Rn_go c67_47 rfl
theorem c67_48 : mcode 67 48 = some (.getfield 12, 3, 5, 0, 0) := rfl
theorem r67_48 : Rn 67 (48, [x0, x1, x2], .ref q :: st, a, h) = Kv 67 51 [x0, x1, x2] st a h (mgf h q 5 0) := Rn_getf c67_48 rfl
theorem c67_51 : mcode 67 51 = some (.getfield 106, 3, 4, 3, 0) := rfl
theorem r67_51 : Rn 67 (51, [x0, x1, x2], .ref q :: st, a, h) = Kv 67 54 [x0, x1, x2] st a h (mgf h q 4 3) := Rn_getf c67_51 rfl
theorem c67_54 : mcode 67 54 = some (.iconst 1, 1, 0, 0, 0) := rfl
theorem r67_54 : Rn 67 (54, [x0, x1, x2], st, a, h) = Rn 67 (55, [x0, x1, x2], .int (1 : Int32) :: st, a, h) := Rn_go c67_54 rfl
theorem c67_55 : mcode 67 55 = some (.isub, 1, 0, 0, 0) := rfl
theorem r67_55 : Rn 67 (55, [x0, x1, x2], .int j :: .int i :: st, a, h) = Rn 67 (56, [x0, x1, x2], .int (i - j) :: st, a, h) := Rn_go c67_55 rfl
theorem c67_56 : mcode 67 56 = some (.ireturn, 1, 0, 0, 0) := rfl
theorem r67_56 : Rn 67 (56, [x0, x1, x2], [.int i], a, h) = some (some (.int i), a, h) := Rn_ireti c67_56
theorem c68_0 : mcode 68 0 = some (.aload_n 0, 1, 0, 0, 0) := rfl
theorem r68_0 : Rn 68 (0, [some (.ref q), x1, x2], st, a, h) = Rn 68 (1, [some (.ref q), x1, x2], .ref q :: st, a, h) := Rn_go c68_0 rfl
theorem c68_1 : mcode 68 1 = some (.getfield 12, 3, 5, 0, 0) := rfl
theorem r68_1 : Rn 68 (1, [x0, x1, x2], .ref q :: st, a, h) = Kv 68 4 [x0, x1, x2] st a h (mgf h q 5 0) := Rn_getf c68_1 rfl
theorem c68_4 : mcode 68 4 = some (.iload_n 1, 1, 0, 0, 0) := rfl
theorem r68_4 : Rn 68 (4, [x0, some (.int i), x2], st, a, h) = Rn 68 (5, [x0, some (.int i), x2], .int i :: st, a, h) := Rn_go c68_4 rfl
theorem c68_5 : mcode 68 5 = some (.invokevirtual 109, 3, 36, 1, 4) := rfl
theorem r68_5 : Rn 68 (5, [x0, x1, x2], [v0, .ref q], a, h) = if mis h q 4 = true then Bk 68 8 [x0, x1, x2] [] (Ec 36 [.ref q, v0] a h) else none := Rn_call1 c68_5 rfl (Nat.le_of_ble_eq_true rfl) rfl rfl (Nat.le_of_ble_eq_true rfl)
theorem c68_8 : mcode 68 8 = some (.ifCond .eq 13, 3, 0, 0, 0) := rfl
theorem r68_8 : Rn 68 (8, [x0, x1, x2], .int i :: st, a, h) = if i = 0 then Rn 68 (21, [x0, x1, x2], st, a, h) else Rn 68 (11, [x0, x1, x2], st, a, h) := Rn_ifc c68_8 mc_eq rfl rfl
theorem c68_11 : mcode 68 11 = some (.iload_n 2, 1, 0, 0, 0) := rfl
theorem r68_11 : Rn 68 (11, [x0, x1, some (.int i)], st, a, h) = Rn 68 (12, [x0, x1, some (.int i)], .int i :: st, a, h) := Rn_go c68_11 rfl
theorem c68_12 : mcode 68 12 = some (.iconst 0, 1, 0, 0, 0) := rfl
theorem r68_12 : Rn 68 (12, [x0, x1, x2], st, a, h) = Rn 68 (13, [x0, x1, x2], .int (0 : Int32) :: st, a, h) := Rn_go c68_12 rfl
theorem c68_13 : mcode 68 13 = some (.bipush 8, 2, 0, 0, 0) := rfl
theorem r68_13 : Rn 68 (13, [x0, x1, x2], st, a, h) = Rn 68 (15, [x0, x1, x2], .int (8 : Int32) :: st, a, h) := Rn_go c68_13 rfl
theorem c68_15 : mcode 68 15 = some (.invokestatic 56, 3, 106, 3, 0) := rfl
theorem r68_15 : Rn 68 (15, [x0, x1, x2], [v2, v1, v0], a, h) = Bk 68 18 [x0, x1, x2] [] (Ec 106 [v0, v1, v2] a h) := Rn_call0 c68_15 (fun z => nomatch z) rfl (Nat.le_of_ble_eq_true rfl) rfl rfl (Nat.le_of_ble_eq_true rfl)
theorem c68_18 : mcode 68 18 = some (.ifCond .ne 10, 3, 0, 0, 0) := rfl
theorem r68_18 : Rn 68 (18, [x0, x1, x2], .int i :: st, a, h) = if i = 0 then Rn 68 (21, [x0, x1, x2], st, a, h) else Rn 68 (28, [x0, x1, x2], st, a, h) := Rn_ifcn c68_18 mc_ne rfl rfl
theorem c68_21 : mcode 68 21 = some (.aload_n 0, 1, 0, 0, 0) := rfl
theorem r68_21 : Rn 68 (21, [some (.ref q), x1, x2], st, a, h) = Rn 68 (22, [some (.ref q), x1, x2], .ref q :: st, a, h) := Rn_go c68_21 rfl
theorem c68_22 : mcode 68 22 = some (.ldc 60, 2, 0, 0, -1000001) := rfl
theorem r68_22 : Rn 68 (22, [x0, x1, x2], st, a, h) = Rn 68 (24, [x0, x1, x2], .int (-1000001 : Int32) :: st, a, h) := Rn_go c68_22 rfl
theorem c68_24 : mcode 68 24 = some (.invokevirtual 61, 3, 105, 1, 5) := rfl
theorem r68_24 : Rn 68 (24, [x0, x1, x2], [v0, .ref q], a, h) = if mis h q 5 = true then Bk 68 27 [x0, x1, x2] [] (Ec 105 [.ref q, v0] a h) else none := Rn_call1 c68_24 rfl (Nat.le_of_ble_eq_true rfl) rfl rfl (Nat.le_of_ble_eq_true rfl)
theorem c68_27 : mcode 68 27 = some (.ireturn, 1, 0, 0, 0) := rfl
theorem r68_27 : Rn 68 (27, [x0, x1, x2], [.int i], a, h) = some (some (.int i), a, h) := Rn_ireti c68_27
theorem c68_28 : mcode 68 28 = some (.aload_n 0, 1, 0, 0, 0) := rfl
theorem r68_28 : Rn 68 (28, [some (.ref q), x1, x2], st, a, h) = Rn 68 (29, [some (.ref q), x1, x2], .ref q :: st, a, h) := Rn_go c68_28 rfl
theorem c68_29 : mcode 68 29 = some (.getfield 12, 3, 5, 0, 0) := rfl
theorem r68_29 : Rn 68 (29, [x0, x1, x2], .ref q :: st, a, h) = Kv 68 32 [x0, x1, x2] st a h (mgf h q 5 0) := Rn_getf c68_29 rfl
theorem c68_32 : mcode 68 32 = some (.iload_n 1, 1, 0, 0, 0) := rfl
theorem r68_32 : Rn 68 (32, [x0, some (.int i), x2], st, a, h) = Rn 68 (33, [x0, some (.int i), x2], .int i :: st, a, h) := Rn_go c68_32 rfl
theorem c68_33 : mcode 68 33 = some (.iload_n 2, 1, 0, 0, 0) := rfl
theorem r68_33 : Rn 68 (33, [x0, x1, some (.int i)], st, a, h) = Rn 68 (34, [x0, x1, some (.int i)], .int i :: st, a, h) := Rn_go c68_33 rfl
theorem c68_34 : mcode 68 34 = some (.invokevirtual 112, 3, 39, 2, 4) := rfl
theorem r68_34 : Rn 68 (34, [x0, x1, x2], [v1, v0, .ref q], a, h) = if mis h q 4 = true then Bk 68 37 [x0, x1, x2] [] (Ec 39 [.ref q, v0, v1] a h) else none := Rn_call1 c68_34 rfl (Nat.le_of_ble_eq_true rfl) rfl rfl (Nat.le_of_ble_eq_true rfl)
theorem c68_37 : mcode 68 37 = some (.ireturn, 1, 0, 0, 0) := rfl
theorem r68_37 : Rn 68 (37, [x0, x1, x2], [.int i], a, h) = some (some (.int i), a, h) := Rn_ireti c68_37
theorem c69_0 : mcode 69 0 = some (.aload_n 0, 1, 0, 0, 0) := rfl
theorem r69_0 : Rn 69 (0, [some (.ref q), x1, x2, x3, x4], st, a, h) = Rn 69 (1, [some (.ref q), x1, x2, x3, x4], .ref q :: st, a, h) := Rn_go c69_0 rfl
theorem c69_1 : mcode 69 1 = some (.getfield 12, 3, 5, 0, 0) := rfl
theorem r69_1 : Rn 69 (1, [x0, x1, x2, x3, x4], .ref q :: st, a, h) = Kv 69 4 [x0, x1, x2, x3, x4] st a h (mgf h q 5 0) := Rn_getf c69_1 rfl
theorem c69_4 : mcode 69 4 = some (.iload_n 1, 1, 0, 0, 0) := rfl
theorem r69_4 : Rn 69 (4, [x0, some (.int i), x2, x3, x4], st, a, h) = Rn 69 (5, [x0, some (.int i), x2, x3, x4], .int i :: st, a, h) := Rn_go c69_4 rfl
theorem c69_5 : mcode 69 5 = some (.invokevirtual 109, 3, 36, 1, 4) := rfl
theorem r69_5 : Rn 69 (5, [x0, x1, x2, x3, x4], [v0, .ref q], a, h) = if mis h q 4 = true then Bk 69 8 [x0, x1, x2, x3, x4] [] (Ec 36 [.ref q, v0] a h) else none := Rn_call1 c69_5 rfl (Nat.le_of_ble_eq_true rfl) rfl rfl (Nat.le_of_ble_eq_true rfl)
theorem c69_8 : mcode 69 8 = some (.ifCond .eq 24, 3, 0, 0, 0) := rfl
theorem r69_8 : Rn 69 (8, [x0, x1, x2, x3, x4], .int i :: st, a, h) = if i = 0 then Rn 69 (32, [x0, x1, x2, x3, x4], st, a, h) else Rn 69 (11, [x0, x1, x2, x3, x4], st, a, h) := Rn_ifc c69_8 mc_eq rfl rfl
theorem c69_11 : mcode 69 11 = some (.iload_n 2, 1, 0, 0, 0) := rfl
theorem r69_11 : Rn 69 (11, [x0, x1, some (.int i), x3, x4], st, a, h) = Rn 69 (12, [x0, x1, some (.int i), x3, x4], .int i :: st, a, h) := Rn_go c69_11 rfl
theorem c69_12 : mcode 69 12 = some (.iconst 0, 1, 0, 0, 0) := rfl
theorem r69_12 : Rn 69 (12, [x0, x1, x2, x3, x4], st, a, h) = Rn 69 (13, [x0, x1, x2, x3, x4], .int (0 : Int32) :: st, a, h) := Rn_go c69_12 rfl
theorem c69_13 : mcode 69 13 = some (.iconst 5, 1, 0, 0, 0) := rfl
theorem r69_13 : Rn 69 (13, [x0, x1, x2, x3, x4], st, a, h) = Rn 69 (14, [x0, x1, x2, x3, x4], .int (5 : Int32) :: st, a, h) := Rn_go c69_13 rfl
theorem c69_14 : mcode 69 14 = some (.invokestatic 56, 3, 106, 3, 0) := rfl
theorem r69_14 : Rn 69 (14, [x0, x1, x2, x3, x4], [v2, v1, v0], a, h) = Bk 69 17 [x0, x1, x2, x3, x4] [] (Ec 106 [v0, v1, v2] a h) := Rn_call0 c69_14 (fun z => nomatch z) rfl (Nat.le_of_ble_eq_true rfl) rfl rfl (Nat.le_of_ble_eq_true rfl)
theorem c69_17 : mcode 69 17 = some (.ifCond .eq 15, 3, 0, 0, 0) := rfl
theorem r69_17 : Rn 69 (17, [x0, x1, x2, x3, x4], .int i :: st, a, h) = if i = 0 then Rn 69 (32, [x0, x1, x2, x3, x4], st, a, h) else Rn 69 (20, [x0, x1, x2, x3, x4], st, a, h) := Rn_ifc c69_17 mc_eq rfl rfl
theorem c69_20 : mcode 69 20 = some (.iload_n 3, 1, 0, 0, 0) := rfl
theorem r69_20 : Rn 69 (20, [x0, x1, x2, some (.int i), x4], st, a, h) = Rn 69 (21, [x0, x1, x2, some (.int i), x4], .int i :: st, a, h) := Rn_go c69_20 rfl
theorem c69_21 : mcode 69 21 = some (.iconst 0, 1, 0, 0, 0) := rfl
theorem r69_21 : Rn 69 (21, [x0, x1, x2, x3, x4], st, a, h) = Rn 69 (22, [x0, x1, x2, x3, x4], .int (0 : Int32) :: st, a, h) := Rn_go c69_21 rfl
theorem c69_22 : mcode 69 22 = some (.iload_n 2, 1, 0, 0, 0) := rfl
theorem r69_22 : Rn 69 (22, [x0, x1, some (.int i), x3, x4], st, a, h) = Rn 69 (23, [x0, x1, some (.int i), x3, x4], .int i :: st, a, h) := Rn_go c69_22 rfl
theorem c69_23 : mcode 69 23 = some (.invokestatic 115, 3, 111, 1, 0) := rfl
theorem r69_23 : Rn 69 (23, [x0, x1, x2, x3, x4], [v0, .int i0, .int i1], a, h) = Bk 69 26 [x0, x1, x2, x3, x4] [.int i0, .int i1] (Ec 111 [v0] a h) := Rn_call0 c69_23 (fun z => nomatch z) rfl (Nat.le_of_ble_eq_true rfl) rfl rfl (Nat.le_of_ble_eq_true rfl)
theorem c69_26 : mcode 69 26 = some (.invokestatic 56, 3, 106, 3, 0) := rfl
theorem r69_26 : Rn 69 (26, [x0, x1, x2, x3, x4], [v2, v1, v0], a, h) = Bk 69 29 [x0, x1, x2, x3, x4] [] (Ec 106 [v0, v1, v2] a h) := Rn_call0 c69_26 (fun z => nomatch z) rfl (Nat.le_of_ble_eq_true rfl) rfl rfl (Nat.le_of_ble_eq_true rfl)
theorem c69_29 : mcode 69 29 = some (.ifCond .ne 10, 3, 0, 0, 0) := rfl
theorem r69_29 : Rn 69 (29, [x0, x1, x2, x3, x4], .int i :: st, a, h) = if i = 0 then Rn 69 (32, [x0, x1, x2, x3, x4], st, a, h) else Rn 69 (39, [x0, x1, x2, x3, x4], st, a, h) := Rn_ifcn c69_29 mc_ne rfl rfl
theorem c69_32 : mcode 69 32 = some (.aload_n 0, 1, 0, 0, 0) := rfl
theorem r69_32 : Rn 69 (32, [some (.ref q), x1, x2, x3, x4], st, a, h) = Rn 69 (33, [some (.ref q), x1, x2, x3, x4], .ref q :: st, a, h) := Rn_go c69_32 rfl
theorem c69_33 : mcode 69 33 = some (.ldc 60, 2, 0, 0, -1000001) := rfl
theorem r69_33 : Rn 69 (33, [x0, x1, x2, x3, x4], st, a, h) = Rn 69 (35, [x0, x1, x2, x3, x4], .int (-1000001 : Int32) :: st, a, h) := Rn_go c69_33 rfl
theorem c69_35 : mcode 69 35 = some (.invokevirtual 61, 3, 105, 1, 5) := rfl
theorem r69_35 : Rn 69 (35, [x0, x1, x2, x3, x4], [v0, .ref q], a, h) = if mis h q 5 = true then Bk 69 38 [x0, x1, x2, x3, x4] [] (Ec 105 [.ref q, v0] a h) else none := Rn_call1 c69_35 rfl (Nat.le_of_ble_eq_true rfl) rfl rfl (Nat.le_of_ble_eq_true rfl)
theorem c69_38 : mcode 69 38 = some (.ireturn, 1, 0, 0, 0) := rfl
theorem r69_38 : Rn 69 (38, [x0, x1, x2, x3, x4], [.int i], a, h) = some (some (.int i), a, h) := Rn_ireti c69_38
theorem c69_39 : mcode 69 39 = some (.aload_n 0, 1, 0, 0, 0) := rfl
theorem r69_39 : Rn 69 (39, [some (.ref q), x1, x2, x3, x4], st, a, h) = Rn 69 (40, [some (.ref q), x1, x2, x3, x4], .ref q :: st, a, h) := Rn_go c69_39 rfl
theorem c69_40 : mcode 69 40 = some (.getfield 12, 3, 5, 0, 0) := rfl
theorem r69_40 : Rn 69 (40, [x0, x1, x2, x3, x4], .ref q :: st, a, h) = Kv 69 43 [x0, x1, x2, x3, x4] st a h (mgf h q 5 0) := Rn_getf c69_40 rfl
theorem c69_43 : mcode 69 43 = some (.iload_n 1, 1, 0, 0, 0) := rfl
theorem r69_43 : Rn 69 (43, [x0, some (.int i), x2, x3, x4], st, a, h) = Rn 69 (44, [x0, some (.int i), x2, x3, x4], .int i :: st, a, h) := Rn_go c69_43 rfl
theorem c69_44 : mcode 69 44 = some (.iload_n 2, 1, 0, 0, 0) := rfl
theorem r69_44 : Rn 69 (44, [x0, x1, some (.int i), x3, x4], st, a, h) = Rn 69 (45, [x0, x1, some (.int i), x3, x4], .int i :: st, a, h) := Rn_go c69_44 rfl
theorem c69_45 : mcode 69 45 = some (.invokevirtual 112, 3, 39, 2, 4) := rfl
theorem r69_45 : Rn 69 (45, [x0, x1, x2, x3, x4], [v1, v0, .ref q], a, h) = if mis h q 4 = true then Bk 69 48 [x0, x1, x2, x3, x4] [] (Ec 39 [.ref q, v0, v1] a h) else none := Rn_call1 c69_45 rfl (Nat.le_of_ble_eq_true rfl) rfl rfl (Nat.le_of_ble_eq_true rfl)
theorem c69_48 : mcode 69 48 = some (.istore 4, 2, 0, 0, 0) := rfl
theorem r69_48 : Rn 69 (48, [x0, x1, x2, x3, x4], .int i :: st, a, h) = Nl x3 (Rn 69 (50, [x0, x1, x2, x3, some (.int i)], st, a, h)) := Rn_st1 (k := 4) (v := .int i) x3 c69_48 rfl rfl rfl rfl
theorem c69_50 : mcode 69 50 = some (.aload_n 0, 1, 0, 0, 0) := rfl
theorem r69_50 : Rn 69 (50, [some (.ref q), x1, x2, x3, x4], st, a, h) = Rn 69 (51, [some (.ref q), x1, x2, x3, x4], .ref q :: st, a, h) := Rn_go c69_50 rfl
theorem c69_51 : mcode 69 51 = some (.getfield 12, 3, 5, 0, 0) := rfl
theorem r69_51 : Rn 69 (51, [x0, x1, x2, x3, x4], .ref q :: st, a, h) = Kv 69 54 [x0, x1, x2, x3, x4] st a h (mgf h q 5 0) := Rn_getf c69_51 rfl
theorem c69_54 : mcode 69 54 = some (.iload_n 1, 1, 0, 0, 0) := rfl
theorem r69_54 : Rn 69 (54, [x0, some (.int i), x2, x3, x4], st, a, h) = Rn 69 (55, [x0, some (.int i), x2, x3, x4], .int i :: st, a, h) := Rn_go c69_54 rfl
theorem c69_55 : mcode 69 55 = some (.iload_n 2, 1, 0, 0, 0) := rfl
theorem r69_55 : Rn 69 (55, [x0, x1, some (.int i), x3, x4], st, a, h) = Rn 69 (56, [x0, x1, some (.int i), x3, x4], .int i :: st, a, h) := Rn_go c69_55 rfl
theorem c69_56 : mcode 69 56 = some (.iload_n 3, 1, 0, 0, 0) := rfl
theorem r69_56 : Rn 69 (56, [x0, x1, x2, some (.int i), x4], st, a, h) = Rn 69 (57, [x0, x1, x2, some (.int i), x4], .int i :: st, a, h) := Rn_go c69_56 rfl
theorem c69_57 : mcode 69 57 = some (.invokevirtual 118, 3, 40, 3, 4) := rfl
theorem r69_57 : Rn 69 (57, [x0, x1, x2, x3, x4], [v2, v1, v0, .ref q], a, h) = if mis h q 4 = true then Bk 69 60 [x0, x1, x2, x3, x4] [] (Ec 40 [.ref q, v0, v1, v2] a h) else none := Rn_call1 c69_57 rfl (Nat.le_of_ble_eq_true rfl) rfl rfl (Nat.le_of_ble_eq_true rfl)
theorem c69_60 : mcode 69 60 = some (.iload 4, 2, 0, 0, 0) := rfl
theorem r69_60 : Rn 69 (60, [x0, x1, x2, x3, some (.int i)], st, a, h) = Rn 69 (62, [x0, x1, x2, x3, some (.int i)], .int i :: st, a, h) := Rn_go c69_60 rfl
theorem c69_62 : mcode 69 62 = some (.ireturn, 1, 0, 0, 0) := rfl
theorem r69_62 : Rn 69 (62, [x0, x1, x2, x3, x4], [.int i], a, h) = some (some (.int i), a, h) := Rn_ireti c69_62
theorem c70_0 : mcode 70 0 = some (.iload_n 1, 1, 0, 0, 0) := rfl
theorem r70_0 : Rn 70 (0, [x0, some (.int i)], st, a, h) = Rn 70 (1, [x0, some (.int i)], .int i :: st, a, h) := Rn_go c70_0 rfl
theorem c70_1 : mcode 70 1 = some (.iconst 1, 1, 0, 0, 0) := rfl
theorem r70_1 : Rn 70 (1, [x0, x1], st, a, h) = Rn 70 (2, [x0, x1], .int (1 : Int32) :: st, a, h) := Rn_go c70_1 rfl
theorem c70_2 : mcode 70 2 = some (.bipush 60, 2, 0, 0, 0) := rfl
theorem r70_2 : Rn 70 (2, [x0, x1], st, a, h) = Rn 70 (4, [x0, x1], .int (60 : Int32) :: st, a, h) := Rn_go c70_2 rfl
theorem c70_4 : mcode 70 4 = some (.invokestatic 56, 3, 106, 3, 0) := rfl
theorem r70_4 : Rn 70 (4, [x0, x1], [v2, v1, v0], a, h) = Bk 70 7 [x0, x1] [] (Ec 106 [v0, v1, v2] a h) := Rn_call0 c70_4 (fun z => nomatch z) rfl (Nat.le_of_ble_eq_true rfl) rfl rfl (Nat.le_of_ble_eq_true rfl)
theorem c70_7 : mcode 70 7 = some (.ifCond .ne 10, 3, 0, 0, 0) := rfl
theorem r70_7 : Rn 70 (7, [x0, x1], .int i :: st, a, h) = if i = 0 then Rn 70 (10, [x0, x1], st, a, h) else Rn 70 (17, [x0, x1], st, a, h) := Rn_ifcn c70_7 mc_ne rfl rfl
theorem c70_10 : mcode 70 10 = some (.aload_n 0, 1, 0, 0, 0) := rfl
theorem r70_10 : Rn 70 (10, [some (.ref q), x1], st, a, h) = Rn 70 (11, [some (.ref q), x1], .ref q :: st, a, h) := Rn_go c70_10 rfl
theorem c70_11 : mcode 70 11 = some (.ldc 60, 2, 0, 0, -1000001) := rfl
theorem r70_11 : Rn 70 (11, [x0, x1], st, a, h) = Rn 70 (13, [x0, x1], .int (-1000001 : Int32) :: st, a, h) := Rn_go c70_11 rfl
theorem c70_13 : mcode 70 13 = some (.invokevirtual 61, 3, 105, 1, 5) := rfl
theorem r70_13 : Rn 70 (13, [x0, x1], [v0, .ref q], a, h) = if mis h q 5 = true then Bk 70 16 [x0, x1] [] (Ec 105 [.ref q, v0] a h) else none := Rn_call1 c70_13 rfl (Nat.le_of_ble_eq_true rfl) rfl rfl (Nat.le_of_ble_eq_true rfl)
theorem c70_16 : mcode 70 16 = some (.ireturn, 1, 0, 0, 0) := rfl
theorem r70_16 : Rn 70 (16, [x0, x1], [.int i], a, h) = some (some (.int i), a, h) := Rn_ireti c70_16
theorem c70_17 : mcode 70 17 = some (.aload_n 0, 1, 0, 0, 0) := rfl
theorem r70_17 : Rn 70 (17, [some (.ref q), x1], st, a, h) = Rn 70 (18, [some (.ref q), x1], .ref q :: st, a, h) := Rn_go c70_17 rfl
theorem c70_18 : mcode 70 18 = some (.getfield 12, 3, 5, 0, 0) := rfl
theorem r70_18 : Rn 70 (18, [x0, x1], .ref q :: st, a, h) = Kv 70 21 [x0, x1] st a h (mgf h q 5 0) := Rn_getf c70_18 rfl
theorem c70_21 : mcode 70 21 = some (.getfield 121, 3, 4, 5, 0) := rfl
theorem r70_21 : Rn 70 (21, [x0, x1], .ref q :: st, a, h) = Kv 70 24 [x0, x1] st a h (mgf h q 4 5) := Rn_getf c70_21 rfl
theorem c70_24 : mcode 70 24 = some (.iload_n 1, 1, 0, 0, 0) := rfl
theorem r70_24 : Rn 70 (24, [x0, some (.int i)], st, a, h) = Rn 70 (25, [x0, some (.int i)], .int i :: st, a, h) := Rn_go c70_24 rfl
theorem c70_25 : mcode 70 25 = some (.iadd, 1, 0, 0, 0) := rfl
theorem r70_25 : Rn 70 (25, [x0, x1], .int j :: .int i :: st, a, h) = Rn 70 (26, [x0, x1], .int (i + j) :: st, a, h) := Rn_go c70_25 rfl
theorem c70_26 : mcode 70 26 = some (.ldc 124, 2, 0, 0, 99999) := rfl
theorem r70_26 : Rn 70 (26, [x0, x1], st, a, h) = Rn 70 (28, [x0, x1], .int (99999 : Int32) :: st, a, h) := Rn_go c70_26 rfl
theorem c70_28 : mcode 70 28 = some (.if_icmp .le 10, 3, 0, 0, 0) := rfl
theorem r70_28 : Rn 70 (28, [x0, x1], .int j :: .int i :: st, a, h) = if j < i then Rn 70 (31, [x0, x1], st, a, h) else Rn 70 (38, [x0, x1], st, a, h) := Rn_icmpn c70_28 mc_le rfl rfl
theorem c70_31 : mcode 70 31 = some (.aload_n 0, 1, 0, 0, 0) := rfl
theorem r70_31 : Rn 70 (31, [some (.ref q), x1], st, a, h) = Rn 70 (32, [some (.ref q), x1], .ref q :: st, a, h) := Rn_go c70_31 rfl
theorem c70_32 : mcode 70 32 = some (.ldc 125, 2, 0, 0, -1000005) := rfl
theorem r70_32 : Rn 70 (32, [x0, x1], st, a, h) = Rn 70 (34, [x0, x1], .int (-1000005 : Int32) :: st, a, h) := Rn_go c70_32 rfl
theorem c70_34 : mcode 70 34 = some (.invokevirtual 61, 3, 105, 1, 5) := rfl
theorem r70_34 : Rn 70 (34, [x0, x1], [v0, .ref q], a, h) = if mis h q 5 = true then Bk 70 37 [x0, x1] [] (Ec 105 [.ref q, v0] a h) else none := Rn_call1 c70_34 rfl (Nat.le_of_ble_eq_true rfl) rfl rfl (Nat.le_of_ble_eq_true rfl)
theorem c70_37 : mcode 70 37 = some (.ireturn, 1, 0, 0, 0) := rfl
theorem r70_37 : Rn 70 (37, [x0, x1], [.int i], a, h) = some (some (.int i), a, h) := Rn_ireti c70_37
theorem c70_38 : mcode 70 38 = some (.aload_n 0, 1, 0, 0, 0) := rfl
theorem r70_38 : Rn 70 (38, [some (.ref q), x1], st, a, h) = Rn 70 (39, [some (.ref q), x1], .ref q :: st, a, h) := Rn_go c70_38 rfl
theorem c70_39 : mcode 70 39 = some (.getfield 12, 3, 5, 0, 0) := rfl
theorem r70_39 : Rn 70 (39, [x0, x1], .ref q :: st, a, h) = Kv 70 42 [x0, x1] st a h (mgf h q 5 0) := Rn_getf c70_39 rfl
theorem c70_42 : mcode 70 42 = some (.iload_n 1, 1, 0, 0, 0) := rfl
theorem r70_42 : Rn 70 (42, [x0, some (.int i)], st, a, h) = Rn 70 (43, [x0, some (.int i)], .int i :: st, a, h) := Rn_go c70_42 rfl
theorem c70_43 : mcode 70 43 = some (.invokevirtual 126, 3, 53, 1, 4) := rfl
theorem r70_43 : Rn 70 (43, [x0, x1], [v0, .ref q], a, h) = if mis h q 4 = true then Bk 70 46 [x0, x1] [] (Ec 53 [.ref q, v0] a h) else none := Rn_call1 c70_43 rfl (Nat.le_of_ble_eq_true rfl) rfl rfl (Nat.le_of_ble_eq_true rfl)
theorem c70_46 : mcode 70 46 = some (.aload_n 0, 1, 0, 0, 0) := rfl
theorem r70_46 : Rn 70 (46, [some (.ref q), x1], st, a, h) = Rn 70 (47, [some (.ref q), x1], .ref q :: st, a, h) := Rn_go c70_46 rfl
theorem c70_47 : mcode 70 47 = some (.getfield 12, 3, 5, 0, 0) := rfl
theorem r70_47 : Rn 70 (47, [x0, x1], .ref q :: st, a, h) = Kv 70 50 [x0, x1] st a h (mgf h q 5 0) := Rn_getf c70_47 rfl
theorem c70_50 : mcode 70 50 = some (.invokevirtual 130, 3, 44, 0, 4) := rfl
theorem r70_50 : Rn 70 (50, [x0, x1], [.ref q], a, h) = if mis h q 4 = true then Bk 70 53 [x0, x1] [] (Ec 44 [.ref q] a h) else none := Rn_call1 c70_50 rfl (Nat.le_of_ble_eq_true rfl) rfl rfl (Nat.le_of_ble_eq_true rfl)
theorem c70_53 : mcode 70 53 = some (.ireturn, 1, 0, 0, 0) := rfl
theorem r70_53 : Rn 70 (53, [x0, x1], [.int i], a, h) = some (some (.int i), a, h) := Rn_ireti c70_53
theorem c71_0 : mcode 71 0 = some (.iload_n 1, 1, 0, 0, 0) := rfl
theorem r71_0 : Rn 71 (0, [x0, some (.int i)], st, a, h) = Rn 71 (1, [x0, some (.int i)], .int i :: st, a, h) := Rn_go c71_0 rfl
theorem c71_1 : mcode 71 1 = some (.tableswitch 102 0 6 #[43, 51, 59, 68, 76, 85, 94], 43, 0, 0, 0) := rfl
theorem r71_1_0 : Rn 71 (1, [x0, x1], .int (0 : Int32) :: st, a, h) = Rn 71 (44, [x0, x1], st, a, h) := Rn_swAt c71_1 rfl rfl
theorem r71_1_1 : Rn 71 (1, [x0, x1], .int (1 : Int32) :: st, a, h) = Rn 71 (52, [x0, x1], st, a, h) := Rn_swAt c71_1 rfl rfl
theorem r71_1_2 : Rn 71 (1, [x0, x1], .int (2 : Int32) :: st, a, h) = Rn 71 (60, [x0, x1], st, a, h) := Rn_swAt c71_1 rfl rfl
theorem r71_1_3 : Rn 71 (1, [x0, x1], .int (3 : Int32) :: st, a, h) = Rn 71 (69, [x0, x1], st, a, h) := Rn_swAt c71_1 rfl rfl
theorem r71_1_4 : Rn 71 (1, [x0, x1], .int (4 : Int32) :: st, a, h) = Rn 71 (77, [x0, x1], st, a, h) := Rn_swAt c71_1 rfl rfl
theorem r71_1_5 : Rn 71 (1, [x0, x1], .int (5 : Int32) :: st, a, h) = Rn 71 (86, [x0, x1], st, a, h) := Rn_swAt c71_1 rfl rfl
theorem r71_1_6 : Rn 71 (1, [x0, x1], .int (6 : Int32) :: st, a, h) = Rn 71 (95, [x0, x1], st, a, h) := Rn_swAt c71_1 rfl rfl
theorem r71_1_d (hi : i.toInt < 0 ∨ 6 < i.toInt) : Rn 71 (1, [x0, x1], .int i :: st, a, h) = Rn 71 (103, [x0, x1], st, a, h) := Rn_swAt c71_1 (if_pos hi) rfl
theorem c71_44 : mcode 71 44 = some (.aload_n 0, 1, 0, 0, 0) := rfl
theorem r71_44 : Rn 71 (44, [some (.ref q), x1], st, a, h) = Rn 71 (45, [some (.ref q), x1], .ref q :: st, a, h) := Rn_go c71_44 rfl
theorem c71_45 : mcode 71 45 = some (.getfield 12, 3, 5, 0, 0) := rfl
theorem r71_45 : Rn 71 (45, [x0, x1], .ref q :: st, a, h) = Kv 71 48 [x0, x1] st a h (mgf h q 5 0) := Rn_getf c71_45 rfl
theorem c71_48 : mcode 71 48 = some (.getfield 121, 3, 4, 5, 0) := rfl
theorem r71_48 : Rn 71 (48, [x0, x1], .ref q :: st, a, h) = Kv 71 51 [x0, x1] st a h (mgf h q 4 5) := Rn_getf c71_48 rfl
theorem c71_51 : mcode 71 51 = some (.ireturn, 1, 0, 0, 0) := rfl
theorem r71_51 : Rn 71 (51, [x0, x1], [.int i], a, h) = some (some (.int i), a, h) := Rn_ireti c71_51
theorem c71_52 : mcode 71 52 = some (.aload_n 0, 1, 0, 0, 0) := rfl
theorem r71_52 : Rn 71 (52, [some (.ref q), x1], st, a, h) = Rn 71 (53, [some (.ref q), x1], .ref q :: st, a, h) := Rn_go c71_52 rfl
theorem c71_53 : mcode 71 53 = some (.getfield 12, 3, 5, 0, 0) := rfl
theorem r71_53 : Rn 71 (53, [x0, x1], .ref q :: st, a, h) = Kv 71 56 [x0, x1] st a h (mgf h q 5 0) := Rn_getf c71_53 rfl
theorem c71_56 : mcode 71 56 = some (.invokevirtual 130, 3, 44, 0, 4) := rfl
theorem r71_56 : Rn 71 (56, [x0, x1], [.ref q], a, h) = if mis h q 4 = true then Bk 71 59 [x0, x1] [] (Ec 44 [.ref q] a h) else none := Rn_call1 c71_56 rfl (Nat.le_of_ble_eq_true rfl) rfl rfl (Nat.le_of_ble_eq_true rfl)
theorem c71_59 : mcode 71 59 = some (.ireturn, 1, 0, 0, 0) := rfl
theorem r71_59 : Rn 71 (59, [x0, x1], [.int i], a, h) = some (some (.int i), a, h) := Rn_ireti c71_59
theorem c71_60 : mcode 71 60 = some (.aload_n 0, 1, 0, 0, 0) := rfl
theorem r71_60 : Rn 71 (60, [some (.ref q), x1], st, a, h) = Rn 71 (61, [some (.ref q), x1], .ref q :: st, a, h) := Rn_go c71_60 rfl
theorem c71_61 : mcode 71 61 = some (.getfield 12, 3, 5, 0, 0) := rfl
theorem r71_61 : Rn 71 (61, [x0, x1], .ref q :: st, a, h) = Kv 71 64 [x0, x1] st a h (mgf h q 5 0) := Rn_getf c71_61 rfl
theorem c71_64 : mcode 71 64 = some (.iconst 3, 1, 0, 0, 0) := rfl
theorem r71_64 : Rn 71 (64, [x0, x1], st, a, h) = Rn 71 (65, [x0, x1], .int (3 : Int32) :: st, a, h) := Rn_go c71_64 rfl
theorem c71_65 : mcode 71 65 = some (.invokevirtual 134, 3, 50, 1, 4) := rfl
theorem r71_65 : Rn 71 (65, [x0, x1], [v0, .ref q], a, h) = if mis h q 4 = true then Bk 71 68 [x0, x1] [] (Ec 50 [.ref q, v0] a h) else none := Rn_call1 c71_65 rfl (Nat.le_of_ble_eq_true rfl) rfl rfl (Nat.le_of_ble_eq_true rfl)
theorem c71_68 : mcode 71 68 = some (.ireturn, 1, 0, 0, 0) := rfl
theorem r71_68 : Rn 71 (68, [x0, x1], [.int i], a, h) = some (some (.int i), a, h) := Rn_ireti c71_68
theorem c71_69 : mcode 71 69 = some (.aload_n 0, 1, 0, 0, 0) := rfl
theorem r71_69 : Rn 71 (69, [some (.ref q), x1], st, a, h) = Rn 71 (70, [some (.ref q), x1], .ref q :: st, a, h) := Rn_go c71_69 rfl
theorem c71_70 : mcode 71 70 = some (.getfield 12, 3, 5, 0, 0) := rfl
theorem r71_70 : Rn 71 (70, [x0, x1], .ref q :: st, a, h) = Kv 71 73 [x0, x1] st a h (mgf h q 5 0) := Rn_getf c71_70 rfl
theorem c71_73 : mcode 71 73 = some (.invokevirtual 137, 3, 46, 0, 4) := rfl
theorem r71_73 : Rn 71 (73, [x0, x1], [.ref q], a, h) = if mis h q 4 = true then Bk 71 76 [x0, x1] [] (Ec 46 [.ref q] a h) else none := Rn_call1 c71_73 rfl (Nat.le_of_ble_eq_true rfl) rfl rfl (Nat.le_of_ble_eq_true rfl)
theorem c71_76 : mcode 71 76 = some (.ireturn, 1, 0, 0, 0) := rfl
theorem r71_76 : Rn 71 (76, [x0, x1], [.int i], a, h) = some (some (.int i), a, h) := Rn_ireti c71_76
theorem c71_77 : mcode 71 77 = some (.aload_n 0, 1, 0, 0, 0) := rfl
theorem r71_77 : Rn 71 (77, [some (.ref q), x1], st, a, h) = Rn 71 (78, [some (.ref q), x1], .ref q :: st, a, h) := Rn_go c71_77 rfl
theorem c71_78 : mcode 71 78 = some (.getfield 12, 3, 5, 0, 0) := rfl
theorem r71_78 : Rn 71 (78, [x0, x1], .ref q :: st, a, h) = Kv 71 81 [x0, x1] st a h (mgf h q 5 0) := Rn_getf c71_78 rfl
theorem c71_81 : mcode 71 81 = some (.iconst 0, 1, 0, 0, 0) := rfl
theorem r71_81 : Rn 71 (81, [x0, x1], st, a, h) = Rn 71 (82, [x0, x1], .int (0 : Int32) :: st, a, h) := Rn_go c71_81 rfl
theorem c71_82 : mcode 71 82 = some (.invokevirtual 76, 3, 48, 1, 4) := rfl
theorem r71_82 : Rn 71 (82, [x0, x1], [v0, .ref q], a, h) = if mis h q 4 = true then Bk 71 85 [x0, x1] [] (Ec 48 [.ref q, v0] a h) else none := Rn_call1 c71_82 rfl (Nat.le_of_ble_eq_true rfl) rfl rfl (Nat.le_of_ble_eq_true rfl)
theorem c71_85 : mcode 71 85 = some (.ireturn, 1, 0, 0, 0) := rfl
theorem r71_85 : Rn 71 (85, [x0, x1], [.int i], a, h) = some (some (.int i), a, h) := Rn_ireti c71_85
theorem c71_86 : mcode 71 86 = some (.aload_n 0, 1, 0, 0, 0) := rfl
theorem r71_86 : Rn 71 (86, [some (.ref q), x1], st, a, h) = Rn 71 (87, [some (.ref q), x1], .ref q :: st, a, h) := Rn_go c71_86 rfl
theorem c71_87 : mcode 71 87 = some (.getfield 12, 3, 5, 0, 0) := rfl
theorem r71_87 : Rn 71 (87, [x0, x1], .ref q :: st, a, h) = Kv 71 90 [x0, x1] st a h (mgf h q 5 0) := Rn_getf c71_87 rfl
theorem c71_90 : mcode 71 90 = some (.iconst 5, 1, 0, 0, 0) := rfl
theorem r71_90 : Rn 71 (90, [x0, x1], st, a, h) = Rn 71 (91, [x0, x1], .int (5 : Int32) :: st, a, h) := Rn_go c71_90 rfl
theorem c71_91 : mcode 71 91 = some (.invokevirtual 134, 3, 50, 1, 4) := rfl
theorem r71_91 : Rn 71 (91, [x0, x1], [v0, .ref q], a, h) = if mis h q 4 = true then Bk 71 94 [x0, x1] [] (Ec 50 [.ref q, v0] a h) else none := Rn_call1 c71_91 rfl (Nat.le_of_ble_eq_true rfl) rfl rfl (Nat.le_of_ble_eq_true rfl)
theorem c71_94 : mcode 71 94 = some (.ireturn, 1, 0, 0, 0) := rfl
theorem r71_94 : Rn 71 (94, [x0, x1], [.int i], a, h) = some (some (.int i), a, h) := Rn_ireti c71_94
theorem c71_95 : mcode 71 95 = some (.aload_n 0, 1, 0, 0, 0) := rfl
theorem r71_95 : Rn 71 (95, [some (.ref q), x1], st, a, h) = Rn 71 (96, [some (.ref q), x1], .ref q :: st, a, h) := Rn_go c71_95 rfl
theorem c71_96 : mcode 71 96 = some (.getfield 12, 3, 5, 0, 0) := rfl
theorem r71_96 : Rn 71 (96, [x0, x1], .ref q :: st, a, h) = Kv 71 99 [x0, x1] st a h (mgf h q 5 0) := Rn_getf c71_96 rfl
theorem c71_99 : mcode 71 99 = some (.invokevirtual 140, 3, 49, 0, 4) := rfl
theorem r71_99 : Rn 71 (99, [x0, x1], [.ref q], a, h) = if mis h q 4 = true then Bk 71 102 [x0, x1] [] (Ec 49 [.ref q] a h) else none := Rn_call1 c71_99 rfl (Nat.le_of_ble_eq_true rfl) rfl rfl (Nat.le_of_ble_eq_true rfl)
theorem c71_102 : mcode 71 102 = some (.ireturn, 1, 0, 0, 0) := rfl
theorem r71_102 : Rn 71 (102, [x0, x1], [.int i], a, h) = some (some (.int i), a, h) := Rn_ireti c71_102
theorem c71_103 : mcode 71 103 = some (.aload_n 0, 1, 0, 0, 0) := rfl
theorem r71_103 : Rn 71 (103, [some (.ref q), x1], st, a, h) = Rn 71 (104, [some (.ref q), x1], .ref q :: st, a, h) := Rn_go c71_103 rfl
theorem c71_104 : mcode 71 104 = some (.ldc 60, 2, 0, 0, -1000001) := rfl
theorem r71_104 : Rn 71 (104, [x0, x1], st, a, h) = Rn 71 (106, [x0, x1], .int (-1000001 : Int32) :: st, a, h) := Rn_go c71_104 rfl
theorem c71_106 : mcode 71 106 = some (.invokevirtual 61, 3, 105, 1, 5) := rfl
theorem r71_106 : Rn 71 (106, [x0, x1], [v0, .ref q], a, h) = if mis h q 5 = true then Bk 71 109 [x0, x1] [] (Ec 105 [.ref q, v0] a h) else none := Rn_call1 c71_106 rfl (Nat.le_of_ble_eq_true rfl) rfl rfl (Nat.le_of_ble_eq_true rfl)
theorem c71_109 : mcode 71 109 = some (.ireturn, 1, 0, 0, 0) := rfl
theorem r71_109 : Rn 71 (109, [x0, x1], [.int i], a, h) = some (some (.int i), a, h) := Rn_ireti c71_109
theorem c72_0 : mcode 72 0 = some (.aload_n 0, 1, 0, 0, 0) := rfl
theorem r72_0 : Rn 72 (0, [some (.ref q), x1, x2, x3], st, a, h) = Rn 72 (1, [some (.ref q), x1, x2, x3], .ref q :: st, a, h) := Rn_go c72_0 rfl
theorem c72_1 : mcode 72 1 = some (.getfield 12, 3, 5, 0, 0) := rfl
theorem r72_1 : Rn 72 (1, [x0, x1, x2, x3], .ref q :: st, a, h) = Kv 72 4 [x0, x1, x2, x3] st a h (mgf h q 5 0) := Rn_getf c72_1 rfl
theorem c72_4 : mcode 72 4 = some (.iload_n 1, 1, 0, 0, 0) := rfl
theorem r72_4 : Rn 72 (4, [x0, some (.int i), x2, x3], st, a, h) = Rn 72 (5, [x0, some (.int i), x2, x3], .int i :: st, a, h) := Rn_go c72_4 rfl
theorem c72_5 : mcode 72 5 = some (.invokevirtual 109, 3, 36, 1, 4) := rfl
theorem r72_5 : Rn 72 (5, [x0, x1, x2, x3], [v0, .ref q], a, h) = if mis h q 4 = true then Bk 72 8 [x0, x1, x2, x3] [] (Ec 36 [.ref q, v0] a h) else none := Rn_call1 c72_5 rfl (Nat.le_of_ble_eq_true rfl) rfl rfl (Nat.le_of_ble_eq_true rfl)
theorem c72_8 : mcode 72 8 = some (.ifCond .eq 22, 3, 0, 0, 0) := rfl
theorem r72_8 : Rn 72 (8, [x0, x1, x2, x3], .int i :: st, a, h) = if i = 0 then Rn 72 (30, [x0, x1, x2, x3], st, a, h) else Rn 72 (11, [x0, x1, x2, x3], st, a, h) := Rn_ifc c72_8 mc_eq rfl rfl
theorem c72_11 : mcode 72 11 = some (.iload_n 2, 1, 0, 0, 0) := rfl
theorem r72_11 : Rn 72 (11, [x0, x1, some (.int i), x3], st, a, h) = Rn 72 (12, [x0, x1, some (.int i), x3], .int i :: st, a, h) := Rn_go c72_11 rfl
theorem c72_12 : mcode 72 12 = some (.iconst 1, 1, 0, 0, 0) := rfl
theorem r72_12 : Rn 72 (12, [x0, x1, x2, x3], st, a, h) = Rn 72 (13, [x0, x1, x2, x3], .int (1 : Int32) :: st, a, h) := Rn_go c72_12 rfl
theorem c72_13 : mcode 72 13 = some (.iconst 5, 1, 0, 0, 0) := rfl
theorem r72_13 : Rn 72 (13, [x0, x1, x2, x3], st, a, h) = Rn 72 (14, [x0, x1, x2, x3], .int (5 : Int32) :: st, a, h) := Rn_go c72_13 rfl
theorem c72_14 : mcode 72 14 = some (.invokestatic 56, 3, 106, 3, 0) := rfl
theorem r72_14 : Rn 72 (14, [x0, x1, x2, x3], [v2, v1, v0], a, h) = Bk 72 17 [x0, x1, x2, x3] [] (Ec 106 [v0, v1, v2] a h) := Rn_call0 c72_14 (fun z => nomatch z) rfl (Nat.le_of_ble_eq_true rfl) rfl rfl (Nat.le_of_ble_eq_true rfl)
theorem c72_17 : mcode 72 17 = some (.ifCond .eq 13, 3, 0, 0, 0) := rfl
theorem r72_17 : Rn 72 (17, [x0, x1, x2, x3], .int i :: st, a, h) = if i = 0 then Rn 72 (30, [x0, x1, x2, x3], st, a, h) else Rn 72 (20, [x0, x1, x2, x3], st, a, h) := Rn_ifc c72_17 mc_eq rfl rfl
theorem c72_20 : mcode 72 20 = some (.iload_n 3, 1, 0, 0, 0) := rfl
theorem r72_20 : Rn 72 (20, [x0, x1, x2, some (.int i)], st, a, h) = Rn 72 (21, [x0, x1, x2, some (.int i)], .int i :: st, a, h) := Rn_go c72_20 rfl
theorem c72_21 : mcode 72 21 = some (.iconst 0, 1, 0, 0, 0) := rfl
theorem r72_21 : Rn 72 (21, [x0, x1, x2, x3], st, a, h) = Rn 72 (22, [x0, x1, x2, x3], .int (0 : Int32) :: st, a, h) := Rn_go c72_21 rfl
theorem c72_22 : mcode 72 22 = some (.bipush 100, 2, 0, 0, 0) := rfl
theorem r72_22 : Rn 72 (22, [x0, x1, x2, x3], st, a, h) = Rn 72 (24, [x0, x1, x2, x3], .int (100 : Int32) :: st, a, h) := Rn_go c72_22 rfl
theorem c72_24 : mcode 72 24 = some (.invokestatic 56, 3, 106, 3, 0) := rfl
theorem r72_24 : Rn 72 (24, [x0, x1, x2, x3], [v2, v1, v0], a, h) = Bk 72 27 [x0, x1, x2, x3] [] (Ec 106 [v0, v1, v2] a h) := Rn_call0 c72_24 (fun z => nomatch z) rfl (Nat.le_of_ble_eq_true rfl) rfl rfl (Nat.le_of_ble_eq_true rfl)
theorem c72_27 : mcode 72 27 = some (.ifCond .ne 10, 3, 0, 0, 0) := rfl
theorem r72_27 : Rn 72 (27, [x0, x1, x2, x3], .int i :: st, a, h) = if i = 0 then Rn 72 (30, [x0, x1, x2, x3], st, a, h) else Rn 72 (37, [x0, x1, x2, x3], st, a, h) := Rn_ifcn c72_27 mc_ne rfl rfl
theorem c72_30 : mcode 72 30 = some (.aload_n 0, 1, 0, 0, 0) := rfl
theorem r72_30 : Rn 72 (30, [some (.ref q), x1, x2, x3], st, a, h) = Rn 72 (31, [some (.ref q), x1, x2, x3], .ref q :: st, a, h) := Rn_go c72_30 rfl
theorem c72_31 : mcode 72 31 = some (.ldc 60, 2, 0, 0, -1000001) := rfl
theorem r72_31 : Rn 72 (31, [x0, x1, x2, x3], st, a, h) = Rn 72 (33, [x0, x1, x2, x3], .int (-1000001 : Int32) :: st, a, h) := Rn_go c72_31 rfl
theorem c72_33 : mcode 72 33 = some (.invokevirtual 61, 3, 105, 1, 5) := rfl
theorem r72_33 : Rn 72 (33, [x0, x1, x2, x3], [v0, .ref q], a, h) = if mis h q 5 = true then Bk 72 36 [x0, x1, x2, x3] [] (Ec 105 [.ref q, v0] a h) else none := Rn_call1 c72_33 rfl (Nat.le_of_ble_eq_true rfl) rfl rfl (Nat.le_of_ble_eq_true rfl)
theorem c72_36 : mcode 72 36 = some (.ireturn, 1, 0, 0, 0) := rfl
theorem r72_36 : Rn 72 (36, [x0, x1, x2, x3], [.int i], a, h) = some (some (.int i), a, h) := Rn_ireti c72_36
theorem c72_37 : mcode 72 37 = some (.aload_n 0, 1, 0, 0, 0) := rfl
theorem r72_37 : Rn 72 (37, [some (.ref q), x1, x2, x3], st, a, h) = Rn 72 (38, [some (.ref q), x1, x2, x3], .ref q :: st, a, h) := Rn_go c72_37 rfl
theorem c72_38 : mcode 72 38 = some (.invokevirtual 143, 3, 114, 0, 5) := rfl
theorem r72_38 : Rn 72 (38, [x0, x1, x2, x3], [.ref q], a, h) = if mis h q 5 = true then Bk 72 41 [x0, x1, x2, x3] [] (Ec 114 [.ref q] a h) else none := Rn_call1 c72_38 rfl (Nat.le_of_ble_eq_true rfl) rfl rfl (Nat.le_of_ble_eq_true rfl)
theorem c72_41 : mcode 72 41 = some (.aload_n 0, 1, 0, 0, 0) := rfl
theorem r72_41 : Rn 72 (41, [some (.ref q), x1, x2, x3], st, a, h) = Rn 72 (42, [some (.ref q), x1, x2, x3], .ref q :: st, a, h) := Rn_go c72_41 rfl
theorem c72_42 : mcode 72 42 = some (.getfield 16, 3, 5, 1, 0) := rfl
theorem r72_42 : Rn 72 (42, [x0, x1, x2, x3], .ref q :: st, a, h) = Kv 72 45 [x0, x1, x2, x3] st a h (mgf h q 5 1) := Rn_getf c72_42 rfl
theorem c72_45 : mcode 72 45 = some (.iload_n 3, 1, 0, 0, 0) := rfl
theorem r72_45 : Rn 72 (45, [x0, x1, x2, some (.int i)], st, a, h) = Rn 72 (46, [x0, x1, x2, some (.int i)], .int i :: st, a, h) := Rn_go c72_45 rfl
theorem c72_46 : mcode 72 46 = some (.invokevirtual 126, 3, 53, 1, 4) := rfl
theorem r72_46 : Rn 72 (46, [x0, x1, x2, x3], [v0, .ref q], a, h) = if mis h q 4 = true then Bk 72 49 [x0, x1, x2, x3] [] (Ec 53 [.ref q, v0] a h) else none := Rn_call1 c72_46 rfl (Nat.le_of_ble_eq_true rfl) rfl rfl (Nat.le_of_ble_eq_true rfl)
theorem c72_49 : mcode 72 49 = some (.aload_n 0, 1, 0, 0, 0) := rfl
theorem r72_49 : Rn 72 (49, [some (.ref q), x1, x2, x3], st, a, h) = Rn 72 (50, [some (.ref q), x1, x2, x3], .ref q :: st, a, h) := Rn_go c72_49 rfl
theorem c72_50 : mcode 72 50 = some (.getfield 16, 3, 5, 1, 0) := rfl
theorem r72_50 : Rn 72 (50, [x0, x1, x2, x3], .ref q :: st, a, h) = Kv 72 53 [x0, x1, x2, x3] st a h (mgf h q 5 1) := Rn_getf c72_50 rfl
theorem c72_53 : mcode 72 53 = some (.iload_n 1, 1, 0, 0, 0) := rfl
theorem r72_53 : Rn 72 (53, [x0, some (.int i), x2, x3], st, a, h) = Rn 72 (54, [x0, some (.int i), x2, x3], .int i :: st, a, h) := Rn_go c72_53 rfl
theorem c72_54 : mcode 72 54 = some (.iload_n 2, 1, 0, 0, 0) := rfl
theorem r72_54 : Rn 72 (54, [x0, x1, some (.int i), x3], st, a, h) = Rn 72 (55, [x0, x1, some (.int i), x3], .int i :: st, a, h) := Rn_go c72_54 rfl
theorem c72_55 : mcode 72 55 = some (.invokevirtual 112, 3, 39, 2, 4) := rfl
theorem r72_55 : Rn 72 (55, [x0, x1, x2, x3], [v1, v0, .ref q], a, h) = if mis h q 4 = true then Bk 72 58 [x0, x1, x2, x3] [] (Ec 39 [.ref q, v0, v1] a h) else none := Rn_call1 c72_55 rfl (Nat.le_of_ble_eq_true rfl) rfl rfl (Nat.le_of_ble_eq_true rfl)
theorem c72_58 : mcode 72 58 = some (.ireturn, 1, 0, 0, 0) := rfl
theorem r72_58 : Rn 72 (58, [x0, x1, x2, x3], [.int i], a, h) = some (some (.int i), a, h) := Rn_ireti c72_58
theorem c73_0 : mcode 73 0 = some (.iload_n 1, 1, 0, 0, 0) := rfl
theorem r73_0 : Rn 73 (0, [x0, some (.int i), x2, x3], st, a, h) = Rn 73 (1, [x0, some (.int i), x2, x3], .int i :: st, a, h) := Rn_go c73_0 rfl
theorem c73_1 : mcode 73 1 = some (.invokestatic 49, 3, 107, 1, 0) := rfl
theorem r73_1 : Rn 73 (1, [x0, x1, x2, x3], [v0], a, h) = Bk 73 4 [x0, x1, x2, x3] [] (Ec 107 [v0] a h) := Rn_call0 c73_1 (fun z => nomatch z) rfl (Nat.le_of_ble_eq_true rfl) rfl rfl (Nat.le_of_ble_eq_true rfl)
theorem c73_4 : mcode 73 4 = some (.ifCond .eq 20, 3, 0, 0, 0) := rfl
theorem r73_4 : Rn 73 (4, [x0, x1, x2, x3], .int i :: st, a, h) = if i = 0 then Rn 73 (24, [x0, x1, x2, x3], st, a, h) else Rn 73 (7, [x0, x1, x2, x3], st, a, h) := Rn_ifc c73_4 mc_eq rfl rfl
theorem c73_7 : mcode 73 7 = some (.iload_n 2, 1, 0, 0, 0) := rfl
theorem r73_7 : Rn 73 (7, [x0, x1, some (.int i), x3], st, a, h) = Rn 73 (8, [x0, x1, some (.int i), x3], .int i :: st, a, h) := Rn_go c73_7 rfl
theorem c73_8 : mcode 73 8 = some (.invokestatic 53, 3, 108, 1, 0) := rfl
theorem r73_8 : Rn 73 (8, [x0, x1, x2, x3], [v0], a, h) = Bk 73 11 [x0, x1, x2, x3] [] (Ec 108 [v0] a h) := Rn_call0 c73_8 (fun z => nomatch z) rfl (Nat.le_of_ble_eq_true rfl) rfl rfl (Nat.le_of_ble_eq_true rfl)
theorem c73_11 : mcode 73 11 = some (.ifCond .eq 13, 3, 0, 0, 0) := rfl
theorem r73_11 : Rn 73 (11, [x0, x1, x2, x3], .int i :: st, a, h) = if i = 0 then Rn 73 (24, [x0, x1, x2, x3], st, a, h) else Rn 73 (14, [x0, x1, x2, x3], st, a, h) := Rn_ifc c73_11 mc_eq rfl rfl
theorem c73_14 : mcode 73 14 = some (.iload_n 3, 1, 0, 0, 0) := rfl
theorem r73_14 : Rn 73 (14, [x0, x1, x2, some (.int i)], st, a, h) = Rn 73 (15, [x0, x1, x2, some (.int i)], .int i :: st, a, h) := Rn_go c73_14 rfl
theorem c73_15 : mcode 73 15 = some (.iconst 0, 1, 0, 0, 0) := rfl
theorem r73_15 : Rn 73 (15, [x0, x1, x2, x3], st, a, h) = Rn 73 (16, [x0, x1, x2, x3], .int (0 : Int32) :: st, a, h) := Rn_go c73_15 rfl
theorem c73_16 : mcode 73 16 = some (.bipush 100, 2, 0, 0, 0) := rfl
theorem r73_16 : Rn 73 (16, [x0, x1, x2, x3], st, a, h) = Rn 73 (18, [x0, x1, x2, x3], .int (100 : Int32) :: st, a, h) := Rn_go c73_16 rfl
theorem c73_18 : mcode 73 18 = some (.invokestatic 56, 3, 106, 3, 0) := rfl
theorem r73_18 : Rn 73 (18, [x0, x1, x2, x3], [v2, v1, v0], a, h) = Bk 73 21 [x0, x1, x2, x3] [] (Ec 106 [v0, v1, v2] a h) := Rn_call0 c73_18 (fun z => nomatch z) rfl (Nat.le_of_ble_eq_true rfl) rfl rfl (Nat.le_of_ble_eq_true rfl)
theorem c73_21 : mcode 73 21 = some (.ifCond .ne 10, 3, 0, 0, 0) := rfl
theorem r73_21 : Rn 73 (21, [x0, x1, x2, x3], .int i :: st, a, h) = if i = 0 then Rn 73 (24, [x0, x1, x2, x3], st, a, h) else Rn 73 (31, [x0, x1, x2, x3], st, a, h) := Rn_ifcn c73_21 mc_ne rfl rfl
theorem c73_24 : mcode 73 24 = some (.aload_n 0, 1, 0, 0, 0) := rfl
theorem r73_24 : Rn 73 (24, [some (.ref q), x1, x2, x3], st, a, h) = Rn 73 (25, [some (.ref q), x1, x2, x3], .ref q :: st, a, h) := Rn_go c73_24 rfl
theorem c73_25 : mcode 73 25 = some (.ldc 60, 2, 0, 0, -1000001) := rfl
theorem r73_25 : Rn 73 (25, [x0, x1, x2, x3], st, a, h) = Rn 73 (27, [x0, x1, x2, x3], .int (-1000001 : Int32) :: st, a, h) := Rn_go c73_25 rfl
theorem c73_27 : mcode 73 27 = some (.invokevirtual 61, 3, 105, 1, 5) := rfl
theorem r73_27 : Rn 73 (27, [x0, x1, x2, x3], [v0, .ref q], a, h) = if mis h q 5 = true then Bk 73 30 [x0, x1, x2, x3] [] (Ec 105 [.ref q, v0] a h) else none := Rn_call1 c73_27 rfl (Nat.le_of_ble_eq_true rfl) rfl rfl (Nat.le_of_ble_eq_true rfl)
theorem c73_30 : mcode 73 30 = some (.ireturn, 1, 0, 0, 0) := rfl
theorem r73_30 : Rn 73 (30, [x0, x1, x2, x3], [.int i], a, h) = some (some (.int i), a, h) := Rn_ireti c73_30
theorem c73_31 : mcode 73 31 = some (.aload_n 0, 1, 0, 0, 0) := rfl
theorem r73_31 : Rn 73 (31, [some (.ref q), x1, x2, x3], st, a, h) = Rn 73 (32, [some (.ref q), x1, x2, x3], .ref q :: st, a, h) := Rn_go c73_31 rfl
theorem c73_32 : mcode 73 32 = some (.invokevirtual 143, 3, 114, 0, 5) := rfl
theorem r73_32 : Rn 73 (32, [x0, x1, x2, x3], [.ref q], a, h) = if mis h q 5 = true then Bk 73 35 [x0, x1, x2, x3] [] (Ec 114 [.ref q] a h) else none := Rn_call1 c73_32 rfl (Nat.le_of_ble_eq_true rfl) rfl rfl (Nat.le_of_ble_eq_true rfl)
theorem c73_35 : mcode 73 35 = some (.aload_n 0, 1, 0, 0, 0) := rfl
theorem r73_35 : Rn 73 (35, [some (.ref q), x1, x2, x3], st, a, h) = Rn 73 (36, [some (.ref q), x1, x2, x3], .ref q :: st, a, h) := Rn_go c73_35 rfl
theorem c73_36 : mcode 73 36 = some (.getfield 16, 3, 5, 1, 0) := rfl
theorem r73_36 : Rn 73 (36, [x0, x1, x2, x3], .ref q :: st, a, h) = Kv 73 39 [x0, x1, x2, x3] st a h (mgf h q 5 1) := Rn_getf c73_36 rfl
theorem c73_39 : mcode 73 39 = some (.iload_n 3, 1, 0, 0, 0) := rfl
theorem r73_39 : Rn 73 (39, [x0, x1, x2, some (.int i)], st, a, h) = Rn 73 (40, [x0, x1, x2, some (.int i)], .int i :: st, a, h) := Rn_go c73_39 rfl
theorem c73_40 : mcode 73 40 = some (.invokevirtual 126, 3, 53, 1, 4) := rfl
theorem r73_40 : Rn 73 (40, [x0, x1, x2, x3], [v0, .ref q], a, h) = if mis h q 4 = true then Bk 73 43 [x0, x1, x2, x3] [] (Ec 53 [.ref q, v0] a h) else none := Rn_call1 c73_40 rfl (Nat.le_of_ble_eq_true rfl) rfl rfl (Nat.le_of_ble_eq_true rfl)
theorem c73_43 : mcode 73 43 = some (.aload_n 0, 1, 0, 0, 0) := rfl
theorem r73_43 : Rn 73 (43, [some (.ref q), x1, x2, x3], st, a, h) = Rn 73 (44, [some (.ref q), x1, x2, x3], .ref q :: st, a, h) := Rn_go c73_43 rfl
theorem c73_44 : mcode 73 44 = some (.getfield 16, 3, 5, 1, 0) := rfl
theorem r73_44 : Rn 73 (44, [x0, x1, x2, x3], .ref q :: st, a, h) = Kv 73 47 [x0, x1, x2, x3] st a h (mgf h q 5 1) := Rn_getf c73_44 rfl
theorem c73_47 : mcode 73 47 = some (.iload_n 1, 1, 0, 0, 0) := rfl
theorem r73_47 : Rn 73 (47, [x0, some (.int i), x2, x3], st, a, h) = Rn 73 (48, [x0, some (.int i), x2, x3], .int i :: st, a, h) := Rn_go c73_47 rfl
theorem c73_48 : mcode 73 48 = some (.iload_n 2, 1, 0, 0, 0) := rfl
theorem r73_48 : Rn 73 (48, [x0, x1, some (.int i), x3], st, a, h) = Rn 73 (49, [x0, x1, some (.int i), x3], .int i :: st, a, h) := Rn_go c73_48 rfl
theorem c73_49 : mcode 73 49 = some (.invokevirtual 65, 3, 41, 2, 4) := rfl
theorem r73_49 : Rn 73 (49, [x0, x1, x2, x3], [v1, v0, .ref q], a, h) = if mis h q 4 = true then Bk 73 52 [x0, x1, x2, x3] [] (Ec 41 [.ref q, v0, v1] a h) else none := Rn_call1 c73_49 rfl (Nat.le_of_ble_eq_true rfl) rfl rfl (Nat.le_of_ble_eq_true rfl)
theorem c73_52 : mcode 73 52 = some (.ireturn, 1, 0, 0, 0) := rfl
theorem r73_52 : Rn 73 (52, [x0, x1, x2, x3], [.int i], a, h) = some (some (.int i), a, h) := Rn_ireti c73_52
theorem c74_0 : mcode 74 0 = some (.aload_n 0, 1, 0, 0, 0) := rfl
theorem r74_0 : Rn 74 (0, [some (.ref q), x1, x2, x3], st, a, h) = Rn 74 (1, [some (.ref q), x1, x2, x3], .ref q :: st, a, h) := Rn_go c74_0 rfl
theorem c74_1 : mcode 74 1 = some (.getfield 12, 3, 5, 0, 0) := rfl
theorem r74_1 : Rn 74 (1, [x0, x1, x2, x3], .ref q :: st, a, h) = Kv 74 4 [x0, x1, x2, x3] st a h (mgf h q 5 0) := Rn_getf c74_1 rfl
theorem c74_4 : mcode 74 4 = some (.iload_n 1, 1, 0, 0, 0) := rfl
theorem r74_4 : Rn 74 (4, [x0, some (.int i), x2, x3], st, a, h) = Rn 74 (5, [x0, some (.int i), x2, x3], .int i :: st, a, h) := Rn_go c74_4 rfl
theorem c74_5 : mcode 74 5 = some (.invokevirtual 109, 3, 36, 1, 4) := rfl
theorem r74_5 : Rn 74 (5, [x0, x1, x2, x3], [v0, .ref q], a, h) = if mis h q 4 = true then Bk 74 8 [x0, x1, x2, x3] [] (Ec 36 [.ref q, v0] a h) else none := Rn_call1 c74_5 rfl (Nat.le_of_ble_eq_true rfl) rfl rfl (Nat.le_of_ble_eq_true rfl)
theorem c74_8 : mcode 74 8 = some (.ifCond .ne 10, 3, 0, 0, 0) := rfl
theorem r74_8 : Rn 74 (8, [x0, x1, x2, x3], .int i :: st, a, h) = if i = 0 then Rn 74 (11, [x0, x1, x2, x3], st, a, h) else Rn 74 (18, [x0, x1, x2, x3], st, a, h) := Rn_ifcn c74_8 mc_ne rfl rfl
theorem c74_11 : mcode 74 11 = some (.aload_n 0, 1, 0, 0, 0) := rfl
theorem r74_11 : Rn 74 (11, [some (.ref q), x1, x2, x3], st, a, h) = Rn 74 (12, [some (.ref q), x1, x2, x3], .ref q :: st, a, h) := Rn_go c74_11 rfl
theorem c74_12 : mcode 74 12 = some (.ldc 60, 2, 0, 0, -1000001) := rfl
theorem r74_12 : Rn 74 (12, [x0, x1, x2, x3], st, a, h) = Rn 74 (14, [x0, x1, x2, x3], .int (-1000001 : Int32) :: st, a, h) := Rn_go c74_12 rfl
theorem c74_14 : mcode 74 14 = some (.invokevirtual 61, 3, 105, 1, 5) := rfl
theorem r74_14 : Rn 74 (14, [x0, x1, x2, x3], [v0, .ref q], a, h) = if mis h q 5 = true then Bk 74 17 [x0, x1, x2, x3] [] (Ec 105 [.ref q, v0] a h) else none := Rn_call1 c74_14 rfl (Nat.le_of_ble_eq_true rfl) rfl rfl (Nat.le_of_ble_eq_true rfl)
theorem c74_17 : mcode 74 17 = some (.ireturn, 1, 0, 0, 0) := rfl
theorem r74_17 : Rn 74 (17, [x0, x1, x2, x3], [.int i], a, h) = some (some (.int i), a, h) := Rn_ireti c74_17
theorem c74_18 : mcode 74 18 = some (.aload_n 0, 1, 0, 0, 0) := rfl
theorem r74_18 : Rn 74 (18, [some (.ref q), x1, x2, x3], st, a, h) = Rn 74 (19, [some (.ref q), x1, x2, x3], .ref q :: st, a, h) := Rn_go c74_18 rfl
theorem c74_19 : mcode 74 19 = some (.getfield 12, 3, 5, 0, 0) := rfl
theorem r74_19 : Rn 74 (19, [x0, x1, x2, x3], .ref q :: st, a, h) = Kv 74 22 [x0, x1, x2, x3] st a h (mgf h q 5 0) := Rn_getf c74_19 rfl
theorem c74_22 : mcode 74 22 = some (.iload_n 1, 1, 0, 0, 0) := rfl
theorem r74_22 : Rn 74 (22, [x0, some (.int i), x2, x3], st, a, h) = Rn 74 (23, [x0, some (.int i), x2, x3], .int i :: st, a, h) := Rn_go c74_22 rfl
theorem c74_23 : mcode 74 23 = some (.iconst 5, 1, 0, 0, 0) := rfl
theorem r74_23 : Rn 74 (23, [x0, x1, x2, x3], st, a, h) = Rn 74 (24, [x0, x1, x2, x3], .int (5 : Int32) :: st, a, h) := Rn_go c74_23 rfl
theorem c74_24 : mcode 74 24 = some (.invokevirtual 112, 3, 39, 2, 4) := rfl
theorem r74_24 : Rn 74 (24, [x0, x1, x2, x3], [v1, v0, .ref q], a, h) = if mis h q 4 = true then Bk 74 27 [x0, x1, x2, x3] [] (Ec 39 [.ref q, v0, v1] a h) else none := Rn_call1 c74_24 rfl (Nat.le_of_ble_eq_true rfl) rfl rfl (Nat.le_of_ble_eq_true rfl)
theorem c74_27 : mcode 74 27 = some (.istore_n 2, 1, 0, 0, 0) := rfl
theorem r74_27 : Rn 74 (27, [x0, x1, x2, x3], .int i :: st, a, h) = Nl x1 (Rn 74 (28, [x0, x1, some (.int i), x3], st, a, h)) := Rn_st1 (k := 2) (v := .int i) x1 c74_27 rfl rfl rfl rfl
theorem c74_28 : mcode 74 28 = some (.aload_n 0, 1, 0, 0, 0) := rfl
theorem r74_28 : Rn 74 (28, [some (.ref q), x1, x2, x3], st, a, h) = Rn 74 (29, [some (.ref q), x1, x2, x3], .ref q :: st, a, h) := Rn_go c74_28 rfl
theorem c74_29 : mcode 74 29 = some (.invokevirtual 143, 3, 114, 0, 5) := rfl
theorem r74_29 : Rn 74 (29, [x0, x1, x2, x3], [.ref q], a, h) = if mis h q 5 = true then Bk 74 32 [x0, x1, x2, x3] [] (Ec 114 [.ref q] a h) else none := Rn_call1 c74_29 rfl (Nat.le_of_ble_eq_true rfl) rfl rfl (Nat.le_of_ble_eq_true rfl)
theorem c74_32 : mcode 74 32 = some (.iconst 1, 1, 0, 0, 0) := rfl
theorem r74_32 : Rn 74 (32, [x0, x1, x2, x3], st, a, h) = Rn 74 (33, [x0, x1, x2, x3], .int (1 : Int32) :: st, a, h) := Rn_go c74_32 rfl
theorem c74_33 : mcode 74 33 = some (.istore_n 3, 1, 0, 0, 0) := rfl
theorem r74_33 : Rn 74 (33, [x0, x1, x2, x3], .int i :: st, a, h) = Nl x2 (Rn 74 (34, [x0, x1, x2, some (.int i)], st, a, h)) := Rn_st1 (k := 3) (v := .int i) x2 c74_33 rfl rfl rfl rfl
theorem c74_34 : mcode 74 34 = some (.iload_n 3, 1, 0, 0, 0) := rfl
theorem r74_34 : Rn 74 (34, [x0, x1, x2, some (.int i)], st, a, h) = Rn 74 (35, [x0, x1, x2, some (.int i)], .int i :: st, a, h) := Rn_go c74_34 rfl
theorem c74_35 : mcode 74 35 = some (.sipush 200, 3, 0, 0, 0) := rfl
theorem r74_35 : Rn 74 (35, [x0, x1, x2, x3], st, a, h) = Rn 74 (38, [x0, x1, x2, x3], .int (200 : Int32) :: st, a, h) := Rn_go c74_35 rfl
theorem c74_38 : mcode 74 38 = some (.if_icmp .gt 32, 3, 0, 0, 0) := rfl
theorem r74_38 : Rn 74 (38, [x0, x1, x2, x3], .int j :: .int i :: st, a, h) = if j < i then Rn 74 (70, [x0, x1, x2, x3], st, a, h) else Rn 74 (41, [x0, x1, x2, x3], st, a, h) := Rn_icmp c74_38 mc_gt rfl rfl
theorem c74_41 : mcode 74 41 = some (.aload_n 0, 1, 0, 0, 0) := rfl
theorem r74_41 : Rn 74 (41, [some (.ref q), x1, x2, x3], st, a, h) = Rn 74 (42, [some (.ref q), x1, x2, x3], .ref q :: st, a, h) := Rn_go c74_41 rfl
theorem c74_42 : mcode 74 42 = some (.getfield 16, 3, 5, 1, 0) := rfl
theorem r74_42 : Rn 74 (42, [x0, x1, x2, x3], .ref q :: st, a, h) = Kv 74 45 [x0, x1, x2, x3] st a h (mgf h q 5 1) := Rn_getf c74_42 rfl
theorem c74_45 : mcode 74 45 = some (.iconst 1, 1, 0, 0, 0) := rfl
theorem r74_45 : Rn 74 (45, [x0, x1, x2, x3], st, a, h) = Rn 74 (46, [x0, x1, x2, x3], .int (1 : Int32) :: st, a, h) := Rn_go c74_45 rfl
theorem c74_46 : mcode 74 46 = some (.invokevirtual 126, 3, 53, 1, 4) := rfl
theorem r74_46 : Rn 74 (46, [x0, x1, x2, x3], [v0, .ref q], a, h) = if mis h q 4 = true then Bk 74 49 [x0, x1, x2, x3] [] (Ec 53 [.ref q, v0] a h) else none := Rn_call1 c74_46 rfl (Nat.le_of_ble_eq_true rfl) rfl rfl (Nat.le_of_ble_eq_true rfl)
theorem c74_49 : mcode 74 49 = some (.aload_n 0, 1, 0, 0, 0) := rfl
theorem r74_49 : Rn 74 (49, [some (.ref q), x1, x2, x3], st, a, h) = Rn 74 (50, [some (.ref q), x1, x2, x3], .ref q :: st, a, h) := Rn_go c74_49 rfl
theorem c74_50 : mcode 74 50 = some (.getfield 16, 3, 5, 1, 0) := rfl
theorem r74_50 : Rn 74 (50, [x0, x1, x2, x3], .ref q :: st, a, h) = Kv 74 53 [x0, x1, x2, x3] st a h (mgf h q 5 1) := Rn_getf c74_50 rfl
theorem c74_53 : mcode 74 53 = some (.iload_n 1, 1, 0, 0, 0) := rfl
theorem r74_53 : Rn 74 (53, [x0, some (.int i), x2, x3], st, a, h) = Rn 74 (54, [x0, some (.int i), x2, x3], .int i :: st, a, h) := Rn_go c74_53 rfl
theorem c74_54 : mcode 74 54 = some (.iconst 5, 1, 0, 0, 0) := rfl
theorem r74_54 : Rn 74 (54, [x0, x1, x2, x3], st, a, h) = Rn 74 (55, [x0, x1, x2, x3], .int (5 : Int32) :: st, a, h) := Rn_go c74_54 rfl
theorem c74_55 : mcode 74 55 = some (.invokevirtual 112, 3, 39, 2, 4) := rfl
theorem r74_55 : Rn 74 (55, [x0, x1, x2, x3], [v1, v0, .ref q], a, h) = if mis h q 4 = true then Bk 74 58 [x0, x1, x2, x3] [] (Ec 39 [.ref q, v0, v1] a h) else none := Rn_call1 c74_55 rfl (Nat.le_of_ble_eq_true rfl) rfl rfl (Nat.le_of_ble_eq_true rfl)
theorem c74_58 : mcode 74 58 = some (.iload_n 2, 1, 0, 0, 0) := rfl
theorem r74_58 : Rn 74 (58, [x0, x1, some (.int i), x3], st, a, h) = Rn 74 (59, [x0, x1, some (.int i), x3], .int i :: st, a, h) := Rn_go c74_58 rfl
theorem c74_59 : mcode 74 59 = some (.if_icmp .le 5, 3, 0, 0, 0) := rfl
theorem r74_59 : Rn 74 (59, [x0, x1, x2, x3], .int j :: .int i :: st, a, h) = if j < i then Rn 74 (62, [x0, x1, x2, x3], st, a, h) else Rn 74 (64, [x0, x1, x2, x3], st, a, h) := Rn_icmpn c74_59 mc_le rfl rfl
theorem c74_62 : mcode 74 62 = some (.iload_n 3, 1, 0, 0, 0) := rfl
theorem r74_62 : Rn 74 (62, [x0, x1, x2, some (.int i)], st, a, h) = Rn 74 (63, [x0, x1, x2, some (.int i)], .int i :: st, a, h) := Rn_go c74_62 rfl
theorem c74_63 : mcode 74 63 = some (.ireturn, 1, 0, 0, 0) := rfl
theorem r74_63 : Rn 74 (63, [x0, x1, x2, x3], [.int i], a, h) = some (some (.int i), a, h) := Rn_ireti c74_63
theorem c74_64 : mcode 74 64 = some (.iinc 3 1, 3, 0, 0, 0) := rfl
theorem r74_64 : Rn 74 (64, [x0, x1, x2, some (.int i)], st, a, h) = Nl x2 (Rn 74 (67, [x0, x1, x2, some (.int (i + (1 : Int32)))], st, a, h)) := Rn_st1 (k := 3) (v := .int (i + (1 : Int32))) x2 c74_64 rfl rfl rfl rfl
theorem c74_67 : mcode 74 67 = some (.goto (-33), 3, 0, 0, 0) := rfl
theorem r74_67 : Rn 74 (67, [x0, x1, x2, x3], st, a, h) = Rn 74 (34, [x0, x1, x2, x3], st, a, h) := Rn_goto c74_67 rfl
theorem c74_70 : mcode 74 70 = some (.aload_n 0, 1, 0, 0, 0) := rfl
theorem r74_70 : Rn 74 (70, [some (.ref q), x1, x2, x3], st, a, h) = Rn 74 (71, [some (.ref q), x1, x2, x3], .ref q :: st, a, h) := Rn_go c74_70 rfl
theorem c74_71 : mcode 74 71 = some (.ldc 146, 2, 0, 0, -1000004) := rfl
theorem r74_71 : Rn 74 (71, [x0, x1, x2, x3], st, a, h) = Rn 74 (73, [x0, x1, x2, x3], .int (-1000004 : Int32) :: st, a, h) := Rn_go c74_71 rfl
theorem c74_73 : mcode 74 73 = some (.invokevirtual 61, 3, 105, 1, 5) := rfl
theorem r74_73 : Rn 74 (73, [x0, x1, x2, x3], [v0, .ref q], a, h) = if mis h q 5 = true then Bk 74 76 [x0, x1, x2, x3] [] (Ec 105 [.ref q, v0] a h) else none := Rn_call1 c74_73 rfl (Nat.le_of_ble_eq_true rfl) rfl rfl (Nat.le_of_ble_eq_true rfl)
theorem c74_76 : mcode 74 76 = some (.ireturn, 1, 0, 0, 0) := rfl
theorem r74_76 : Rn 74 (76, [x0, x1, x2, x3], [.int i], a, h) = some (some (.int i), a, h) := Rn_ireti c74_76
theorem c75_0 : mcode 75 0 = some (.aload_n 0, 1, 0, 0, 0) := rfl
theorem r75_0 : Rn 75 (0, [some (.ref q), x1, x2, x3], st, a, h) = Rn 75 (1, [some (.ref q), x1, x2, x3], .ref q :: st, a, h) := Rn_go c75_0 rfl
theorem c75_1 : mcode 75 1 = some (.getfield 12, 3, 5, 0, 0) := rfl
theorem r75_1 : Rn 75 (1, [x0, x1, x2, x3], .ref q :: st, a, h) = Kv 75 4 [x0, x1, x2, x3] st a h (mgf h q 5 0) := Rn_getf c75_1 rfl
theorem c75_4 : mcode 75 4 = some (.iload_n 1, 1, 0, 0, 0) := rfl
theorem r75_4 : Rn 75 (4, [x0, some (.int i), x2, x3], st, a, h) = Rn 75 (5, [x0, some (.int i), x2, x3], .int i :: st, a, h) := Rn_go c75_4 rfl
theorem c75_5 : mcode 75 5 = some (.invokevirtual 109, 3, 36, 1, 4) := rfl
theorem r75_5 : Rn 75 (5, [x0, x1, x2, x3], [v0, .ref q], a, h) = if mis h q 4 = true then Bk 75 8 [x0, x1, x2, x3] [] (Ec 36 [.ref q, v0] a h) else none := Rn_call1 c75_5 rfl (Nat.le_of_ble_eq_true rfl) rfl rfl (Nat.le_of_ble_eq_true rfl)
theorem c75_8 : mcode 75 8 = some (.ifCond .eq 10, 3, 0, 0, 0) := rfl
theorem r75_8 : Rn 75 (8, [x0, x1, x2, x3], .int i :: st, a, h) = if i = 0 then Rn 75 (18, [x0, x1, x2, x3], st, a, h) else Rn 75 (11, [x0, x1, x2, x3], st, a, h) := Rn_ifc c75_8 mc_eq rfl rfl
theorem c75_11 : mcode 75 11 = some (.iload_n 2, 1, 0, 0, 0) := rfl
theorem r75_11 : Rn 75 (11, [x0, x1, some (.int i), x3], st, a, h) = Rn 75 (12, [x0, x1, some (.int i), x3], .int i :: st, a, h) := Rn_go c75_11 rfl
theorem c75_12 : mcode 75 12 = some (.invokestatic 53, 3, 108, 1, 0) := rfl
theorem r75_12 : Rn 75 (12, [x0, x1, x2, x3], [v0], a, h) = Bk 75 15 [x0, x1, x2, x3] [] (Ec 108 [v0] a h) := Rn_call0 c75_12 (fun z => nomatch z) rfl (Nat.le_of_ble_eq_true rfl) rfl rfl (Nat.le_of_ble_eq_true rfl)
theorem c75_15 : mcode 75 15 = some (.ifCond .ne 10, 3, 0, 0, 0) := rfl
theorem r75_15 : Rn 75 (15, [x0, x1, x2, x3], .int i :: st, a, h) = if i = 0 then Rn 75 (18, [x0, x1, x2, x3], st, a, h) else Rn 75 (25, [x0, x1, x2, x3], st, a, h) := Rn_ifcn c75_15 mc_ne rfl rfl
theorem c75_18 : mcode 75 18 = some (.aload_n 0, 1, 0, 0, 0) := rfl
theorem r75_18 : Rn 75 (18, [some (.ref q), x1, x2, x3], st, a, h) = Rn 75 (19, [some (.ref q), x1, x2, x3], .ref q :: st, a, h) := Rn_go c75_18 rfl
theorem c75_19 : mcode 75 19 = some (.ldc 60, 2, 0, 0, -1000001) := rfl
theorem r75_19 : Rn 75 (19, [x0, x1, x2, x3], st, a, h) = Rn 75 (21, [x0, x1, x2, x3], .int (-1000001 : Int32) :: st, a, h) := Rn_go c75_19 rfl
theorem c75_21 : mcode 75 21 = some (.invokevirtual 61, 3, 105, 1, 5) := rfl
theorem r75_21 : Rn 75 (21, [x0, x1, x2, x3], [v0, .ref q], a, h) = if mis h q 5 = true then Bk 75 24 [x0, x1, x2, x3] [] (Ec 105 [.ref q, v0] a h) else none := Rn_call1 c75_21 rfl (Nat.le_of_ble_eq_true rfl) rfl rfl (Nat.le_of_ble_eq_true rfl)
theorem c75_24 : mcode 75 24 = some (.ireturn, 1, 0, 0, 0) := rfl
theorem r75_24 : Rn 75 (24, [x0, x1, x2, x3], [.int i], a, h) = some (some (.int i), a, h) := Rn_ireti c75_24
theorem c75_25 : mcode 75 25 = some (.aload_n 0, 1, 0, 0, 0) := rfl
theorem r75_25 : Rn 75 (25, [some (.ref q), x1, x2, x3], st, a, h) = Rn 75 (26, [some (.ref q), x1, x2, x3], .ref q :: st, a, h) := Rn_go c75_25 rfl
theorem c75_26 : mcode 75 26 = some (.invokevirtual 143, 3, 114, 0, 5) := rfl
theorem r75_26 : Rn 75 (26, [x0, x1, x2, x3], [.ref q], a, h) = if mis h q 5 = true then Bk 75 29 [x0, x1, x2, x3] [] (Ec 114 [.ref q] a h) else none := Rn_call1 c75_26 rfl (Nat.le_of_ble_eq_true rfl) rfl rfl (Nat.le_of_ble_eq_true rfl)
theorem c75_29 : mcode 75 29 = some (.iconst 0, 1, 0, 0, 0) := rfl
theorem r75_29 : Rn 75 (29, [x0, x1, x2, x3], st, a, h) = Rn 75 (30, [x0, x1, x2, x3], .int (0 : Int32) :: st, a, h) := Rn_go c75_29 rfl
theorem c75_30 : mcode 75 30 = some (.istore_n 3, 1, 0, 0, 0) := rfl
theorem r75_30 : Rn 75 (30, [x0, x1, x2, x3], .int i :: st, a, h) = Nl x2 (Rn 75 (31, [x0, x1, x2, some (.int i)], st, a, h)) := Rn_st1 (k := 3) (v := .int i) x2 c75_30 rfl rfl rfl rfl
theorem c75_31 : mcode 75 31 = some (.iload_n 3, 1, 0, 0, 0) := rfl
theorem r75_31 : Rn 75 (31, [x0, x1, x2, some (.int i)], st, a, h) = Rn 75 (32, [x0, x1, x2, some (.int i)], .int i :: st, a, h) := Rn_go c75_31 rfl
theorem c75_32 : mcode 75 32 = some (.sipush 200, 3, 0, 0, 0) := rfl
theorem r75_32 : Rn 75 (32, [x0, x1, x2, x3], st, a, h) = Rn 75 (35, [x0, x1, x2, x3], .int (200 : Int32) :: st, a, h) := Rn_go c75_32 rfl
theorem c75_35 : mcode 75 35 = some (.if_icmp .gt 32, 3, 0, 0, 0) := rfl
theorem r75_35 : Rn 75 (35, [x0, x1, x2, x3], .int j :: .int i :: st, a, h) = if j < i then Rn 75 (67, [x0, x1, x2, x3], st, a, h) else Rn 75 (38, [x0, x1, x2, x3], st, a, h) := Rn_icmp c75_35 mc_gt rfl rfl
theorem c75_38 : mcode 75 38 = some (.aload_n 0, 1, 0, 0, 0) := rfl
theorem r75_38 : Rn 75 (38, [some (.ref q), x1, x2, x3], st, a, h) = Rn 75 (39, [some (.ref q), x1, x2, x3], .ref q :: st, a, h) := Rn_go c75_38 rfl
theorem c75_39 : mcode 75 39 = some (.getfield 16, 3, 5, 1, 0) := rfl
theorem r75_39 : Rn 75 (39, [x0, x1, x2, x3], .ref q :: st, a, h) = Kv 75 42 [x0, x1, x2, x3] st a h (mgf h q 5 1) := Rn_getf c75_39 rfl
theorem c75_42 : mcode 75 42 = some (.iload_n 1, 1, 0, 0, 0) := rfl
theorem r75_42 : Rn 75 (42, [x0, some (.int i), x2, x3], st, a, h) = Rn 75 (43, [x0, some (.int i), x2, x3], .int i :: st, a, h) := Rn_go c75_42 rfl
theorem c75_43 : mcode 75 43 = some (.iconst 2, 1, 0, 0, 0) := rfl
theorem r75_43 : Rn 75 (43, [x0, x1, x2, x3], st, a, h) = Rn 75 (44, [x0, x1, x2, x3], .int (2 : Int32) :: st, a, h) := Rn_go c75_43 rfl
theorem c75_44 : mcode 75 44 = some (.invokevirtual 112, 3, 39, 2, 4) := rfl
theorem r75_44 : Rn 75 (44, [x0, x1, x2, x3], [v1, v0, .ref q], a, h) = if mis h q 4 = true then Bk 75 47 [x0, x1, x2, x3] [] (Ec 39 [.ref q, v0, v1] a h) else none := Rn_call1 c75_44 rfl (Nat.le_of_ble_eq_true rfl) rfl rfl (Nat.le_of_ble_eq_true rfl)
theorem c75_47 : mcode 75 47 = some (.iload_n 2, 1, 0, 0, 0) := rfl
theorem r75_47 : Rn 75 (47, [x0, x1, some (.int i), x3], st, a, h) = Rn 75 (48, [x0, x1, some (.int i), x3], .int i :: st, a, h) := Rn_go c75_47 rfl
theorem c75_48 : mcode 75 48 = some (.if_icmp .ne 5, 3, 0, 0, 0) := rfl
theorem r75_48 : Rn 75 (48, [x0, x1, x2, x3], .int j :: .int i :: st, a, h) = if i = j then Rn 75 (51, [x0, x1, x2, x3], st, a, h) else Rn 75 (53, [x0, x1, x2, x3], st, a, h) := Rn_icmpn c75_48 mc_ne rfl rfl
theorem c75_51 : mcode 75 51 = some (.iload_n 3, 1, 0, 0, 0) := rfl
theorem r75_51 : Rn 75 (51, [x0, x1, x2, some (.int i)], st, a, h) = Rn 75 (52, [x0, x1, x2, some (.int i)], .int i :: st, a, h) := Rn_go c75_51 rfl
theorem c75_52 : mcode 75 52 = some (.ireturn, 1, 0, 0, 0) := rfl
theorem r75_52 : Rn 75 (52, [x0, x1, x2, x3], [.int i], a, h) = some (some (.int i), a, h) := Rn_ireti c75_52
theorem c75_53 : mcode 75 53 = some (.aload_n 0, 1, 0, 0, 0) := rfl
theorem r75_53 : Rn 75 (53, [some (.ref q), x1, x2, x3], st, a, h) = Rn 75 (54, [some (.ref q), x1, x2, x3], .ref q :: st, a, h) := Rn_go c75_53 rfl
theorem c75_54 : mcode 75 54 = some (.getfield 16, 3, 5, 1, 0) := rfl
theorem r75_54 : Rn 75 (54, [x0, x1, x2, x3], .ref q :: st, a, h) = Kv 75 57 [x0, x1, x2, x3] st a h (mgf h q 5 1) := Rn_getf c75_54 rfl
theorem c75_57 : mcode 75 57 = some (.iconst 1, 1, 0, 0, 0) := rfl
theorem r75_57 : Rn 75 (57, [x0, x1, x2, x3], st, a, h) = Rn 75 (58, [x0, x1, x2, x3], .int (1 : Int32) :: st, a, h) := Rn_go c75_57 rfl
theorem c75_58 : mcode 75 58 = some (.invokevirtual 126, 3, 53, 1, 4) := rfl
theorem r75_58 : Rn 75 (58, [x0, x1, x2, x3], [v0, .ref q], a, h) = if mis h q 4 = true then Bk 75 61 [x0, x1, x2, x3] [] (Ec 53 [.ref q, v0] a h) else none := Rn_call1 c75_58 rfl (Nat.le_of_ble_eq_true rfl) rfl rfl (Nat.le_of_ble_eq_true rfl)
theorem c75_61 : mcode 75 61 = some (.iinc 3 1, 3, 0, 0, 0) := rfl
theorem r75_61 : Rn 75 (61, [x0, x1, x2, some (.int i)], st, a, h) = Nl x2 (Rn 75 (64, [x0, x1, x2, some (.int (i + (1 : Int32)))], st, a, h)) := Rn_st1 (k := 3) (v := .int (i + (1 : Int32))) x2 c75_61 rfl rfl rfl rfl
theorem c75_64 : mcode 75 64 = some (.goto (-33), 3, 0, 0, 0) := rfl
theorem r75_64 : Rn 75 (64, [x0, x1, x2, x3], st, a, h) = Rn 75 (31, [x0, x1, x2, x3], st, a, h) := Rn_goto c75_64 rfl
theorem c75_67 : mcode 75 67 = some (.aload_n 0, 1, 0, 0, 0) := rfl
theorem r75_67 : Rn 75 (67, [some (.ref q), x1, x2, x3], st, a, h) = Rn 75 (68, [some (.ref q), x1, x2, x3], .ref q :: st, a, h) := Rn_go c75_67 rfl
theorem c75_68 : mcode 75 68 = some (.ldc 146, 2, 0, 0, -1000004) := rfl
theorem r75_68 : Rn 75 (68, [x0, x1, x2, x3], st, a, h) = Rn 75 (70, [x0, x1, x2, x3], .int (-1000004 : Int32) :: st, a, h) := Rn_go c75_68 rfl
theorem c75_70 : mcode 75 70 = some (.invokevirtual 61, 3, 105, 1, 5) := rfl
theorem r75_70 : Rn 75 (70, [x0, x1, x2, x3], [v0, .ref q], a, h) = if mis h q 5 = true then Bk 75 73 [x0, x1, x2, x3] [] (Ec 105 [.ref q, v0] a h) else none := Rn_call1 c75_70 rfl (Nat.le_of_ble_eq_true rfl) rfl rfl (Nat.le_of_ble_eq_true rfl)
theorem c75_73 : mcode 75 73 = some (.ireturn, 1, 0, 0, 0) := rfl
theorem r75_73 : Rn 75 (73, [x0, x1, x2, x3], [.int i], a, h) = some (some (.int i), a, h) := Rn_ireti c75_73
theorem c76_0 : mcode 76 0 = some (.iload_n 1, 1, 0, 0, 0) := rfl
theorem r76_0 : Rn 76 (0, [x0, some (.int i), x2], st, a, h) = Rn 76 (1, [x0, some (.int i), x2], .int i :: st, a, h) := Rn_go c76_0 rfl
theorem c76_1 : mcode 76 1 = some (.invokestatic 49, 3, 107, 1, 0) := rfl
theorem r76_1 : Rn 76 (1, [x0, x1, x2], [v0], a, h) = Bk 76 4 [x0, x1, x2] [] (Ec 107 [v0] a h) := Rn_call0 c76_1 (fun z => nomatch z) rfl (Nat.le_of_ble_eq_true rfl) rfl rfl (Nat.le_of_ble_eq_true rfl)
theorem c76_4 : mcode 76 4 = some (.ifCond .ne 10, 3, 0, 0, 0) := rfl
theorem r76_4 : Rn 76 (4, [x0, x1, x2], .int i :: st, a, h) = if i = 0 then Rn 76 (7, [x0, x1, x2], st, a, h) else Rn 76 (14, [x0, x1, x2], st, a, h) := Rn_ifcn c76_4 mc_ne rfl rfl
theorem c76_7 : mcode 76 7 = some (.aload_n 0, 1, 0, 0, 0) := rfl
theorem r76_7 : Rn 76 (7, [some (.ref q), x1, x2], st, a, h) = Rn 76 (8, [some (.ref q), x1, x2], .ref q :: st, a, h) := Rn_go c76_7 rfl
theorem c76_8 : mcode 76 8 = some (.ldc 60, 2, 0, 0, -1000001) := rfl
theorem r76_8 : Rn 76 (8, [x0, x1, x2], st, a, h) = Rn 76 (10, [x0, x1, x2], .int (-1000001 : Int32) :: st, a, h) := Rn_go c76_8 rfl
theorem c76_10 : mcode 76 10 = some (.invokevirtual 61, 3, 105, 1, 5) := rfl
theorem r76_10 : Rn 76 (10, [x0, x1, x2], [v0, .ref q], a, h) = if mis h q 5 = true then Bk 76 13 [x0, x1, x2] [] (Ec 105 [.ref q, v0] a h) else none := Rn_call1 c76_10 rfl (Nat.le_of_ble_eq_true rfl) rfl rfl (Nat.le_of_ble_eq_true rfl)
theorem c76_13 : mcode 76 13 = some (.ireturn, 1, 0, 0, 0) := rfl
theorem r76_13 : Rn 76 (13, [x0, x1, x2], [.int i], a, h) = some (some (.int i), a, h) := Rn_ireti c76_13
theorem c76_14 : mcode 76 14 = some (.aload_n 0, 1, 0, 0, 0) := rfl
theorem r76_14 : Rn 76 (14, [some (.ref q), x1, x2], st, a, h) = Rn 76 (15, [some (.ref q), x1, x2], .ref q :: st, a, h) := Rn_go c76_14 rfl
theorem c76_15 : mcode 76 15 = some (.invokevirtual 143, 3, 114, 0, 5) := rfl
theorem r76_15 : Rn 76 (15, [x0, x1, x2], [.ref q], a, h) = if mis h q 5 = true then Bk 76 18 [x0, x1, x2] [] (Ec 114 [.ref q] a h) else none := Rn_call1 c76_15 rfl (Nat.le_of_ble_eq_true rfl) rfl rfl (Nat.le_of_ble_eq_true rfl)
theorem c76_18 : mcode 76 18 = some (.iconst 0, 1, 0, 0, 0) := rfl
theorem r76_18 : Rn 76 (18, [x0, x1, x2], st, a, h) = Rn 76 (19, [x0, x1, x2], .int (0 : Int32) :: st, a, h) := Rn_go c76_18 rfl
theorem c76_19 : mcode 76 19 = some (.istore_n 2, 1, 0, 0, 0) := rfl
theorem r76_19 : Rn 76 (19, [x0, x1, x2], .int i :: st, a, h) = Nl x1 (Rn 76 (20, [x0, x1, some (.int i)], st, a, h)) := Rn_st1 (k := 2) (v := .int i) x1 c76_19 rfl rfl rfl rfl
theorem c76_20 : mcode 76 20 = some (.iload_n 2, 1, 0, 0, 0) := rfl
theorem r76_20 : Rn 76 (20, [x0, x1, some (.int i)], st, a, h) = Rn 76 (21, [x0, x1, some (.int i)], .int i :: st, a, h) := Rn_go c76_20 rfl
theorem c76_21 : mcode 76 21 = some (.sipush 200, 3, 0, 0, 0) := rfl
theorem r76_21 : Rn 76 (21, [x0, x1, x2], st, a, h) = Rn 76 (24, [x0, x1, x2], .int (200 : Int32) :: st, a, h) := Rn_go c76_21 rfl
theorem c76_24 : mcode 76 24 = some (.if_icmp .gt 30, 3, 0, 0, 0) := rfl
theorem r76_24 : Rn 76 (24, [x0, x1, x2], .int j :: .int i :: st, a, h) = if j < i then Rn 76 (54, [x0, x1, x2], st, a, h) else Rn 76 (27, [x0, x1, x2], st, a, h) := Rn_icmp c76_24 mc_gt rfl rfl
theorem c76_27 : mcode 76 27 = some (.aload_n 0, 1, 0, 0, 0) := rfl
theorem r76_27 : Rn 76 (27, [some (.ref q), x1, x2], st, a, h) = Rn 76 (28, [some (.ref q), x1, x2], .ref q :: st, a, h) := Rn_go c76_27 rfl
theorem c76_28 : mcode 76 28 = some (.getfield 16, 3, 5, 1, 0) := rfl
theorem r76_28 : Rn 76 (28, [x0, x1, x2], .ref q :: st, a, h) = Kv 76 31 [x0, x1, x2] st a h (mgf h q 5 1) := Rn_getf c76_28 rfl
theorem c76_31 : mcode 76 31 = some (.iload_n 1, 1, 0, 0, 0) := rfl
theorem r76_31 : Rn 76 (31, [x0, some (.int i), x2], st, a, h) = Rn 76 (32, [x0, some (.int i), x2], .int i :: st, a, h) := Rn_go c76_31 rfl
theorem c76_32 : mcode 76 32 = some (.invokevirtual 147, 3, 45, 1, 4) := rfl
theorem r76_32 : Rn 76 (32, [x0, x1, x2], [v0, .ref q], a, h) = if mis h q 4 = true then Bk 76 35 [x0, x1, x2] [] (Ec 45 [.ref q, v0] a h) else none := Rn_call1 c76_32 rfl (Nat.le_of_ble_eq_true rfl) rfl rfl (Nat.le_of_ble_eq_true rfl)
theorem c76_35 : mcode 76 35 = some (.ifCond .ne 5, 3, 0, 0, 0) := rfl
theorem r76_35 : Rn 76 (35, [x0, x1, x2], .int i :: st, a, h) = if i = 0 then Rn 76 (38, [x0, x1, x2], st, a, h) else Rn 76 (40, [x0, x1, x2], st, a, h) := Rn_ifcn c76_35 mc_ne rfl rfl
theorem c76_38 : mcode 76 38 = some (.iload_n 2, 1, 0, 0, 0) := rfl
theorem r76_38 : Rn 76 (38, [x0, x1, some (.int i)], st, a, h) = Rn 76 (39, [x0, x1, some (.int i)], .int i :: st, a, h) := Rn_go c76_38 rfl
theorem c76_39 : mcode 76 39 = some (.ireturn, 1, 0, 0, 0) := rfl
theorem r76_39 : Rn 76 (39, [x0, x1, x2], [.int i], a, h) = some (some (.int i), a, h) := Rn_ireti c76_39
theorem c76_40 : mcode 76 40 = some (.aload_n 0, 1, 0, 0, 0) := rfl
theorem r76_40 : Rn 76 (40, [some (.ref q), x1, x2], st, a, h) = Rn 76 (41, [some (.ref q), x1, x2], .ref q :: st, a, h) := Rn_go c76_40 rfl
theorem c76_41 : mcode 76 41 = some (.getfield 16, 3, 5, 1, 0) := rfl
theorem r76_41 : Rn 76 (41, [x0, x1, x2], .ref q :: st, a, h) = Kv 76 44 [x0, x1, x2] st a h (mgf h q 5 1) := Rn_getf c76_41 rfl
theorem c76_44 : mcode 76 44 = some (.iconst 1, 1, 0, 0, 0) := rfl
theorem r76_44 : Rn 76 (44, [x0, x1, x2], st, a, h) = Rn 76 (45, [x0, x1, x2], .int (1 : Int32) :: st, a, h) := Rn_go c76_44 rfl
theorem c76_45 : mcode 76 45 = some (.invokevirtual 126, 3, 53, 1, 4) := rfl
theorem r76_45 : Rn 76 (45, [x0, x1, x2], [v0, .ref q], a, h) = if mis h q 4 = true then Bk 76 48 [x0, x1, x2] [] (Ec 53 [.ref q, v0] a h) else none := Rn_call1 c76_45 rfl (Nat.le_of_ble_eq_true rfl) rfl rfl (Nat.le_of_ble_eq_true rfl)
theorem c76_48 : mcode 76 48 = some (.iinc 2 1, 3, 0, 0, 0) := rfl
theorem r76_48 : Rn 76 (48, [x0, x1, some (.int i)], st, a, h) = Nl x1 (Rn 76 (51, [x0, x1, some (.int (i + (1 : Int32)))], st, a, h)) := Rn_st1 (k := 2) (v := .int (i + (1 : Int32))) x1 c76_48 rfl rfl rfl rfl
theorem c76_51 : mcode 76 51 = some (.goto (-31), 3, 0, 0, 0) := rfl
theorem r76_51 : Rn 76 (51, [x0, x1, x2], st, a, h) = Rn 76 (20, [x0, x1, x2], st, a, h) := Rn_goto c76_51 rfl
theorem c76_54 : mcode 76 54 = some (.aload_n 0, 1, 0, 0, 0) := rfl
theorem r76_54 : Rn 76 (54, [some (.ref q), x1, x2], st, a, h) = Rn 76 (55, [some (.ref q), x1, x2], .ref q :: st, a, h) := Rn_go c76_54 rfl
theorem c76_55 : mcode 76 55 = some (.ldc 146, 2, 0, 0, -1000004) := rfl
theorem r76_55 : Rn 76 (55, [x0, x1, x2], st, a, h) = Rn 76 (57, [x0, x1, x2], .int (-1000004 : Int32) :: st, a, h) := Rn_go c76_55 rfl
theorem c76_57 : mcode 76 57 = some (.invokevirtual 61, 3, 105, 1, 5) := rfl
theorem r76_57 : Rn 76 (57, [x0, x1, x2], [v0, .ref q], a, h) = if mis h q 5 = true then Bk 76 60 [x0, x1, x2] [] (Ec 105 [.ref q, v0] a h) else none := Rn_call1 c76_57 rfl (Nat.le_of_ble_eq_true rfl) rfl rfl (Nat.le_of_ble_eq_true rfl)
theorem c76_60 : mcode 76 60 = some (.ireturn, 1, 0, 0, 0) := rfl
theorem r76_60 : Rn 76 (60, [x0, x1, x2], [.int i], a, h) = some (some (.int i), a, h) := Rn_ireti c76_60
theorem c77_0 : mcode 77 0 = some (.aload_n 0, 1, 0, 0, 0) := rfl
theorem r77_0 : Rn 77 (0, [some (.ref q), x1, x2, x3], st, a, h) = Rn 77 (1, [some (.ref q), x1, x2, x3], .ref q :: st, a, h) := Rn_go c77_0 rfl
theorem c77_1 : mcode 77 1 = some (.getfield 12, 3, 5, 0, 0) := rfl
theorem r77_1 : Rn 77 (1, [x0, x1, x2, x3], .ref q :: st, a, h) = Kv 77 4 [x0, x1, x2, x3] st a h (mgf h q 5 0) := Rn_getf c77_1 rfl
theorem c77_4 : mcode 77 4 = some (.iload_n 1, 1, 0, 0, 0) := rfl
theorem r77_4 : Rn 77 (4, [x0, some (.int i), x2, x3], st, a, h) = Rn 77 (5, [x0, some (.int i), x2, x3], .int i :: st, a, h) := Rn_go c77_4 rfl
theorem c77_5 : mcode 77 5 = some (.invokevirtual 109, 3, 36, 1, 4) := rfl
theorem r77_5 : Rn 77 (5, [x0, x1, x2, x3], [v0, .ref q], a, h) = if mis h q 4 = true then Bk 77 8 [x0, x1, x2, x3] [] (Ec 36 [.ref q, v0] a h) else none := Rn_call1 c77_5 rfl (Nat.le_of_ble_eq_true rfl) rfl rfl (Nat.le_of_ble_eq_true rfl)
theorem c77_8 : mcode 77 8 = some (.ifCond .eq 19, 3, 0, 0, 0) := rfl
theorem r77_8 : Rn 77 (8, [x0, x1, x2, x3], .int i :: st, a, h) = if i = 0 then Rn 77 (27, [x0, x1, x2, x3], st, a, h) else Rn 77 (11, [x0, x1, x2, x3], st, a, h) := Rn_ifc c77_8 mc_eq rfl rfl
theorem c77_11 : mcode 77 11 = some (.aload_n 0, 1, 0, 0, 0) := rfl
theorem r77_11 : Rn 77 (11, [some (.ref q), x1, x2, x3], st, a, h) = Rn 77 (12, [some (.ref q), x1, x2, x3], .ref q :: st, a, h) := Rn_go c77_11 rfl
theorem c77_12 : mcode 77 12 = some (.getfield 12, 3, 5, 0, 0) := rfl
theorem r77_12 : Rn 77 (12, [x0, x1, x2, x3], .ref q :: st, a, h) = Kv 77 15 [x0, x1, x2, x3] st a h (mgf h q 5 0) := Rn_getf c77_12 rfl
theorem c77_15 : mcode 77 15 = some (.iload_n 2, 1, 0, 0, 0) := rfl
theorem r77_15 : Rn 77 (15, [x0, x1, some (.int i), x3], st, a, h) = Rn 77 (16, [x0, x1, some (.int i), x3], .int i :: st, a, h) := Rn_go c77_15 rfl
theorem c77_16 : mcode 77 16 = some (.invokevirtual 109, 3, 36, 1, 4) := rfl
theorem r77_16 : Rn 77 (16, [x0, x1, x2, x3], [v0, .ref q], a, h) = if mis h q 4 = true then Bk 77 19 [x0, x1, x2, x3] [] (Ec 36 [.ref q, v0] a h) else none := Rn_call1 c77_16 rfl (Nat.le_of_ble_eq_true rfl) rfl rfl (Nat.le_of_ble_eq_true rfl)
theorem c77_19 : mcode 77 19 = some (.ifCond .eq 8, 3, 0, 0, 0) := rfl
theorem r77_19 : Rn 77 (19, [x0, x1, x2, x3], .int i :: st, a, h) = if i = 0 then Rn 77 (27, [x0, x1, x2, x3], st, a, h) else Rn 77 (22, [x0, x1, x2, x3], st, a, h) := Rn_ifc c77_19 mc_eq rfl rfl
theorem c77_22 : mcode 77 22 = some (.iload_n 1, 1, 0, 0, 0) := rfl
theorem r77_22 : Rn 77 (22, [x0, some (.int i), x2, x3], st, a, h) = Rn 77 (23, [x0, some (.int i), x2, x3], .int i :: st, a, h) := Rn_go c77_22 rfl
theorem c77_23 : mcode 77 23 = some (.iload_n 2, 1, 0, 0, 0) := rfl
theorem r77_23 : Rn 77 (23, [x0, x1, some (.int i), x3], st, a, h) = Rn 77 (24, [x0, x1, some (.int i), x3], .int i :: st, a, h) := Rn_go c77_23 rfl
theorem c77_24 : mcode 77 24 = some (.if_icmp .ne 10, 3, 0, 0, 0) := rfl
theorem r77_24 : Rn 77 (24, [x0, x1, x2, x3], .int j :: .int i :: st, a, h) = if i = j then Rn 77 (27, [x0, x1, x2, x3], st, a, h) else Rn 77 (34, [x0, x1, x2, x3], st, a, h) := Rn_icmpn c77_24 mc_ne rfl rfl
theorem c77_27 : mcode 77 27 = some (.aload_n 0, 1, 0, 0, 0) := rfl
theorem r77_27 : Rn 77 (27, [some (.ref q), x1, x2, x3], st, a, h) = Rn 77 (28, [some (.ref q), x1, x2, x3], .ref q :: st, a, h) := Rn_go c77_27 rfl
theorem c77_28 : mcode 77 28 = some (.ldc 60, 2, 0, 0, -1000001) := rfl
theorem r77_28 : Rn 77 (28, [x0, x1, x2, x3], st, a, h) = Rn 77 (30, [x0, x1, x2, x3], .int (-1000001 : Int32) :: st, a, h) := Rn_go c77_28 rfl
theorem c77_30 : mcode 77 30 = some (.invokevirtual 61, 3, 105, 1, 5) := rfl
theorem r77_30 : Rn 77 (30, [x0, x1, x2, x3], [v0, .ref q], a, h) = if mis h q 5 = true then Bk 77 33 [x0, x1, x2, x3] [] (Ec 105 [.ref q, v0] a h) else none := Rn_call1 c77_30 rfl (Nat.le_of_ble_eq_true rfl) rfl rfl (Nat.le_of_ble_eq_true rfl)
theorem c77_33 : mcode 77 33 = some (.ireturn, 1, 0, 0, 0) := rfl
theorem r77_33 : Rn 77 (33, [x0, x1, x2, x3], [.int i], a, h) = some (some (.int i), a, h) := Rn_ireti c77_33
theorem c77_34 : mcode 77 34 = some (.aload_n 0, 1, 0, 0, 0) := rfl
theorem r77_34 : Rn 77 (34, [some (.ref q), x1, x2, x3], st, a, h) = Rn 77 (35, [some (.ref q), x1, x2, x3], .ref q :: st, a, h) := Rn_go c77_34 rfl
theorem c77_35 : mcode 77 35 = some (.invokevirtual 143, 3, 114, 0, 5) := rfl
theorem r77_35 : Rn 77 (35, [x0, x1, x2, x3], [.ref q], a, h) = if mis h q 5 = true then Bk 77 38 [x0, x1, x2, x3] [] (Ec 114 [.ref q] a h) else none := Rn_call1 c77_35 rfl (Nat.le_of_ble_eq_true rfl) rfl rfl (Nat.le_of_ble_eq_true rfl)
theorem c77_38 : mcode 77 38 = some (.iconst 0, 1, 0, 0, 0) := rfl
theorem r77_38 : Rn 77 (38, [x0, x1, x2, x3], st, a, h) = Rn 77 (39, [x0, x1, x2, x3], .int (0 : Int32) :: st, a, h) := Rn_go c77_38 rfl
theorem c77_39 : mcode 77 39 = some (.istore_n 3, 1, 0, 0, 0) := rfl
theorem r77_39 : Rn 77 (39, [x0, x1, x2, x3], .int i :: st, a, h) = Nl x2 (Rn 77 (40, [x0, x1, x2, some (.int i)], st, a, h)) := Rn_st1 (k := 3) (v := .int i) x2 c77_39 rfl rfl rfl rfl
theorem c77_40 : mcode 77 40 = some (.iload_n 3, 1, 0, 0, 0) := rfl
theorem r77_40 : Rn 77 (40, [x0, x1, x2, some (.int i)], st, a, h) = Rn 77 (41, [x0, x1, x2, some (.int i)], .int i :: st, a, h) := Rn_go c77_40 rfl
theorem c77_41 : mcode 77 41 = some (.sipush 200, 3, 0, 0, 0) := rfl
theorem r77_41 : Rn 77 (41, [x0, x1, x2, x3], st, a, h) = Rn 77 (44, [x0, x1, x2, x3], .int (200 : Int32) :: st, a, h) := Rn_go c77_41 rfl
theorem c77_44 : mcode 77 44 = some (.if_icmp .gt 45, 3, 0, 0, 0) := rfl
theorem r77_44 : Rn 77 (44, [x0, x1, x2, x3], .int j :: .int i :: st, a, h) = if j < i then Rn 77 (89, [x0, x1, x2, x3], st, a, h) else Rn 77 (47, [x0, x1, x2, x3], st, a, h) := Rn_icmp c77_44 mc_gt rfl rfl
theorem c77_47 : mcode 77 47 = some (.aload_n 0, 1, 0, 0, 0) := rfl
theorem r77_47 : Rn 77 (47, [some (.ref q), x1, x2, x3], st, a, h) = Rn 77 (48, [some (.ref q), x1, x2, x3], .ref q :: st, a, h) := Rn_go c77_47 rfl
theorem c77_48 : mcode 77 48 = some (.getfield 16, 3, 5, 1, 0) := rfl
theorem r77_48 : Rn 77 (48, [x0, x1, x2, x3], .ref q :: st, a, h) = Kv 77 51 [x0, x1, x2, x3] st a h (mgf h q 5 1) := Rn_getf c77_48 rfl
theorem c77_51 : mcode 77 51 = some (.iload_n 1, 1, 0, 0, 0) := rfl
theorem r77_51 : Rn 77 (51, [x0, some (.int i), x2, x3], st, a, h) = Rn 77 (52, [x0, some (.int i), x2, x3], .int i :: st, a, h) := Rn_go c77_51 rfl
theorem c77_52 : mcode 77 52 = some (.iload_n 2, 1, 0, 0, 0) := rfl
theorem r77_52 : Rn 77 (52, [x0, x1, some (.int i), x3], st, a, h) = Rn 77 (53, [x0, x1, some (.int i), x3], .int i :: st, a, h) := Rn_go c77_52 rfl
theorem c77_53 : mcode 77 53 = some (.iconst 1, 1, 0, 0, 0) := rfl
theorem r77_53 : Rn 77 (53, [x0, x1, x2, x3], st, a, h) = Rn 77 (54, [x0, x1, x2, x3], .int (1 : Int32) :: st, a, h) := Rn_go c77_53 rfl
theorem c77_54 : mcode 77 54 = some (.invokevirtual 150, 3, 51, 3, 4) := rfl
theorem r77_54 : Rn 77 (54, [x0, x1, x2, x3], [v2, v1, v0, .ref q], a, h) = if mis h q 4 = true then Bk 77 57 [x0, x1, x2, x3] [] (Ec 51 [.ref q, v0, v1, v2] a h) else none := Rn_call1 c77_54 rfl (Nat.le_of_ble_eq_true rfl) rfl rfl (Nat.le_of_ble_eq_true rfl)
theorem c77_57 : mcode 77 57 = some (.ifCond .eq 18, 3, 0, 0, 0) := rfl
theorem r77_57 : Rn 77 (57, [x0, x1, x2, x3], .int i :: st, a, h) = if i = 0 then Rn 77 (75, [x0, x1, x2, x3], st, a, h) else Rn 77 (60, [x0, x1, x2, x3], st, a, h) := Rn_ifc c77_57 mc_eq rfl rfl
theorem c77_60 : mcode 77 60 = some (.aload_n 0, 1, 0, 0, 0) := rfl
theorem r77_60 : Rn 77 (60, [some (.ref q), x1, x2, x3], st, a, h) = Rn 77 (61, [some (.ref q), x1, x2, x3], .ref q :: st, a, h) := Rn_go c77_60 rfl
theorem c77_61 : mcode 77 61 = some (.getfield 16, 3, 5, 1, 0) := rfl
theorem r77_61 : Rn 77 (61, [x0, x1, x2, x3], .ref q :: st, a, h) = Kv 77 64 [x0, x1, x2, x3] st a h (mgf h q 5 1) := Rn_getf c77_61 rfl
theorem c77_64 : mcode 77 64 = some (.iload_n 1, 1, 0, 0, 0) := rfl
theorem r77_64 : Rn 77 (64, [x0, some (.int i), x2, x3], st, a, h) = Rn 77 (65, [x0, some (.int i), x2, x3], .int i :: st, a, h) := Rn_go c77_64 rfl
theorem c77_65 : mcode 77 65 = some (.iload_n 2, 1, 0, 0, 0) := rfl
theorem r77_65 : Rn 77 (65, [x0, x1, some (.int i), x3], st, a, h) = Rn 77 (66, [x0, x1, some (.int i), x3], .int i :: st, a, h) := Rn_go c77_65 rfl
theorem c77_66 : mcode 77 66 = some (.iconst 2, 1, 0, 0, 0) := rfl
theorem r77_66 : Rn 77 (66, [x0, x1, x2, x3], st, a, h) = Rn 77 (67, [x0, x1, x2, x3], .int (2 : Int32) :: st, a, h) := Rn_go c77_66 rfl
theorem c77_67 : mcode 77 67 = some (.invokevirtual 150, 3, 51, 3, 4) := rfl
theorem r77_67 : Rn 77 (67, [x0, x1, x2, x3], [v2, v1, v0, .ref q], a, h) = if mis h q 4 = true then Bk 77 70 [x0, x1, x2, x3] [] (Ec 51 [.ref q, v0, v1, v2] a h) else none := Rn_call1 c77_67 rfl (Nat.le_of_ble_eq_true rfl) rfl rfl (Nat.le_of_ble_eq_true rfl)
theorem c77_70 : mcode 77 70 = some (.ifCond .eq 5, 3, 0, 0, 0) := rfl
theorem r77_70 : Rn 77 (70, [x0, x1, x2, x3], .int i :: st, a, h) = if i = 0 then Rn 77 (75, [x0, x1, x2, x3], st, a, h) else Rn 77 (73, [x0, x1, x2, x3], st, a, h) := Rn_ifc c77_70 mc_eq rfl rfl
theorem c77_73 : mcode 77 73 = some (.iload_n 3, 1, 0, 0, 0) := rfl
theorem r77_73 : Rn 77 (73, [x0, x1, x2, some (.int i)], st, a, h) = Rn 77 (74, [x0, x1, x2, some (.int i)], .int i :: st, a, h) := Rn_go c77_73 rfl
theorem c77_74 : mcode 77 74 = some (.ireturn, 1, 0, 0, 0) := rfl
theorem r77_74 : Rn 77 (74, [x0, x1, x2, x3], [.int i], a, h) = some (some (.int i), a, h) := Rn_ireti c77_74
theorem c77_75 : mcode 77 75 = some (.aload_n 0, 1, 0, 0, 0) := rfl
theorem r77_75 : Rn 77 (75, [some (.ref q), x1, x2, x3], st, a, h) = Rn 77 (76, [some (.ref q), x1, x2, x3], .ref q :: st, a, h) := Rn_go c77_75 rfl
theorem c77_76 : mcode 77 76 = some (.getfield 16, 3, 5, 1, 0) := rfl
theorem r77_76 : Rn 77 (76, [x0, x1, x2, x3], .ref q :: st, a, h) = Kv 77 79 [x0, x1, x2, x3] st a h (mgf h q 5 1) := Rn_getf c77_76 rfl
theorem c77_79 : mcode 77 79 = some (.iconst 1, 1, 0, 0, 0) := rfl
theorem r77_79 : Rn 77 (79, [x0, x1, x2, x3], st, a, h) = Rn 77 (80, [x0, x1, x2, x3], .int (1 : Int32) :: st, a, h) := Rn_go c77_79 rfl
theorem c77_80 : mcode 77 80 = some (.invokevirtual 126, 3, 53, 1, 4) := rfl
theorem r77_80 : Rn 77 (80, [x0, x1, x2, x3], [v0, .ref q], a, h) = if mis h q 4 = true then Bk 77 83 [x0, x1, x2, x3] [] (Ec 53 [.ref q, v0] a h) else none := Rn_call1 c77_80 rfl (Nat.le_of_ble_eq_true rfl) rfl rfl (Nat.le_of_ble_eq_true rfl)
theorem c77_83 : mcode 77 83 = some (.iinc 3 1, 3, 0, 0, 0) := rfl
theorem r77_83 : Rn 77 (83, [x0, x1, x2, some (.int i)], st, a, h) = Nl x2 (Rn 77 (86, [x0, x1, x2, some (.int (i + (1 : Int32)))], st, a, h)) := Rn_st1 (k := 3) (v := .int (i + (1 : Int32))) x2 c77_83 rfl rfl rfl rfl
theorem c77_86 : mcode 77 86 = some (.goto (-46), 3, 0, 0, 0) := rfl
theorem r77_86 : Rn 77 (86, [x0, x1, x2, x3], st, a, h) = Rn 77 (40, [x0, x1, x2, x3], st, a, h) := Rn_goto c77_86 rfl
theorem c77_89 : mcode 77 89 = some (.aload_n 0, 1, 0, 0, 0) := rfl
theorem r77_89 : Rn 77 (89, [some (.ref q), x1, x2, x3], st, a, h) = Rn 77 (90, [some (.ref q), x1, x2, x3], .ref q :: st, a, h) := Rn_go c77_89 rfl
theorem c77_90 : mcode 77 90 = some (.ldc 146, 2, 0, 0, -1000004) := rfl
theorem r77_90 : Rn 77 (90, [x0, x1, x2, x3], st, a, h) = Rn 77 (92, [x0, x1, x2, x3], .int (-1000004 : Int32) :: st, a, h) := Rn_go c77_90 rfl
theorem c77_92 : mcode 77 92 = some (.invokevirtual 61, 3, 105, 1, 5) := rfl
theorem r77_92 : Rn 77 (92, [x0, x1, x2, x3], [v0, .ref q], a, h) = if mis h q 5 = true then Bk 77 95 [x0, x1, x2, x3] [] (Ec 105 [.ref q, v0] a h) else none := Rn_call1 c77_92 rfl (Nat.le_of_ble_eq_true rfl) rfl rfl (Nat.le_of_ble_eq_true rfl)
theorem c77_95 : mcode 77 95 = some (.ireturn, 1, 0, 0, 0) := rfl
theorem r77_95 : Rn 77 (95, [x0, x1, x2, x3], [.int i], a, h) = some (some (.int i), a, h) := Rn_ireti c77_95
theorem c78_0 : mcode 78 0 = some (.aload_n 0, 1, 0, 0, 0) := rfl
theorem r78_0 : Rn 78 (0, [some (.ref q), x1, x2, x3, x4, x5, x6, x7], st, a, h) = Rn 78 (1, [some (.ref q), x1, x2, x3, x4, x5, x6, x7], .ref q :: st, a, h) := Rn_go c78_0 rfl
theorem c78_1 : mcode 78 1 = some (.getfield 12, 3, 5, 0, 0) := rfl
theorem r78_1 : Rn 78 (1, [x0, x1, x2, x3, x4, x5, x6, x7], .ref q :: st, a, h) = Kv 78 4 [x0, x1, x2, x3, x4, x5, x6, x7] st a h (mgf h q 5 0) := Rn_getf c78_1 rfl
theorem c78_4 : mcode 78 4 = some (.iload_n 1, 1, 0, 0, 0) := rfl
theorem r78_4 : Rn 78 (4, [x0, some (.int i), x2, x3, x4, x5, x6, x7], st, a, h) = Rn 78 (5, [x0, some (.int i), x2, x3, x4, x5, x6, x7], .int i :: st, a, h) := Rn_go c78_4 rfl
theorem c78_5 : mcode 78 5 = some (.invokevirtual 109, 3, 36, 1, 4) := rfl
theorem r78_5 : Rn 78 (5, [x0, x1, x2, x3, x4, x5, x6, x7], [v0, .ref q], a, h) = if mis h q 4 = true then Bk 78 8 [x0, x1, x2, x3, x4, x5, x6, x7] [] (Ec 36 [.ref q, v0] a h) else none := Rn_call1 c78_5 rfl (Nat.le_of_ble_eq_true rfl) rfl rfl (Nat.le_of_ble_eq_true rfl)
theorem c78_8 : mcode 78 8 = some (.ifCond .eq 13, 3, 0, 0, 0) := rfl
theorem r78_8 : Rn 78 (8, [x0, x1, x2, x3, x4, x5, x6, x7], .int i :: st, a, h) = if i = 0 then Rn 78 (21, [x0, x1, x2, x3, x4, x5, x6, x7], st, a, h) else Rn 78 (11, [x0, x1, x2, x3, x4, x5, x6, x7], st, a, h) := Rn_ifc c78_8 mc_eq rfl rfl
theorem c78_11 : mcode 78 11 = some (.iload_n 2, 1, 0, 0, 0) := rfl
theorem r78_11 : Rn 78 (11, [x0, x1, some (.int i), x3, x4, x5, x6, x7], st, a, h) = Rn 78 (12, [x0, x1, some (.int i), x3, x4, x5, x6, x7], .int i :: st, a, h) := Rn_go c78_11 rfl
theorem c78_12 : mcode 78 12 = some (.iconst 0, 1, 0, 0, 0) := rfl
theorem r78_12 : Rn 78 (12, [x0, x1, x2, x3, x4, x5, x6, x7], st, a, h) = Rn 78 (13, [x0, x1, x2, x3, x4, x5, x6, x7], .int (0 : Int32) :: st, a, h) := Rn_go c78_12 rfl
theorem c78_13 : mcode 78 13 = some (.bipush 30, 2, 0, 0, 0) := rfl
theorem r78_13 : Rn 78 (13, [x0, x1, x2, x3, x4, x5, x6, x7], st, a, h) = Rn 78 (15, [x0, x1, x2, x3, x4, x5, x6, x7], .int (30 : Int32) :: st, a, h) := Rn_go c78_13 rfl
theorem c78_15 : mcode 78 15 = some (.invokestatic 56, 3, 106, 3, 0) := rfl
theorem r78_15 : Rn 78 (15, [x0, x1, x2, x3, x4, x5, x6, x7], [v2, v1, v0], a, h) = Bk 78 18 [x0, x1, x2, x3, x4, x5, x6, x7] [] (Ec 106 [v0, v1, v2] a h) := Rn_call0 c78_15 (fun z => nomatch z) rfl (Nat.le_of_ble_eq_true rfl) rfl rfl (Nat.le_of_ble_eq_true rfl)
theorem c78_18 : mcode 78 18 = some (.ifCond .ne 10, 3, 0, 0, 0) := rfl
theorem r78_18 : Rn 78 (18, [x0, x1, x2, x3, x4, x5, x6, x7], .int i :: st, a, h) = if i = 0 then Rn 78 (21, [x0, x1, x2, x3, x4, x5, x6, x7], st, a, h) else Rn 78 (28, [x0, x1, x2, x3, x4, x5, x6, x7], st, a, h) := Rn_ifcn c78_18 mc_ne rfl rfl
theorem c78_21 : mcode 78 21 = some (.aload_n 0, 1, 0, 0, 0) := rfl
theorem r78_21 : Rn 78 (21, [some (.ref q), x1, x2, x3, x4, x5, x6, x7], st, a, h) = Rn 78 (22, [some (.ref q), x1, x2, x3, x4, x5, x6, x7], .ref q :: st, a, h) := Rn_go c78_21 rfl
theorem c78_22 : mcode 78 22 = some (.ldc 60, 2, 0, 0, -1000001) := rfl
theorem r78_22 : Rn 78 (22, [x0, x1, x2, x3, x4, x5, x6, x7], st, a, h) = Rn 78 (24, [x0, x1, x2, x3, x4, x5, x6, x7], .int (-1000001 : Int32) :: st, a, h) := Rn_go c78_22 rfl
theorem c78_24 : mcode 78 24 = some (.invokevirtual 61, 3, 105, 1, 5) := rfl
theorem r78_24 : Rn 78 (24, [x0, x1, x2, x3, x4, x5, x6, x7], [v0, .ref q], a, h) = if mis h q 5 = true then Bk 78 27 [x0, x1, x2, x3, x4, x5, x6, x7] [] (Ec 105 [.ref q, v0] a h) else none := Rn_call1 c78_24 rfl (Nat.le_of_ble_eq_true rfl) rfl rfl (Nat.le_of_ble_eq_true rfl)
theorem c78_27 : mcode 78 27 = some (.ireturn, 1, 0, 0, 0) := rfl
theorem r78_27 : Rn 78 (27, [x0, x1, x2, x3, x4, x5, x6, x7], [.int i], a, h) = some (some (.int i), a, h) := Rn_ireti c78_27
theorem c78_28 : mcode 78 28 = some (.iconst (-1), 1, 0, 0, 0) := rfl
theorem r78_28 : Rn 78 (28, [x0, x1, x2, x3, x4, x5, x6, x7], st, a, h) = Rn 78 (29, [x0, x1, x2, x3, x4, x5, x6, x7], .int (-1 : Int32) :: st, a, h) := Rn_go c78_28 rfl
theorem c78_29 : mcode 78 29 = some (.istore_n 3, 1, 0, 0, 0) := rfl
theorem r78_29 : Rn 78 (29, [x0, x1, x2, x3, x4, x5, x6, x7], .int i :: st, a, h) = Nl x2 (Rn 78 (30, [x0, x1, x2, some (.int i), x4, x5, x6, x7], st, a, h)) := Rn_st1 (k := 3) (v := .int i) x2 c78_29 rfl rfl rfl rfl
theorem c78_30 : mcode 78 30 = some (.iconst (-1), 1, 0, 0, 0) := rfl
theorem r78_30 : Rn 78 (30, [x0, x1, x2, x3, x4, x5, x6, x7], st, a, h) = Rn 78 (31, [x0, x1, x2, x3, x4, x5, x6, x7], .int (-1 : Int32) :: st, a, h) := Rn_go c78_30 rfl
theorem c78_31 : mcode 78 31 = some (.istore 4, 2, 0, 0, 0) := rfl
theorem r78_31 : Rn 78 (31, [x0, x1, x2, x3, x4, x5, x6, x7], .int i :: st, a, h) = Nl x3 (Rn 78 (33, [x0, x1, x2, x3, some (.int i), x5, x6, x7], st, a, h)) := Rn_st1 (k := 4) (v := .int i) x3 c78_31 rfl rfl rfl rfl
theorem c78_33 : mcode 78 33 = some (.iconst 0, 1, 0, 0, 0) := rfl
theorem r78_33 : Rn 78 (33, [x0, x1, x2, x3, x4, x5, x6, x7], st, a, h) = Rn 78 (34, [x0, x1, x2, x3, x4, x5, x6, x7], .int (0 : Int32) :: st, a, h) := Rn_go c78_33 rfl
theorem c78_34 : mcode 78 34 = some (.istore 5, 2, 0, 0, 0) := rfl
theorem r78_34 : Rn 78 (34, [x0, x1, x2, x3, x4, x5, x6, x7], .int i :: st, a, h) = Nl x4 (Rn 78 (36, [x0, x1, x2, x3, x4, some (.int i), x6, x7], st, a, h)) := Rn_st1 (k := 5) (v := .int i) x4 c78_34 rfl rfl rfl rfl
theorem c78_36 : mcode 78 36 = some (.iload 5, 2, 0, 0, 0) := rfl
theorem r78_36 : Rn 78 (36, [x0, x1, x2, x3, x4, some (.int i), x6, x7], st, a, h) = Rn 78 (38, [x0, x1, x2, x3, x4, some (.int i), x6, x7], .int i :: st, a, h) := Rn_go c78_36 rfl
theorem c78_38 : mcode 78 38 = some (.bipush 8, 2, 0, 0, 0) := rfl
theorem r78_38 : Rn 78 (38, [x0, x1, x2, x3, x4, x5, x6, x7], st, a, h) = Rn 78 (40, [x0, x1, x2, x3, x4, x5, x6, x7], .int (8 : Int32) :: st, a, h) := Rn_go c78_38 rfl
theorem c78_40 : mcode 78 40 = some (.if_icmp .ge 82, 3, 0, 0, 0) := rfl
theorem r78_40 : Rn 78 (40, [x0, x1, x2, x3, x4, x5, x6, x7], .int j :: .int i :: st, a, h) = if i < j then Rn 78 (43, [x0, x1, x2, x3, x4, x5, x6, x7], st, a, h) else Rn 78 (122, [x0, x1, x2, x3, x4, x5, x6, x7], st, a, h) := Rn_icmpn c78_40 mc_ge rfl rfl
theorem c78_43 : mcode 78 43 = some (.iload 5, 2, 0, 0, 0) := rfl
theorem r78_43 : Rn 78 (43, [x0, x1, x2, x3, x4, some (.int i), x6, x7], st, a, h) = Rn 78 (45, [x0, x1, x2, x3, x4, some (.int i), x6, x7], .int i :: st, a, h) := Rn_go c78_43 rfl
theorem c78_45 : mcode 78 45 = some (.iconst 1, 1, 0, 0, 0) := rfl
theorem r78_45 : Rn 78 (45, [x0, x1, x2, x3, x4, x5, x6, x7], st, a, h) = Rn 78 (46, [x0, x1, x2, x3, x4, x5, x6, x7], .int (1 : Int32) :: st, a, h) := Rn_go c78_45 rfl
theorem c78_46 : mcode 78 46 = some (.iadd, 1, 0, 0, 0) := rfl
theorem r78_46 : Rn 78 (46, [x0, x1, x2, x3, x4, x5, x6, x7], .int j :: .int i :: st, a, h) = Rn 78 (47, [x0, x1, x2, x3, x4, x5, x6, x7], .int (i + j) :: st, a, h) := Rn_go c78_46 rfl
theorem c78_47 : mcode 78 47 = some (.istore 6, 2, 0, 0, 0) := rfl
theorem r78_47 : Rn 78 (47, [x0, x1, x2, x3, x4, x5, x6, x7], .int i :: st, a, h) = Nl x5 (Rn 78 (49, [x0, x1, x2, x3, x4, x5, some (.int i), x7], st, a, h)) := Rn_st1 (k := 6) (v := .int i) x5 c78_47 rfl rfl rfl rfl
theorem c78_49 : mcode 78 49 = some (.iload 6, 2, 0, 0, 0) := rfl
theorem r78_49 : Rn 78 (49, [x0, x1, x2, x3, x4, x5, some (.int i), x7], st, a, h) = Rn 78 (51, [x0, x1, x2, x3, x4, x5, some (.int i), x7], .int i :: st, a, h) := Rn_go c78_49 rfl
theorem c78_51 : mcode 78 51 = some (.bipush 8, 2, 0, 0, 0) := rfl
theorem r78_51 : Rn 78 (51, [x0, x1, x2, x3, x4, x5, x6, x7], st, a, h) = Rn 78 (53, [x0, x1, x2, x3, x4, x5, x6, x7], .int (8 : Int32) :: st, a, h) := Rn_go c78_51 rfl
theorem c78_53 : mcode 78 53 = some (.if_icmp .ge 63, 3, 0, 0, 0) := rfl
theorem r78_53 : Rn 78 (53, [x0, x1, x2, x3, x4, x5, x6, x7], .int j :: .int i :: st, a, h) = if i < j then Rn 78 (56, [x0, x1, x2, x3, x4, x5, x6, x7], st, a, h) else Rn 78 (116, [x0, x1, x2, x3, x4, x5, x6, x7], st, a, h) := Rn_icmpn c78_53 mc_ge rfl rfl
theorem c78_56 : mcode 78 56 = some (.aload_n 0, 1, 0, 0, 0) := rfl
theorem r78_56 : Rn 78 (56, [some (.ref q), x1, x2, x3, x4, x5, x6, x7], st, a, h) = Rn 78 (57, [some (.ref q), x1, x2, x3, x4, x5, x6, x7], .ref q :: st, a, h) := Rn_go c78_56 rfl
theorem c78_57 : mcode 78 57 = some (.invokevirtual 143, 3, 114, 0, 5) := rfl
theorem r78_57 : Rn 78 (57, [x0, x1, x2, x3, x4, x5, x6, x7], [.ref q], a, h) = if mis h q 5 = true then Bk 78 60 [x0, x1, x2, x3, x4, x5, x6, x7] [] (Ec 114 [.ref q] a h) else none := Rn_call1 c78_57 rfl (Nat.le_of_ble_eq_true rfl) rfl rfl (Nat.le_of_ble_eq_true rfl)
theorem c78_60 : mcode 78 60 = some (.aload_n 0, 1, 0, 0, 0) := rfl
theorem r78_60 : Rn 78 (60, [some (.ref q), x1, x2, x3, x4, x5, x6, x7], st, a, h) = Rn 78 (61, [some (.ref q), x1, x2, x3, x4, x5, x6, x7], .ref q :: st, a, h) := Rn_go c78_60 rfl
theorem c78_61 : mcode 78 61 = some (.getfield 16, 3, 5, 1, 0) := rfl
theorem r78_61 : Rn 78 (61, [x0, x1, x2, x3, x4, x5, x6, x7], .ref q :: st, a, h) = Kv 78 64 [x0, x1, x2, x3, x4, x5, x6, x7] st a h (mgf h q 5 1) := Rn_getf c78_61 rfl
theorem c78_64 : mcode 78 64 = some (.iload 5, 2, 0, 0, 0) := rfl
theorem r78_64 : Rn 78 (64, [x0, x1, x2, x3, x4, some (.int i), x6, x7], st, a, h) = Rn 78 (66, [x0, x1, x2, x3, x4, some (.int i), x6, x7], .int i :: st, a, h) := Rn_go c78_64 rfl
theorem c78_66 : mcode 78 66 = some (.iload 6, 2, 0, 0, 0) := rfl
theorem r78_66 : Rn 78 (66, [x0, x1, x2, x3, x4, x5, some (.int i), x7], st, a, h) = Rn 78 (68, [x0, x1, x2, x3, x4, x5, some (.int i), x7], .int i :: st, a, h) := Rn_go c78_66 rfl
theorem c78_68 : mcode 78 68 = some (.invokevirtual 86, 3, 52, 2, 4) := rfl
theorem r78_68 : Rn 78 (68, [x0, x1, x2, x3, x4, x5, x6, x7], [v1, v0, .ref q], a, h) = if mis h q 4 = true then Bk 78 71 [x0, x1, x2, x3, x4, x5, x6, x7] [] (Ec 52 [.ref q, v0, v1] a h) else none := Rn_call1 c78_68 rfl (Nat.le_of_ble_eq_true rfl) rfl rfl (Nat.le_of_ble_eq_true rfl)
theorem c78_71 : mcode 78 71 = some (.aload_n 0, 1, 0, 0, 0) := rfl
theorem r78_71 : Rn 78 (71, [some (.ref q), x1, x2, x3, x4, x5, x6, x7], st, a, h) = Rn 78 (72, [some (.ref q), x1, x2, x3, x4, x5, x6, x7], .ref q :: st, a, h) := Rn_go c78_71 rfl
theorem c78_72 : mcode 78 72 = some (.getfield 16, 3, 5, 1, 0) := rfl
theorem r78_72 : Rn 78 (72, [x0, x1, x2, x3, x4, x5, x6, x7], .ref q :: st, a, h) = Kv 78 75 [x0, x1, x2, x3, x4, x5, x6, x7] st a h (mgf h q 5 1) := Rn_getf c78_72 rfl
theorem c78_75 : mcode 78 75 = some (.iload_n 2, 1, 0, 0, 0) := rfl
theorem r78_75 : Rn 78 (75, [x0, x1, some (.int i), x3, x4, x5, x6, x7], st, a, h) = Rn 78 (76, [x0, x1, some (.int i), x3, x4, x5, x6, x7], .int i :: st, a, h) := Rn_go c78_75 rfl
theorem c78_76 : mcode 78 76 = some (.invokevirtual 126, 3, 53, 1, 4) := rfl
theorem r78_76 : Rn 78 (76, [x0, x1, x2, x3, x4, x5, x6, x7], [v0, .ref q], a, h) = if mis h q 4 = true then Bk 78 79 [x0, x1, x2, x3, x4, x5, x6, x7] [] (Ec 53 [.ref q, v0] a h) else none := Rn_call1 c78_76 rfl (Nat.le_of_ble_eq_true rfl) rfl rfl (Nat.le_of_ble_eq_true rfl)
theorem c78_79 : mcode 78 79 = some (.aload_n 0, 1, 0, 0, 0) := rfl
theorem r78_79 : Rn 78 (79, [some (.ref q), x1, x2, x3, x4, x5, x6, x7], st, a, h) = Rn 78 (80, [some (.ref q), x1, x2, x3, x4, x5, x6, x7], .ref q :: st, a, h) := Rn_go c78_79 rfl
theorem c78_80 : mcode 78 80 = some (.getfield 16, 3, 5, 1, 0) := rfl
theorem r78_80 : Rn 78 (80, [x0, x1, x2, x3, x4, x5, x6, x7], .ref q :: st, a, h) = Kv 78 83 [x0, x1, x2, x3, x4, x5, x6, x7] st a h (mgf h q 5 1) := Rn_getf c78_80 rfl
theorem c78_83 : mcode 78 83 = some (.iload_n 1, 1, 0, 0, 0) := rfl
theorem r78_83 : Rn 78 (83, [x0, some (.int i), x2, x3, x4, x5, x6, x7], st, a, h) = Rn 78 (84, [x0, some (.int i), x2, x3, x4, x5, x6, x7], .int i :: st, a, h) := Rn_go c78_83 rfl
theorem c78_84 : mcode 78 84 = some (.iconst 5, 1, 0, 0, 0) := rfl
theorem r78_84 : Rn 78 (84, [x0, x1, x2, x3, x4, x5, x6, x7], st, a, h) = Rn 78 (85, [x0, x1, x2, x3, x4, x5, x6, x7], .int (5 : Int32) :: st, a, h) := Rn_go c78_84 rfl
theorem c78_85 : mcode 78 85 = some (.invokevirtual 112, 3, 39, 2, 4) := rfl
theorem r78_85 : Rn 78 (85, [x0, x1, x2, x3, x4, x5, x6, x7], [v1, v0, .ref q], a, h) = if mis h q 4 = true then Bk 78 88 [x0, x1, x2, x3, x4, x5, x6, x7] [] (Ec 39 [.ref q, v0, v1] a h) else none := Rn_call1 c78_85 rfl (Nat.le_of_ble_eq_true rfl) rfl rfl (Nat.le_of_ble_eq_true rfl)
theorem c78_88 : mcode 78 88 = some (.istore 7, 2, 0, 0, 0) := rfl
theorem r78_88 : Rn 78 (88, [x0, x1, x2, x3, x4, x5, x6, x7], .int i :: st, a, h) = Nl x6 (Rn 78 (90, [x0, x1, x2, x3, x4, x5, x6, some (.int i)], st, a, h)) := Rn_st1 (k := 7) (v := .int i) x6 c78_88 rfl rfl rfl rfl
theorem c78_90 : mcode 78 90 = some (.iload 7, 2, 0, 0, 0) := rfl
theorem r78_90 : Rn 78 (90, [x0, x1, x2, x3, x4, x5, x6, some (.int i)], st, a, h) = Rn 78 (92, [x0, x1, x2, x3, x4, x5, x6, some (.int i)], .int i :: st, a, h) := Rn_go c78_90 rfl
theorem c78_92 : mcode 78 92 = some (.iload 4, 2, 0, 0, 0) := rfl
theorem r78_92 : Rn 78 (92, [x0, x1, x2, x3, some (.int i), x5, x6, x7], st, a, h) = Rn 78 (94, [x0, x1, x2, x3, some (.int i), x5, x6, x7], .int i :: st, a, h) := Rn_go c78_92 rfl
theorem c78_94 : mcode 78 94 = some (.if_icmp .le 16, 3, 0, 0, 0) := rfl
theorem r78_94 : Rn 78 (94, [x0, x1, x2, x3, x4, x5, x6, x7], .int j :: .int i :: st, a, h) = if j < i then Rn 78 (97, [x0, x1, x2, x3, x4, x5, x6, x7], st, a, h) else Rn 78 (110, [x0, x1, x2, x3, x4, x5, x6, x7], st, a, h) := Rn_icmpn c78_94 mc_le rfl rfl
theorem c78_97 : mcode 78 97 = some (.iload 7, 2, 0, 0, 0) := rfl
theorem r78_97 : Rn 78 (97, [x0, x1, x2, x3, x4, x5, x6, some (.int i)], st, a, h) = Rn 78 (99, [x0, x1, x2, x3, x4, x5, x6, some (.int i)], .int i :: st, a, h) := Rn_go c78_97 rfl
theorem c78_99 : mcode 78 99 = some (.istore 4, 2, 0, 0, 0) := rfl
theorem r78_99 : Rn 78 (99, [x0, x1, x2, x3, x4, x5, x6, x7], .int i :: st, a, h) = Nl x3 (Rn 78 (101, [x0, x1, x2, x3, some (.int i), x5, x6, x7], st, a, h)) := Rn_st1 (k := 4) (v := .int i) x3 c78_99 rfl rfl rfl rfl
theorem c78_101 : mcode 78 101 = some (.bipush 8, 2, 0, 0, 0) := rfl
theorem r78_101 : Rn 78 (101, [x0, x1, x2, x3, x4, x5, x6, x7], st, a, h) = Rn 78 (103, [x0, x1, x2, x3, x4, x5, x6, x7], .int (8 : Int32) :: st, a, h) := Rn_go c78_101 rfl
theorem c78_103 : mcode 78 103 = some (.iload 5, 2, 0, 0, 0) := rfl
theorem r78_103 : Rn 78 (103, [x0, x1, x2, x3, x4, some (.int i), x6, x7], st, a, h) = Rn 78 (105, [x0, x1, x2, x3, x4, some (.int i), x6, x7], .int i :: st, a, h) := Rn_go c78_103 rfl
theorem c78_105 : mcode 78 105 = some (.imul, 1, 0, 0, 0) := rfl
theorem r78_105 : Rn 78 (105, [x0, x1, x2, x3, x4, x5, x6, x7], .int j :: .int i :: st, a, h) = Rn 78 (106, [x0, x1, x2, x3, x4, x5, x6, x7], .int (i * j) :: st, a, h) := Rn_go c78_105 rfl
theorem c78_106 : mcode 78 106 = some (.iload 6, 2, 0, 0, 0) := rfl
theorem r78_106 : Rn 78 (106, [x0, x1, x2, x3, x4, x5, some (.int i), x7], st, a, h) = Rn 78 (108, [x0, x1, x2, x3, x4, x5, some (.int i), x7], .int i :: st, a, h) := Rn_go c78_106 rfl
theorem c78_108 : mcode 78 108 = some (.iadd, 1, 0, 0, 0) := rfl
theorem r78_108 : Rn 78 (108, [x0, x1, x2, x3, x4, x5, x6, x7], .int j :: .int i :: st, a, h) = Rn 78 (109, [x0, x1, x2, x3, x4, x5, x6, x7], .int (i + j) :: st, a, h) := Rn_go c78_108 rfl
theorem c78_109 : mcode 78 109 = some (.istore_n 3, 1, 0, 0, 0) := rfl
theorem r78_109 : Rn 78 (109, [x0, x1, x2, x3, x4, x5, x6, x7], .int i :: st, a, h) = Nl x2 (Rn 78 (110, [x0, x1, x2, some (.int i), x4, x5, x6, x7], st, a, h)) := Rn_st1 (k := 3) (v := .int i) x2 c78_109 rfl rfl rfl rfl
theorem c78_110 : mcode 78 110 = some (.iinc 6 1, 3, 0, 0, 0) := rfl
theorem r78_110 : Rn 78 (110, [x0, x1, x2, x3, x4, x5, some (.int i), x7], st, a, h) = Nl x5 (Rn 78 (113, [x0, x1, x2, x3, x4, x5, some (.int (i + (1 : Int32))), x7], st, a, h)) := Rn_st1 (k := 6) (v := .int (i + (1 : Int32))) x5 c78_110 rfl rfl rfl rfl
theorem c78_113 : mcode 78 113 = some (.goto (-64), 3, 0, 0, 0) := rfl
theorem r78_113 : Rn 78 (113, [x0, x1, x2, x3, x4, x5, x6, x7], st, a, h) = Rn 78 (49, [x0, x1, x2, x3, x4, x5, x6, x7], st, a, h) := Rn_goto c78_113 rfl
theorem c78_116 : mcode 78 116 = some (.iinc 5 1, 3, 0, 0, 0) := rfl
theorem r78_116 : Rn 78 (116, [x0, x1, x2, x3, x4, some (.int i), x6, x7], st, a, h) = Nl x4 (Rn 78 (119, [x0, x1, x2, x3, x4, some (.int (i + (1 : Int32))), x6, x7], st, a, h)) := Rn_st1 (k := 5) (v := .int (i + (1 : Int32))) x4 c78_116 rfl rfl rfl rfl
theorem c78_119 : mcode 78 119 = some (.goto (-83), 3, 0, 0, 0) := rfl
theorem r78_119 : Rn 78 (119, [x0, x1, x2, x3, x4, x5, x6, x7], st, a, h) = Rn 78 (36, [x0, x1, x2, x3, x4, x5, x6, x7], st, a, h) := Rn_goto c78_119 rfl
theorem c78_122 : mcode 78 122 = some (.iload_n 3, 1, 0, 0, 0) := rfl
theorem r78_122 : Rn 78 (122, [x0, x1, x2, some (.int i), x4, x5, x6, x7], st, a, h) = Rn 78 (123, [x0, x1, x2, some (.int i), x4, x5, x6, x7], .int i :: st, a, h) := Rn_go c78_122 rfl
theorem c78_123 : mcode 78 123 = some (.ireturn, 1, 0, 0, 0) := rfl
theorem r78_123 : Rn 78 (123, [x0, x1, x2, x3, x4, x5, x6, x7], [.int i], a, h) = some (some (.int i), a, h) := Rn_ireti c78_123
theorem c79_0 : mcode 79 0 = some (.aload_n 0, 1, 0, 0, 0) := rfl
theorem r79_0 : Rn 79 (0, [some (.ref q), x1, x2], st, a, h) = Rn 79 (1, [some (.ref q), x1, x2], .ref q :: st, a, h) := Rn_go c79_0 rfl
theorem c79_1 : mcode 79 1 = some (.getfield 12, 3, 5, 0, 0) := rfl
theorem r79_1 : Rn 79 (1, [x0, x1, x2], .ref q :: st, a, h) = Kv 79 4 [x0, x1, x2] st a h (mgf h q 5 0) := Rn_getf c79_1 rfl
theorem c79_4 : mcode 79 4 = some (.iload_n 1, 1, 0, 0, 0) := rfl
theorem r79_4 : Rn 79 (4, [x0, some (.int i), x2], st, a, h) = Rn 79 (5, [x0, some (.int i), x2], .int i :: st, a, h) := Rn_go c79_4 rfl
theorem c79_5 : mcode 79 5 = some (.invokevirtual 109, 3, 36, 1, 4) := rfl
theorem r79_5 : Rn 79 (5, [x0, x1, x2], [v0, .ref q], a, h) = if mis h q 4 = true then Bk 79 8 [x0, x1, x2] [] (Ec 36 [.ref q, v0] a h) else none := Rn_call1 c79_5 rfl (Nat.le_of_ble_eq_true rfl) rfl rfl (Nat.le_of_ble_eq_true rfl)
theorem c79_8 : mcode 79 8 = some (.ifCond .eq 13, 3, 0, 0, 0) := rfl
theorem r79_8 : Rn 79 (8, [x0, x1, x2], .int i :: st, a, h) = if i = 0 then Rn 79 (21, [x0, x1, x2], st, a, h) else Rn 79 (11, [x0, x1, x2], st, a, h) := Rn_ifc c79_8 mc_eq rfl rfl
theorem c79_11 : mcode 79 11 = some (.iload_n 2, 1, 0, 0, 0) := rfl
theorem r79_11 : Rn 79 (11, [x0, x1, some (.int i)], st, a, h) = Rn 79 (12, [x0, x1, some (.int i)], .int i :: st, a, h) := Rn_go c79_11 rfl
theorem c79_12 : mcode 79 12 = some (.iconst 0, 1, 0, 0, 0) := rfl
theorem r79_12 : Rn 79 (12, [x0, x1, x2], st, a, h) = Rn 79 (13, [x0, x1, x2], .int (0 : Int32) :: st, a, h) := Rn_go c79_12 rfl
theorem c79_13 : mcode 79 13 = some (.bipush 30, 2, 0, 0, 0) := rfl
theorem r79_13 : Rn 79 (13, [x0, x1, x2], st, a, h) = Rn 79 (15, [x0, x1, x2], .int (30 : Int32) :: st, a, h) := Rn_go c79_13 rfl
theorem c79_15 : mcode 79 15 = some (.invokestatic 56, 3, 106, 3, 0) := rfl
theorem r79_15 : Rn 79 (15, [x0, x1, x2], [v2, v1, v0], a, h) = Bk 79 18 [x0, x1, x2] [] (Ec 106 [v0, v1, v2] a h) := Rn_call0 c79_15 (fun z => nomatch z) rfl (Nat.le_of_ble_eq_true rfl) rfl rfl (Nat.le_of_ble_eq_true rfl)
theorem c79_18 : mcode 79 18 = some (.ifCond .ne 10, 3, 0, 0, 0) := rfl
theorem r79_18 : Rn 79 (18, [x0, x1, x2], .int i :: st, a, h) = if i = 0 then Rn 79 (21, [x0, x1, x2], st, a, h) else Rn 79 (28, [x0, x1, x2], st, a, h) := Rn_ifcn c79_18 mc_ne rfl rfl
theorem c79_21 : mcode 79 21 = some (.aload_n 0, 1, 0, 0, 0) := rfl
theorem r79_21 : Rn 79 (21, [some (.ref q), x1, x2], st, a, h) = Rn 79 (22, [some (.ref q), x1, x2], .ref q :: st, a, h) := Rn_go c79_21 rfl
theorem c79_22 : mcode 79 22 = some (.ldc 60, 2, 0, 0, -1000001) := rfl
theorem r79_22 : Rn 79 (22, [x0, x1, x2], st, a, h) = Rn 79 (24, [x0, x1, x2], .int (-1000001 : Int32) :: st, a, h) := Rn_go c79_22 rfl
theorem c79_24 : mcode 79 24 = some (.invokevirtual 61, 3, 105, 1, 5) := rfl
theorem r79_24 : Rn 79 (24, [x0, x1, x2], [v0, .ref q], a, h) = if mis h q 5 = true then Bk 79 27 [x0, x1, x2] [] (Ec 105 [.ref q, v0] a h) else none := Rn_call1 c79_24 rfl (Nat.le_of_ble_eq_true rfl) rfl rfl (Nat.le_of_ble_eq_true rfl)
theorem c79_27 : mcode 79 27 = some (.ireturn, 1, 0, 0, 0) := rfl
theorem r79_27 : Rn 79 (27, [x0, x1, x2], [.int i], a, h) = some (some (.int i), a, h) := Rn_ireti c79_27
theorem c79_28 : mcode 79 28 = some (.aload_n 0, 1, 0, 0, 0) := rfl
theorem r79_28 : Rn 79 (28, [some (.ref q), x1, x2], st, a, h) = Rn 79 (29, [some (.ref q), x1, x2], .ref q :: st, a, h) := Rn_go c79_28 rfl
theorem c79_29 : mcode 79 29 = some (.iload_n 1, 1, 0, 0, 0) := rfl
theorem r79_29 : Rn 79 (29, [x0, some (.int i), x2], st, a, h) = Rn 79 (30, [x0, some (.int i), x2], .int i :: st, a, h) := Rn_go c79_29 rfl
theorem c79_30 : mcode 79 30 = some (.iconst 1, 1, 0, 0, 0) := rfl
theorem r79_30 : Rn 79 (30, [x0, x1, x2], st, a, h) = Rn 79 (31, [x0, x1, x2], .int (1 : Int32) :: st, a, h) := Rn_go c79_30 rfl
theorem c79_31 : mcode 79 31 = some (.iconst 5, 1, 0, 0, 0) := rfl
theorem r79_31 : Rn 79 (31, [x0, x1, x2], st, a, h) = Rn 79 (32, [x0, x1, x2], .int (5 : Int32) :: st, a, h) := Rn_go c79_31 rfl
theorem c79_32 : mcode 79 32 = some (.iload_n 2, 1, 0, 0, 0) := rfl
theorem r79_32 : Rn 79 (32, [x0, x1, some (.int i)], st, a, h) = Rn 79 (33, [x0, x1, some (.int i)], .int i :: st, a, h) := Rn_go c79_32 rfl
theorem c79_33 : mcode 79 33 = some (.invokevirtual 153, 3, 115, 4, 5) := rfl
theorem r79_33 : Rn 79 (33, [x0, x1, x2], [v3, v2, v1, v0, .ref q], a, h) = if mis h q 5 = true then Bk 79 36 [x0, x1, x2] [] (Ec 115 [.ref q, v0, v1, v2, v3] a h) else none := Rn_call1 c79_33 rfl (Nat.le_of_ble_eq_true rfl) rfl rfl (Nat.le_of_ble_eq_true rfl)
theorem c79_36 : mcode 79 36 = some (.ireturn, 1, 0, 0, 0) := rfl
theorem r79_36 : Rn 79 (36, [x0, x1, x2], [.int i], a, h) = some (some (.int i), a, h) := Rn_ireti c79_36
theorem c80_0 : mcode 80 0 = some (.aload_n 0, 1, 0, 0, 0) := rfl
theorem r80_0 : Rn 80 (0, [some (.ref q), x1, x2], st, a, h) = Rn 80 (1, [some (.ref q), x1, x2], .ref q :: st, a, h) := Rn_go c80_0 rfl
theorem c80_1 : mcode 80 1 = some (.getfield 12, 3, 5, 0, 0) := rfl
theorem r80_1 : Rn 80 (1, [x0, x1, x2], .ref q :: st, a, h) = Kv 80 4 [x0, x1, x2] st a h (mgf h q 5 0) := Rn_getf c80_1 rfl
theorem c80_4 : mcode 80 4 = some (.iload_n 1, 1, 0, 0, 0) := rfl
theorem r80_4 : Rn 80 (4, [x0, some (.int i), x2], st, a, h) = Rn 80 (5, [x0, some (.int i), x2], .int i :: st, a, h) := Rn_go c80_4 rfl
theorem c80_5 : mcode 80 5 = some (.invokevirtual 109, 3, 36, 1, 4) := rfl
theorem r80_5 : Rn 80 (5, [x0, x1, x2], [v0, .ref q], a, h) = if mis h q 4 = true then Bk 80 8 [x0, x1, x2] [] (Ec 36 [.ref q, v0] a h) else none := Rn_call1 c80_5 rfl (Nat.le_of_ble_eq_true rfl) rfl rfl (Nat.le_of_ble_eq_true rfl)
theorem c80_8 : mcode 80 8 = some (.ifCond .eq 13, 3, 0, 0, 0) := rfl
theorem r80_8 : Rn 80 (8, [x0, x1, x2], .int i :: st, a, h) = if i = 0 then Rn 80 (21, [x0, x1, x2], st, a, h) else Rn 80 (11, [x0, x1, x2], st, a, h) := Rn_ifc c80_8 mc_eq rfl rfl
theorem c80_11 : mcode 80 11 = some (.iload_n 2, 1, 0, 0, 0) := rfl
theorem r80_11 : Rn 80 (11, [x0, x1, some (.int i)], st, a, h) = Rn 80 (12, [x0, x1, some (.int i)], .int i :: st, a, h) := Rn_go c80_11 rfl
theorem c80_12 : mcode 80 12 = some (.iconst 0, 1, 0, 0, 0) := rfl
theorem r80_12 : Rn 80 (12, [x0, x1, x2], st, a, h) = Rn 80 (13, [x0, x1, x2], .int (0 : Int32) :: st, a, h) := Rn_go c80_12 rfl
theorem c80_13 : mcode 80 13 = some (.bipush 40, 2, 0, 0, 0) := rfl
theorem r80_13 : Rn 80 (13, [x0, x1, x2], st, a, h) = Rn 80 (15, [x0, x1, x2], .int (40 : Int32) :: st, a, h) := Rn_go c80_13 rfl
theorem c80_15 : mcode 80 15 = some (.invokestatic 56, 3, 106, 3, 0) := rfl
theorem r80_15 : Rn 80 (15, [x0, x1, x2], [v2, v1, v0], a, h) = Bk 80 18 [x0, x1, x2] [] (Ec 106 [v0, v1, v2] a h) := Rn_call0 c80_15 (fun z => nomatch z) rfl (Nat.le_of_ble_eq_true rfl) rfl rfl (Nat.le_of_ble_eq_true rfl)
theorem c80_18 : mcode 80 18 = some (.ifCond .ne 10, 3, 0, 0, 0) := rfl
theorem r80_18 : Rn 80 (18, [x0, x1, x2], .int i :: st, a, h) = if i = 0 then Rn 80 (21, [x0, x1, x2], st, a, h) else Rn 80 (28, [x0, x1, x2], st, a, h) := Rn_ifcn c80_18 mc_ne rfl rfl
theorem c80_21 : mcode 80 21 = some (.aload_n 0, 1, 0, 0, 0) := rfl
theorem r80_21 : Rn 80 (21, [some (.ref q), x1, x2], st, a, h) = Rn 80 (22, [some (.ref q), x1, x2], .ref q :: st, a, h) := Rn_go c80_21 rfl
theorem c80_22 : mcode 80 22 = some (.ldc 60, 2, 0, 0, -1000001) := rfl
theorem r80_22 : Rn 80 (22, [x0, x1, x2], st, a, h) = Rn 80 (24, [x0, x1, x2], .int (-1000001 : Int32) :: st, a, h) := Rn_go c80_22 rfl
theorem c80_24 : mcode 80 24 = some (.invokevirtual 61, 3, 105, 1, 5) := rfl
theorem r80_24 : Rn 80 (24, [x0, x1, x2], [v0, .ref q], a, h) = if mis h q 5 = true then Bk 80 27 [x0, x1, x2] [] (Ec 105 [.ref q, v0] a h) else none := Rn_call1 c80_24 rfl (Nat.le_of_ble_eq_true rfl) rfl rfl (Nat.le_of_ble_eq_true rfl)
theorem c80_27 : mcode 80 27 = some (.ireturn, 1, 0, 0, 0) := rfl
theorem r80_27 : Rn 80 (27, [x0, x1, x2], [.int i], a, h) = some (some (.int i), a, h) := Rn_ireti c80_27
theorem c80_28 : mcode 80 28 = some (.aload_n 0, 1, 0, 0, 0) := rfl
theorem r80_28 : Rn 80 (28, [some (.ref q), x1, x2], st, a, h) = Rn 80 (29, [some (.ref q), x1, x2], .ref q :: st, a, h) := Rn_go c80_28 rfl
theorem c80_29 : mcode 80 29 = some (.iload_n 1, 1, 0, 0, 0) := rfl
theorem r80_29 : Rn 80 (29, [x0, some (.int i), x2], st, a, h) = Rn 80 (30, [x0, some (.int i), x2], .int i :: st, a, h) := Rn_go c80_29 rfl
theorem c80_30 : mcode 80 30 = some (.iconst 0, 1, 0, 0, 0) := rfl
theorem r80_30 : Rn 80 (30, [x0, x1, x2], st, a, h) = Rn 80 (31, [x0, x1, x2], .int (0 : Int32) :: st, a, h) := Rn_go c80_30 rfl
theorem c80_31 : mcode 80 31 = some (.iconst 3, 1, 0, 0, 0) := rfl
theorem r80_31 : Rn 80 (31, [x0, x1, x2], st, a, h) = Rn 80 (32, [x0, x1, x2], .int (3 : Int32) :: st, a, h) := Rn_go c80_31 rfl
theorem c80_32 : mcode 80 32 = some (.iload_n 2, 1, 0, 0, 0) := rfl
theorem r80_32 : Rn 80 (32, [x0, x1, some (.int i)], st, a, h) = Rn 80 (33, [x0, x1, some (.int i)], .int i :: st, a, h) := Rn_go c80_32 rfl
theorem c80_33 : mcode 80 33 = some (.invokevirtual 153, 3, 115, 4, 5) := rfl
theorem r80_33 : Rn 80 (33, [x0, x1, x2], [v3, v2, v1, v0, .ref q], a, h) = if mis h q 5 = true then Bk 80 36 [x0, x1, x2] [] (Ec 115 [.ref q, v0, v1, v2, v3] a h) else none := Rn_call1 c80_33 rfl (Nat.le_of_ble_eq_true rfl) rfl rfl (Nat.le_of_ble_eq_true rfl)
theorem c80_36 : mcode 80 36 = some (.ireturn, 1, 0, 0, 0) := rfl
theorem r80_36 : Rn 80 (36, [x0, x1, x2], [.int i], a, h) = some (some (.int i), a, h) := Rn_ireti c80_36
theorem c81_0 : mcode 81 0 = some (.aload_n 0, 1, 0, 0, 0) := rfl
theorem r81_0 : Rn 81 (0, [some (.ref q), x1, x2, x3, x4], st, a, h) = Rn 81 (1, [some (.ref q), x1, x2, x3, x4], .ref q :: st, a, h) := Rn_go c81_0 rfl
theorem c81_1 : mcode 81 1 = some (.getfield 12, 3, 5, 0, 0) := rfl
theorem r81_1 : Rn 81 (1, [x0, x1, x2, x3, x4], .ref q :: st, a, h) = Kv 81 4 [x0, x1, x2, x3, x4] st a h (mgf h q 5 0) := Rn_getf c81_1 rfl
theorem c81_4 : mcode 81 4 = some (.iload_n 1, 1, 0, 0, 0) := rfl
theorem r81_4 : Rn 81 (4, [x0, some (.int i), x2, x3, x4], st, a, h) = Rn 81 (5, [x0, some (.int i), x2, x3, x4], .int i :: st, a, h) := Rn_go c81_4 rfl
theorem c81_5 : mcode 81 5 = some (.invokevirtual 109, 3, 36, 1, 4) := rfl
theorem r81_5 : Rn 81 (5, [x0, x1, x2, x3, x4], [v0, .ref q], a, h) = if mis h q 4 = true then Bk 81 8 [x0, x1, x2, x3, x4] [] (Ec 36 [.ref q, v0] a h) else none := Rn_call1 c81_5 rfl (Nat.le_of_ble_eq_true rfl) rfl rfl (Nat.le_of_ble_eq_true rfl)
theorem c81_8 : mcode 81 8 = some (.ifCond .eq 13, 3, 0, 0, 0) := rfl
theorem r81_8 : Rn 81 (8, [x0, x1, x2, x3, x4], .int i :: st, a, h) = if i = 0 then Rn 81 (21, [x0, x1, x2, x3, x4], st, a, h) else Rn 81 (11, [x0, x1, x2, x3, x4], st, a, h) := Rn_ifc c81_8 mc_eq rfl rfl
theorem c81_11 : mcode 81 11 = some (.iload_n 2, 1, 0, 0, 0) := rfl
theorem r81_11 : Rn 81 (11, [x0, x1, some (.int i), x3, x4], st, a, h) = Rn 81 (12, [x0, x1, some (.int i), x3, x4], .int i :: st, a, h) := Rn_go c81_11 rfl
theorem c81_12 : mcode 81 12 = some (.iconst 0, 1, 0, 0, 0) := rfl
theorem r81_12 : Rn 81 (12, [x0, x1, x2, x3, x4], st, a, h) = Rn 81 (13, [x0, x1, x2, x3, x4], .int (0 : Int32) :: st, a, h) := Rn_go c81_12 rfl
theorem c81_13 : mcode 81 13 = some (.bipush 40, 2, 0, 0, 0) := rfl
theorem r81_13 : Rn 81 (13, [x0, x1, x2, x3, x4], st, a, h) = Rn 81 (15, [x0, x1, x2, x3, x4], .int (40 : Int32) :: st, a, h) := Rn_go c81_13 rfl
theorem c81_15 : mcode 81 15 = some (.invokestatic 56, 3, 106, 3, 0) := rfl
theorem r81_15 : Rn 81 (15, [x0, x1, x2, x3, x4], [v2, v1, v0], a, h) = Bk 81 18 [x0, x1, x2, x3, x4] [] (Ec 106 [v0, v1, v2] a h) := Rn_call0 c81_15 (fun z => nomatch z) rfl (Nat.le_of_ble_eq_true rfl) rfl rfl (Nat.le_of_ble_eq_true rfl)
theorem c81_18 : mcode 81 18 = some (.ifCond .ne 10, 3, 0, 0, 0) := rfl
theorem r81_18 : Rn 81 (18, [x0, x1, x2, x3, x4], .int i :: st, a, h) = if i = 0 then Rn 81 (21, [x0, x1, x2, x3, x4], st, a, h) else Rn 81 (28, [x0, x1, x2, x3, x4], st, a, h) := Rn_ifcn c81_18 mc_ne rfl rfl
theorem c81_21 : mcode 81 21 = some (.aload_n 0, 1, 0, 0, 0) := rfl
theorem r81_21 : Rn 81 (21, [some (.ref q), x1, x2, x3, x4], st, a, h) = Rn 81 (22, [some (.ref q), x1, x2, x3, x4], .ref q :: st, a, h) := Rn_go c81_21 rfl
theorem c81_22 : mcode 81 22 = some (.ldc 60, 2, 0, 0, -1000001) := rfl
theorem r81_22 : Rn 81 (22, [x0, x1, x2, x3, x4], st, a, h) = Rn 81 (24, [x0, x1, x2, x3, x4], .int (-1000001 : Int32) :: st, a, h) := Rn_go c81_22 rfl
theorem c81_24 : mcode 81 24 = some (.invokevirtual 61, 3, 105, 1, 5) := rfl
theorem r81_24 : Rn 81 (24, [x0, x1, x2, x3, x4], [v0, .ref q], a, h) = if mis h q 5 = true then Bk 81 27 [x0, x1, x2, x3, x4] [] (Ec 105 [.ref q, v0] a h) else none := Rn_call1 c81_24 rfl (Nat.le_of_ble_eq_true rfl) rfl rfl (Nat.le_of_ble_eq_true rfl)
theorem c81_27 : mcode 81 27 = some (.ireturn, 1, 0, 0, 0) := rfl
theorem r81_27 : Rn 81 (27, [x0, x1, x2, x3, x4], [.int i], a, h) = some (some (.int i), a, h) := Rn_ireti c81_27
theorem c81_28 : mcode 81 28 = some (.aload_n 0, 1, 0, 0, 0) := rfl
theorem r81_28 : Rn 81 (28, [some (.ref q), x1, x2, x3, x4], st, a, h) = Rn 81 (29, [some (.ref q), x1, x2, x3, x4], .ref q :: st, a, h) := Rn_go c81_28 rfl
theorem c81_29 : mcode 81 29 = some (.getfield 12, 3, 5, 0, 0) := rfl
theorem r81_29 : Rn 81 (29, [x0, x1, x2, x3, x4], .ref q :: st, a, h) = Kv 81 32 [x0, x1, x2, x3, x4] st a h (mgf h q 5 0) := Rn_getf c81_29 rfl
theorem c81_32 : mcode 81 32 = some (.iload_n 1, 1, 0, 0, 0) := rfl
theorem r81_32 : Rn 81 (32, [x0, some (.int i), x2, x3, x4], st, a, h) = Rn 81 (33, [x0, some (.int i), x2, x3, x4], .int i :: st, a, h) := Rn_go c81_32 rfl
theorem c81_33 : mcode 81 33 = some (.iconst 2, 1, 0, 0, 0) := rfl
theorem r81_33 : Rn 81 (33, [x0, x1, x2, x3, x4], st, a, h) = Rn 81 (34, [x0, x1, x2, x3, x4], .int (2 : Int32) :: st, a, h) := Rn_go c81_33 rfl
theorem c81_34 : mcode 81 34 = some (.invokevirtual 112, 3, 39, 2, 4) := rfl
theorem r81_34 : Rn 81 (34, [x0, x1, x2, x3, x4], [v1, v0, .ref q], a, h) = if mis h q 4 = true then Bk 81 37 [x0, x1, x2, x3, x4] [] (Ec 39 [.ref q, v0, v1] a h) else none := Rn_call1 c81_34 rfl (Nat.le_of_ble_eq_true rfl) rfl rfl (Nat.le_of_ble_eq_true rfl)
theorem c81_37 : mcode 81 37 = some (.istore_n 3, 1, 0, 0, 0) := rfl
theorem r81_37 : Rn 81 (37, [x0, x1, x2, x3, x4], .int i :: st, a, h) = Nl x2 (Rn 81 (38, [x0, x1, x2, some (.int i), x4], st, a, h)) := Rn_st1 (k := 3) (v := .int i) x2 c81_37 rfl rfl rfl rfl
theorem c81_38 : mcode 81 38 = some (.iconst 0, 1, 0, 0, 0) := rfl
theorem r81_38 : Rn 81 (38, [x0, x1, x2, x3, x4], st, a, h) = Rn 81 (39, [x0, x1, x2, x3, x4], .int (0 : Int32) :: st, a, h) := Rn_go c81_38 rfl
theorem c81_39 : mcode 81 39 = some (.istore 4, 2, 0, 0, 0) := rfl
theorem r81_39 : Rn 81 (39, [x0, x1, x2, x3, x4], .int i :: st, a, h) = Nl x3 (Rn 81 (41, [x0, x1, x2, x3, some (.int i)], st, a, h)) := Rn_st1 (k := 4) (v := .int i) x3 c81_39 rfl rfl rfl rfl
theorem c81_41 : mcode 81 41 = some (.iload 4, 2, 0, 0, 0) := rfl
theorem r81_41 : Rn 81 (41, [x0, x1, x2, x3, some (.int i)], st, a, h) = Rn 81 (43, [x0, x1, x2, x3, some (.int i)], .int i :: st, a, h) := Rn_go c81_41 rfl
theorem c81_43 : mcode 81 43 = some (.sipush 200, 3, 0, 0, 0) := rfl
theorem r81_43 : Rn 81 (43, [x0, x1, x2, x3, x4], st, a, h) = Rn 81 (46, [x0, x1, x2, x3, x4], .int (200 : Int32) :: st, a, h) := Rn_go c81_43 rfl
theorem c81_46 : mcode 81 46 = some (.if_icmp .gt 48, 3, 0, 0, 0) := rfl
theorem r81_46 : Rn 81 (46, [x0, x1, x2, x3, x4], .int j :: .int i :: st, a, h) = if j < i then Rn 81 (94, [x0, x1, x2, x3, x4], st, a, h) else Rn 81 (49, [x0, x1, x2, x3, x4], st, a, h) := Rn_icmp c81_46 mc_gt rfl rfl
theorem c81_49 : mcode 81 49 = some (.aload_n 0, 1, 0, 0, 0) := rfl
theorem r81_49 : Rn 81 (49, [some (.ref q), x1, x2, x3, x4], st, a, h) = Rn 81 (50, [some (.ref q), x1, x2, x3, x4], .ref q :: st, a, h) := Rn_go c81_49 rfl
theorem c81_50 : mcode 81 50 = some (.invokevirtual 143, 3, 114, 0, 5) := rfl
theorem r81_50 : Rn 81 (50, [x0, x1, x2, x3, x4], [.ref q], a, h) = if mis h q 5 = true then Bk 81 53 [x0, x1, x2, x3, x4] [] (Ec 114 [.ref q] a h) else none := Rn_call1 c81_50 rfl (Nat.le_of_ble_eq_true rfl) rfl rfl (Nat.le_of_ble_eq_true rfl)
theorem c81_53 : mcode 81 53 = some (.aload_n 0, 1, 0, 0, 0) := rfl
theorem r81_53 : Rn 81 (53, [some (.ref q), x1, x2, x3, x4], st, a, h) = Rn 81 (54, [some (.ref q), x1, x2, x3, x4], .ref q :: st, a, h) := Rn_go c81_53 rfl
theorem c81_54 : mcode 81 54 = some (.getfield 16, 3, 5, 1, 0) := rfl
theorem r81_54 : Rn 81 (54, [x0, x1, x2, x3, x4], .ref q :: st, a, h) = Kv 81 57 [x0, x1, x2, x3, x4] st a h (mgf h q 5 1) := Rn_getf c81_54 rfl
theorem c81_57 : mcode 81 57 = some (.iload_n 1, 1, 0, 0, 0) := rfl
theorem r81_57 : Rn 81 (57, [x0, some (.int i), x2, x3, x4], st, a, h) = Rn 81 (58, [x0, some (.int i), x2, x3, x4], .int i :: st, a, h) := Rn_go c81_57 rfl
theorem c81_58 : mcode 81 58 = some (.iconst 3, 1, 0, 0, 0) := rfl
theorem r81_58 : Rn 81 (58, [x0, x1, x2, x3, x4], st, a, h) = Rn 81 (59, [x0, x1, x2, x3, x4], .int (3 : Int32) :: st, a, h) := Rn_go c81_58 rfl
theorem c81_59 : mcode 81 59 = some (.iload 4, 2, 0, 0, 0) := rfl
theorem r81_59 : Rn 81 (59, [x0, x1, x2, x3, some (.int i)], st, a, h) = Rn 81 (61, [x0, x1, x2, x3, some (.int i)], .int i :: st, a, h) := Rn_go c81_59 rfl
theorem c81_61 : mcode 81 61 = some (.invokevirtual 118, 3, 40, 3, 4) := rfl
theorem r81_61 : Rn 81 (61, [x0, x1, x2, x3, x4], [v2, v1, v0, .ref q], a, h) = if mis h q 4 = true then Bk 81 64 [x0, x1, x2, x3, x4] [] (Ec 40 [.ref q, v0, v1, v2] a h) else none := Rn_call1 c81_61 rfl (Nat.le_of_ble_eq_true rfl) rfl rfl (Nat.le_of_ble_eq_true rfl)
theorem c81_64 : mcode 81 64 = some (.aload_n 0, 1, 0, 0, 0) := rfl
theorem r81_64 : Rn 81 (64, [some (.ref q), x1, x2, x3, x4], st, a, h) = Rn 81 (65, [some (.ref q), x1, x2, x3, x4], .ref q :: st, a, h) := Rn_go c81_64 rfl
theorem c81_65 : mcode 81 65 = some (.getfield 16, 3, 5, 1, 0) := rfl
theorem r81_65 : Rn 81 (65, [x0, x1, x2, x3, x4], .ref q :: st, a, h) = Kv 81 68 [x0, x1, x2, x3, x4] st a h (mgf h q 5 1) := Rn_getf c81_65 rfl
theorem c81_68 : mcode 81 68 = some (.iload_n 2, 1, 0, 0, 0) := rfl
theorem r81_68 : Rn 81 (68, [x0, x1, some (.int i), x3, x4], st, a, h) = Rn 81 (69, [x0, x1, some (.int i), x3, x4], .int i :: st, a, h) := Rn_go c81_68 rfl
theorem c81_69 : mcode 81 69 = some (.invokevirtual 126, 3, 53, 1, 4) := rfl
theorem r81_69 : Rn 81 (69, [x0, x1, x2, x3, x4], [v0, .ref q], a, h) = if mis h q 4 = true then Bk 81 72 [x0, x1, x2, x3, x4] [] (Ec 53 [.ref q, v0] a h) else none := Rn_call1 c81_69 rfl (Nat.le_of_ble_eq_true rfl) rfl rfl (Nat.le_of_ble_eq_true rfl)
theorem c81_72 : mcode 81 72 = some (.aload_n 0, 1, 0, 0, 0) := rfl
theorem r81_72 : Rn 81 (72, [some (.ref q), x1, x2, x3, x4], st, a, h) = Rn 81 (73, [some (.ref q), x1, x2, x3, x4], .ref q :: st, a, h) := Rn_go c81_72 rfl
theorem c81_73 : mcode 81 73 = some (.getfield 16, 3, 5, 1, 0) := rfl
theorem r81_73 : Rn 81 (73, [x0, x1, x2, x3, x4], .ref q :: st, a, h) = Kv 81 76 [x0, x1, x2, x3, x4] st a h (mgf h q 5 1) := Rn_getf c81_73 rfl
theorem c81_76 : mcode 81 76 = some (.iload_n 1, 1, 0, 0, 0) := rfl
theorem r81_76 : Rn 81 (76, [x0, some (.int i), x2, x3, x4], st, a, h) = Rn 81 (77, [x0, some (.int i), x2, x3, x4], .int i :: st, a, h) := Rn_go c81_76 rfl
theorem c81_77 : mcode 81 77 = some (.iconst 2, 1, 0, 0, 0) := rfl
theorem r81_77 : Rn 81 (77, [x0, x1, x2, x3, x4], st, a, h) = Rn 81 (78, [x0, x1, x2, x3, x4], .int (2 : Int32) :: st, a, h) := Rn_go c81_77 rfl
theorem c81_78 : mcode 81 78 = some (.invokevirtual 112, 3, 39, 2, 4) := rfl
theorem r81_78 : Rn 81 (78, [x0, x1, x2, x3, x4], [v1, v0, .ref q], a, h) = if mis h q 4 = true then Bk 81 81 [x0, x1, x2, x3, x4] [] (Ec 39 [.ref q, v0, v1] a h) else none := Rn_call1 c81_78 rfl (Nat.le_of_ble_eq_true rfl) rfl rfl (Nat.le_of_ble_eq_true rfl)
theorem c81_81 : mcode 81 81 = some (.iload_n 3, 1, 0, 0, 0) := rfl
theorem r81_81 : Rn 81 (81, [x0, x1, x2, some (.int i), x4], st, a, h) = Rn 81 (82, [x0, x1, x2, some (.int i), x4], .int i :: st, a, h) := Rn_go c81_81 rfl
theorem c81_82 : mcode 81 82 = some (.if_icmp .ne 6, 3, 0, 0, 0) := rfl
theorem r81_82 : Rn 81 (82, [x0, x1, x2, x3, x4], .int j :: .int i :: st, a, h) = if i = j then Rn 81 (85, [x0, x1, x2, x3, x4], st, a, h) else Rn 81 (88, [x0, x1, x2, x3, x4], st, a, h) := Rn_icmpn c81_82 mc_ne rfl rfl
theorem c81_85 : mcode 81 85 = some (.iload 4, 2, 0, 0, 0) := rfl
theorem r81_85 : Rn 81 (85, [x0, x1, x2, x3, some (.int i)], st, a, h) = Rn 81 (87, [x0, x1, x2, x3, some (.int i)], .int i :: st, a, h) := Rn_go c81_85 rfl
theorem c81_87 : mcode 81 87 = some (.ireturn, 1, 0, 0, 0) := rfl
theorem r81_87 : Rn 81 (87, [x0, x1, x2, x3, x4], [.int i], a, h) = some (some (.int i), a, h) := Rn_ireti c81_87
theorem c81_88 : mcode 81 88 = some (.iinc 4 1, 3, 0, 0, 0) := rfl
theorem r81_88 : Rn 81 (88, [x0, x1, x2, x3, some (.int i)], st, a, h) = Nl x3 (Rn 81 (91, [x0, x1, x2, x3, some (.int (i + (1 : Int32)))], st, a, h)) := Rn_st1 (k := 4) (v := .int (i + (1 : Int32))) x3 c81_88 rfl rfl rfl rfl
theorem c81_91 : mcode 81 91 = some (.goto (-50), 3, 0, 0, 0) := rfl
theorem r81_91 : Rn 81 (91, [x0, x1, x2, x3, x4], st, a, h) = Rn 81 (41, [x0, x1, x2, x3, x4], st, a, h) := Rn_goto c81_91 rfl
theorem c81_94 : mcode 81 94 = some (.aload_n 0, 1, 0, 0, 0) := rfl
theorem r81_94 : Rn 81 (94, [some (.ref q), x1, x2, x3, x4], st, a, h) = Rn 81 (95, [some (.ref q), x1, x2, x3, x4], .ref q :: st, a, h) := Rn_go c81_94 rfl
theorem c81_95 : mcode 81 95 = some (.ldc 146, 2, 0, 0, -1000004) := rfl
theorem r81_95 : Rn 81 (95, [x0, x1, x2, x3, x4], st, a, h) = Rn 81 (97, [x0, x1, x2, x3, x4], .int (-1000004 : Int32) :: st, a, h) := Rn_go c81_95 rfl
theorem c81_97 : mcode 81 97 = some (.invokevirtual 61, 3, 105, 1, 5) := rfl
theorem r81_97 : Rn 81 (97, [x0, x1, x2, x3, x4], [v0, .ref q], a, h) = if mis h q 5 = true then Bk 81 100 [x0, x1, x2, x3, x4] [] (Ec 105 [.ref q, v0] a h) else none := Rn_call1 c81_97 rfl (Nat.le_of_ble_eq_true rfl) rfl rfl (Nat.le_of_ble_eq_true rfl)
theorem c81_100 : mcode 81 100 = some (.ireturn, 1, 0, 0, 0) := rfl
theorem r81_100 : Rn 81 (100, [x0, x1, x2, x3, x4], [.int i], a, h) = some (some (.int i), a, h) := Rn_ireti c81_100
theorem c82_0 : mcode 82 0 = some (.iload_n 1, 1, 0, 0, 0) := rfl
theorem r82_0 : Rn 82 (0, [x0, some (.int i), x2, x3], st, a, h) = Rn 82 (1, [x0, some (.int i), x2, x3], .int i :: st, a, h) := Rn_go c82_0 rfl
theorem c82_1 : mcode 82 1 = some (.invokestatic 49, 3, 107, 1, 0) := rfl
theorem r82_1 : Rn 82 (1, [x0, x1, x2, x3], [v0], a, h) = Bk 82 4 [x0, x1, x2, x3] [] (Ec 107 [v0] a h) := Rn_call0 c82_1 (fun z => nomatch z) rfl (Nat.le_of_ble_eq_true rfl) rfl rfl (Nat.le_of_ble_eq_true rfl)
theorem c82_4 : mcode 82 4 = some (.ifCond .eq 13, 3, 0, 0, 0) := rfl
theorem r82_4 : Rn 82 (4, [x0, x1, x2, x3], .int i :: st, a, h) = if i = 0 then Rn 82 (17, [x0, x1, x2, x3], st, a, h) else Rn 82 (7, [x0, x1, x2, x3], st, a, h) := Rn_ifc c82_4 mc_eq rfl rfl
theorem c82_7 : mcode 82 7 = some (.iload_n 2, 1, 0, 0, 0) := rfl
theorem r82_7 : Rn 82 (7, [x0, x1, some (.int i), x3], st, a, h) = Rn 82 (8, [x0, x1, some (.int i), x3], .int i :: st, a, h) := Rn_go c82_7 rfl
theorem c82_8 : mcode 82 8 = some (.iconst 0, 1, 0, 0, 0) := rfl
theorem r82_8 : Rn 82 (8, [x0, x1, x2, x3], st, a, h) = Rn 82 (9, [x0, x1, x2, x3], .int (0 : Int32) :: st, a, h) := Rn_go c82_8 rfl
theorem c82_9 : mcode 82 9 = some (.bipush 40, 2, 0, 0, 0) := rfl
theorem r82_9 : Rn 82 (9, [x0, x1, x2, x3], st, a, h) = Rn 82 (11, [x0, x1, x2, x3], .int (40 : Int32) :: st, a, h) := Rn_go c82_9 rfl
theorem c82_11 : mcode 82 11 = some (.invokestatic 56, 3, 106, 3, 0) := rfl
theorem r82_11 : Rn 82 (11, [x0, x1, x2, x3], [v2, v1, v0], a, h) = Bk 82 14 [x0, x1, x2, x3] [] (Ec 106 [v0, v1, v2] a h) := Rn_call0 c82_11 (fun z => nomatch z) rfl (Nat.le_of_ble_eq_true rfl) rfl rfl (Nat.le_of_ble_eq_true rfl)
theorem c82_14 : mcode 82 14 = some (.ifCond .ne 10, 3, 0, 0, 0) := rfl
theorem r82_14 : Rn 82 (14, [x0, x1, x2, x3], .int i :: st, a, h) = if i = 0 then Rn 82 (17, [x0, x1, x2, x3], st, a, h) else Rn 82 (24, [x0, x1, x2, x3], st, a, h) := Rn_ifcn c82_14 mc_ne rfl rfl
theorem c82_17 : mcode 82 17 = some (.aload_n 0, 1, 0, 0, 0) := rfl
theorem r82_17 : Rn 82 (17, [some (.ref q), x1, x2, x3], st, a, h) = Rn 82 (18, [some (.ref q), x1, x2, x3], .ref q :: st, a, h) := Rn_go c82_17 rfl
theorem c82_18 : mcode 82 18 = some (.ldc 60, 2, 0, 0, -1000001) := rfl
theorem r82_18 : Rn 82 (18, [x0, x1, x2, x3], st, a, h) = Rn 82 (20, [x0, x1, x2, x3], .int (-1000001 : Int32) :: st, a, h) := Rn_go c82_18 rfl
theorem c82_20 : mcode 82 20 = some (.invokevirtual 61, 3, 105, 1, 5) := rfl
theorem r82_20 : Rn 82 (20, [x0, x1, x2, x3], [v0, .ref q], a, h) = if mis h q 5 = true then Bk 82 23 [x0, x1, x2, x3] [] (Ec 105 [.ref q, v0] a h) else none := Rn_call1 c82_20 rfl (Nat.le_of_ble_eq_true rfl) rfl rfl (Nat.le_of_ble_eq_true rfl)
theorem c82_23 : mcode 82 23 = some (.ireturn, 1, 0, 0, 0) := rfl
theorem r82_23 : Rn 82 (23, [x0, x1, x2, x3], [.int i], a, h) = some (some (.int i), a, h) := Rn_ireti c82_23
theorem c82_24 : mcode 82 24 = some (.bipush 9, 2, 0, 0, 0) := rfl
theorem r82_24 : Rn 82 (24, [x0, x1, x2, x3], st, a, h) = Rn 82 (26, [x0, x1, x2, x3], .int (9 : Int32) :: st, a, h) := Rn_go c82_24 rfl
theorem c82_26 : mcode 82 26 = some (.istore_n 3, 1, 0, 0, 0) := rfl
theorem r82_26 : Rn 82 (26, [x0, x1, x2, x3], .int i :: st, a, h) = Nl x2 (Rn 82 (27, [x0, x1, x2, some (.int i)], st, a, h)) := Rn_st1 (k := 3) (v := .int i) x2 c82_26 rfl rfl rfl rfl
theorem c82_27 : mcode 82 27 = some (.iload_n 3, 1, 0, 0, 0) := rfl
theorem r82_27 : Rn 82 (27, [x0, x1, x2, some (.int i)], st, a, h) = Rn 82 (28, [x0, x1, x2, some (.int i)], .int i :: st, a, h) := Rn_go c82_27 rfl
theorem c82_28 : mcode 82 28 = some (.ifCond .lt 42, 3, 0, 0, 0) := rfl
theorem r82_28 : Rn 82 (28, [x0, x1, x2, x3], .int i :: st, a, h) = if i < 0 then Rn 82 (70, [x0, x1, x2, x3], st, a, h) else Rn 82 (31, [x0, x1, x2, x3], st, a, h) := Rn_ifc c82_28 mc_lt rfl rfl
theorem c82_31 : mcode 82 31 = some (.aload_n 0, 1, 0, 0, 0) := rfl
theorem r82_31 : Rn 82 (31, [some (.ref q), x1, x2, x3], st, a, h) = Rn 82 (32, [some (.ref q), x1, x2, x3], .ref q :: st, a, h) := Rn_go c82_31 rfl
theorem c82_32 : mcode 82 32 = some (.invokevirtual 143, 3, 114, 0, 5) := rfl
theorem r82_32 : Rn 82 (32, [x0, x1, x2, x3], [.ref q], a, h) = if mis h q 5 = true then Bk 82 35 [x0, x1, x2, x3] [] (Ec 114 [.ref q] a h) else none := Rn_call1 c82_32 rfl (Nat.le_of_ble_eq_true rfl) rfl rfl (Nat.le_of_ble_eq_true rfl)
theorem c82_35 : mcode 82 35 = some (.aload_n 0, 1, 0, 0, 0) := rfl
theorem r82_35 : Rn 82 (35, [some (.ref q), x1, x2, x3], st, a, h) = Rn 82 (36, [some (.ref q), x1, x2, x3], .ref q :: st, a, h) := Rn_go c82_35 rfl
theorem c82_36 : mcode 82 36 = some (.getfield 16, 3, 5, 1, 0) := rfl
theorem r82_36 : Rn 82 (36, [x0, x1, x2, x3], .ref q :: st, a, h) = Kv 82 39 [x0, x1, x2, x3] st a h (mgf h q 5 1) := Rn_getf c82_36 rfl
theorem c82_39 : mcode 82 39 = some (.iload_n 3, 1, 0, 0, 0) := rfl
theorem r82_39 : Rn 82 (39, [x0, x1, x2, some (.int i)], st, a, h) = Rn 82 (40, [x0, x1, x2, some (.int i)], .int i :: st, a, h) := Rn_go c82_39 rfl
theorem c82_40 : mcode 82 40 = some (.putfield 82, 3, 4, 4, 0) := rfl
theorem r82_40 : Rn 82 (40, [x0, x1, x2, x3], .int i :: .ref q :: st, a, h) = Kh 82 43 [x0, x1, x2, x3] st a (mpf h q 4 4 (.int i)) := Rn_putfi c82_40 rfl rfl
theorem c82_43 : mcode 82 43 = some (.aload_n 0, 1, 0, 0, 0) := rfl
theorem r82_43 : Rn 82 (43, [some (.ref q), x1, x2, x3], st, a, h) = Rn 82 (44, [some (.ref q), x1, x2, x3], .ref q :: st, a, h) := Rn_go c82_43 rfl
theorem c82_44 : mcode 82 44 = some (.getfield 16, 3, 5, 1, 0) := rfl
theorem r82_44 : Rn 82 (44, [x0, x1, x2, x3], .ref q :: st, a, h) = Kv 82 47 [x0, x1, x2, x3] st a h (mgf h q 5 1) := Rn_getf c82_44 rfl
theorem c82_47 : mcode 82 47 = some (.iload_n 2, 1, 0, 0, 0) := rfl
theorem r82_47 : Rn 82 (47, [x0, x1, some (.int i), x3], st, a, h) = Rn 82 (48, [x0, x1, some (.int i), x3], .int i :: st, a, h) := Rn_go c82_47 rfl
theorem c82_48 : mcode 82 48 = some (.invokevirtual 126, 3, 53, 1, 4) := rfl
theorem r82_48 : Rn 82 (48, [x0, x1, x2, x3], [v0, .ref q], a, h) = if mis h q 4 = true then Bk 82 51 [x0, x1, x2, x3] [] (Ec 53 [.ref q, v0] a h) else none := Rn_call1 c82_48 rfl (Nat.le_of_ble_eq_true rfl) rfl rfl (Nat.le_of_ble_eq_true rfl)
theorem c82_51 : mcode 82 51 = some (.aload_n 0, 1, 0, 0, 0) := rfl
theorem r82_51 : Rn 82 (51, [some (.ref q), x1, x2, x3], st, a, h) = Rn 82 (52, [some (.ref q), x1, x2, x3], .ref q :: st, a, h) := Rn_go c82_51 rfl
theorem c82_52 : mcode 82 52 = some (.getfield 16, 3, 5, 1, 0) := rfl
theorem r82_52 : Rn 82 (52, [x0, x1, x2, x3], .ref q :: st, a, h) = Kv 82 55 [x0, x1, x2, x3] st a h (mgf h q 5 1) := Rn_getf c82_52 rfl
theorem c82_55 : mcode 82 55 = some (.iload_n 1, 1, 0, 0, 0) := rfl
theorem r82_55 : Rn 82 (55, [x0, some (.int i), x2, x3], st, a, h) = Rn 82 (56, [x0, some (.int i), x2, x3], .int i :: st, a, h) := Rn_go c82_55 rfl
theorem c82_56 : mcode 82 56 = some (.invokevirtual 147, 3, 45, 1, 4) := rfl
theorem r82_56 : Rn 82 (56, [x0, x1, x2, x3], [v0, .ref q], a, h) = if mis h q 4 = true then Bk 82 59 [x0, x1, x2, x3] [] (Ec 45 [.ref q, v0] a h) else none := Rn_call1 c82_56 rfl (Nat.le_of_ble_eq_true rfl) rfl rfl (Nat.le_of_ble_eq_true rfl)
theorem c82_59 : mcode 82 59 = some (.ifCond .eq 5, 3, 0, 0, 0) := rfl
theorem r82_59 : Rn 82 (59, [x0, x1, x2, x3], .int i :: st, a, h) = if i = 0 then Rn 82 (64, [x0, x1, x2, x3], st, a, h) else Rn 82 (62, [x0, x1, x2, x3], st, a, h) := Rn_ifc c82_59 mc_eq rfl rfl
theorem c82_62 : mcode 82 62 = some (.iload_n 3, 1, 0, 0, 0) := rfl
theorem r82_62 : Rn 82 (62, [x0, x1, x2, some (.int i)], st, a, h) = Rn 82 (63, [x0, x1, x2, some (.int i)], .int i :: st, a, h) := Rn_go c82_62 rfl
theorem c82_63 : mcode 82 63 = some (.ireturn, 1, 0, 0, 0) := rfl
theorem r82_63 : Rn 82 (63, [x0, x1, x2, x3], [.int i], a, h) = some (some (.int i), a, h) := Rn_ireti c82_63
theorem c82_64 : mcode 82 64 = some (.iinc 3 (-1), 3, 0, 0, 0) := rfl
theorem r82_64 : Rn 82 (64, [x0, x1, x2, some (.int i)], st, a, h) = Nl x2 (Rn 82 (67, [x0, x1, x2, some (.int (i + (-1 : Int32)))], st, a, h)) := Rn_st1 (k := 3) (v := .int (i + (-1 : Int32))) x2 c82_64 rfl rfl rfl rfl
theorem c82_67 : mcode 82 67 = some (.goto (-40), 3, 0, 0, 0) := rfl
theorem r82_67 : Rn 82 (67, [x0, x1, x2, x3], st, a, h) = Rn 82 (27, [x0, x1, x2, x3], st, a, h) := Rn_goto c82_67 rfl
theorem c82_70 : mcode 82 70 = some (.aload_n 0, 1, 0, 0, 0) := rfl
theorem r82_70 : Rn 82 (70, [some (.ref q), x1, x2, x3], st, a, h) = Rn 82 (71, [some (.ref q), x1, x2, x3], .ref q :: st, a, h) := Rn_go c82_70 rfl
theorem c82_71 : mcode 82 71 = some (.ldc 146, 2, 0, 0, -1000004) := rfl
theorem r82_71 : Rn 82 (71, [x0, x1, x2, x3], st, a, h) = Rn 82 (73, [x0, x1, x2, x3], .int (-1000004 : Int32) :: st, a, h) := Rn_go c82_71 rfl
theorem c82_73 : mcode 82 73 = some (.invokevirtual 61, 3, 105, 1, 5) := rfl
theorem r82_73 : Rn 82 (73, [x0, x1, x2, x3], [v0, .ref q], a, h) = if mis h q 5 = true then Bk 82 76 [x0, x1, x2, x3] [] (Ec 105 [.ref q, v0] a h) else none := Rn_call1 c82_73 rfl (Nat.le_of_ble_eq_true rfl) rfl rfl (Nat.le_of_ble_eq_true rfl)
theorem c82_76 : mcode 82 76 = some (.ireturn, 1, 0, 0, 0) := rfl
theorem r82_76 : Rn 82 (76, [x0, x1, x2, x3], [.int i], a, h) = some (some (.int i), a, h) := Rn_ireti c82_76
theorem c83_0 : mcode 83 0 = some (.iload_n 1, 1, 0, 0, 0) := rfl
theorem r83_0 : Rn 83 (0, [x0, some (.int i), x2, x3, x4, x5, x6], st, a, h) = Rn 83 (1, [x0, some (.int i), x2, x3, x4, x5, x6], .int i :: st, a, h) := Rn_go c83_0 rfl
theorem c83_1 : mcode 83 1 = some (.invokestatic 49, 3, 107, 1, 0) := rfl
theorem r83_1 : Rn 83 (1, [x0, x1, x2, x3, x4, x5, x6], [v0], a, h) = Bk 83 4 [x0, x1, x2, x3, x4, x5, x6] [] (Ec 107 [v0] a h) := Rn_call0 c83_1 (fun z => nomatch z) rfl (Nat.le_of_ble_eq_true rfl) rfl rfl (Nat.le_of_ble_eq_true rfl)
theorem c83_4 : mcode 83 4 = some (.ifCond .eq 13, 3, 0, 0, 0) := rfl
theorem r83_4 : Rn 83 (4, [x0, x1, x2, x3, x4, x5, x6], .int i :: st, a, h) = if i = 0 then Rn 83 (17, [x0, x1, x2, x3, x4, x5, x6], st, a, h) else Rn 83 (7, [x0, x1, x2, x3, x4, x5, x6], st, a, h) := Rn_ifc c83_4 mc_eq rfl rfl
theorem c83_7 : mcode 83 7 = some (.iload_n 2, 1, 0, 0, 0) := rfl
theorem r83_7 : Rn 83 (7, [x0, x1, some (.int i), x3, x4, x5, x6], st, a, h) = Rn 83 (8, [x0, x1, some (.int i), x3, x4, x5, x6], .int i :: st, a, h) := Rn_go c83_7 rfl
theorem c83_8 : mcode 83 8 = some (.iconst 0, 1, 0, 0, 0) := rfl
theorem r83_8 : Rn 83 (8, [x0, x1, x2, x3, x4, x5, x6], st, a, h) = Rn 83 (9, [x0, x1, x2, x3, x4, x5, x6], .int (0 : Int32) :: st, a, h) := Rn_go c83_8 rfl
theorem c83_9 : mcode 83 9 = some (.bipush 20, 2, 0, 0, 0) := rfl
theorem r83_9 : Rn 83 (9, [x0, x1, x2, x3, x4, x5, x6], st, a, h) = Rn 83 (11, [x0, x1, x2, x3, x4, x5, x6], .int (20 : Int32) :: st, a, h) := Rn_go c83_9 rfl
theorem c83_11 : mcode 83 11 = some (.invokestatic 56, 3, 106, 3, 0) := rfl
theorem r83_11 : Rn 83 (11, [x0, x1, x2, x3, x4, x5, x6], [v2, v1, v0], a, h) = Bk 83 14 [x0, x1, x2, x3, x4, x5, x6] [] (Ec 106 [v0, v1, v2] a h) := Rn_call0 c83_11 (fun z => nomatch z) rfl (Nat.le_of_ble_eq_true rfl) rfl rfl (Nat.le_of_ble_eq_true rfl)
theorem c83_14 : mcode 83 14 = some (.ifCond .ne 10, 3, 0, 0, 0) := rfl
theorem r83_14 : Rn 83 (14, [x0, x1, x2, x3, x4, x5, x6], .int i :: st, a, h) = if i = 0 then Rn 83 (17, [x0, x1, x2, x3, x4, x5, x6], st, a, h) else Rn 83 (24, [x0, x1, x2, x3, x4, x5, x6], st, a, h) := Rn_ifcn c83_14 mc_ne rfl rfl
theorem c83_17 : mcode 83 17 = some (.aload_n 0, 1, 0, 0, 0) := rfl
theorem r83_17 : Rn 83 (17, [some (.ref q), x1, x2, x3, x4, x5, x6], st, a, h) = Rn 83 (18, [some (.ref q), x1, x2, x3, x4, x5, x6], .ref q :: st, a, h) := Rn_go c83_17 rfl
theorem c83_18 : mcode 83 18 = some (.ldc 60, 2, 0, 0, -1000001) := rfl
theorem r83_18 : Rn 83 (18, [x0, x1, x2, x3, x4, x5, x6], st, a, h) = Rn 83 (20, [x0, x1, x2, x3, x4, x5, x6], .int (-1000001 : Int32) :: st, a, h) := Rn_go c83_18 rfl
theorem c83_20 : mcode 83 20 = some (.invokevirtual 61, 3, 105, 1, 5) := rfl
theorem r83_20 : Rn 83 (20, [x0, x1, x2, x3, x4, x5, x6], [v0, .ref q], a, h) = if mis h q 5 = true then Bk 83 23 [x0, x1, x2, x3, x4, x5, x6] [] (Ec 105 [.ref q, v0] a h) else none := Rn_call1 c83_20 rfl (Nat.le_of_ble_eq_true rfl) rfl rfl (Nat.le_of_ble_eq_true rfl)
theorem c83_23 : mcode 83 23 = some (.ireturn, 1, 0, 0, 0) := rfl
theorem r83_23 : Rn 83 (23, [x0, x1, x2, x3, x4, x5, x6], [.int i], a, h) = some (some (.int i), a, h) := Rn_ireti c83_23
theorem c83_24 : mcode 83 24 = some (.iconst (-1), 1, 0, 0, 0) := rfl
theorem r83_24 : Rn 83 (24, [x0, x1, x2, x3, x4, x5, x6], st, a, h) = Rn 83 (25, [x0, x1, x2, x3, x4, x5, x6], .int (-1 : Int32) :: st, a, h) := Rn_go c83_24 rfl
theorem c83_25 : mcode 83 25 = some (.istore_n 3, 1, 0, 0, 0) := rfl
theorem r83_25 : Rn 83 (25, [x0, x1, x2, x3, x4, x5, x6], .int i :: st, a, h) = Nl x2 (Rn 83 (26, [x0, x1, x2, some (.int i), x4, x5, x6], st, a, h)) := Rn_st1 (k := 3) (v := .int i) x2 c83_25 rfl rfl rfl rfl
theorem c83_26 : mcode 83 26 = some (.bipush 9, 2, 0, 0, 0) := rfl
theorem r83_26 : Rn 83 (26, [x0, x1, x2, x3, x4, x5, x6], st, a, h) = Rn 83 (28, [x0, x1, x2, x3, x4, x5, x6], .int (9 : Int32) :: st, a, h) := Rn_go c83_26 rfl
theorem c83_28 : mcode 83 28 = some (.istore 4, 2, 0, 0, 0) := rfl
theorem r83_28 : Rn 83 (28, [x0, x1, x2, x3, x4, x5, x6], .int i :: st, a, h) = Nl x3 (Rn 83 (30, [x0, x1, x2, x3, some (.int i), x5, x6], st, a, h)) := Rn_st1 (k := 4) (v := .int i) x3 c83_28 rfl rfl rfl rfl
theorem c83_30 : mcode 83 30 = some (.iconst 1, 1, 0, 0, 0) := rfl
theorem r83_30 : Rn 83 (30, [x0, x1, x2, x3, x4, x5, x6], st, a, h) = Rn 83 (31, [x0, x1, x2, x3, x4, x5, x6], .int (1 : Int32) :: st, a, h) := Rn_go c83_30 rfl
theorem c83_31 : mcode 83 31 = some (.aload_n 0, 1, 0, 0, 0) := rfl
theorem r83_31 : Rn 83 (31, [some (.ref q), x1, x2, x3, x4, x5, x6], st, a, h) = Rn 83 (32, [some (.ref q), x1, x2, x3, x4, x5, x6], .ref q :: st, a, h) := Rn_go c83_31 rfl
theorem c83_32 : mcode 83 32 = some (.getfield 12, 3, 5, 0, 0) := rfl
theorem r83_32 : Rn 83 (32, [x0, x1, x2, x3, x4, x5, x6], .ref q :: st, a, h) = Kv 83 35 [x0, x1, x2, x3, x4, x5, x6] st a h (mgf h q 5 0) := Rn_getf c83_32 rfl
theorem c83_35 : mcode 83 35 = some (.getfield 106, 3, 4, 3, 0) := rfl
theorem r83_35 : Rn 83 (35, [x0, x1, x2, x3, x4, x5, x6], .ref q :: st, a, h) = Kv 83 38 [x0, x1, x2, x3, x4, x5, x6] st a h (mgf h q 4 3) := Rn_getf c83_35 rfl
theorem c83_38 : mcode 83 38 = some (.ishl, 1, 0, 0, 0) := rfl
theorem r83_38 : Rn 83 (38, [x0, x1, x2, x3, x4, x5, x6], .int j :: .int i :: st, a, h) = Rn 83 (39, [x0, x1, x2, x3, x4, x5, x6], .int (i <<< (j &&& 31)) :: st, a, h) := Rn_go c83_38 rfl
theorem c83_39 : mcode 83 39 = some (.istore 5, 2, 0, 0, 0) := rfl
theorem r83_39 : Rn 83 (39, [x0, x1, x2, x3, x4, x5, x6], .int i :: st, a, h) = Nl x4 (Rn 83 (41, [x0, x1, x2, x3, x4, some (.int i), x6], st, a, h)) := Rn_st1 (k := 5) (v := .int i) x4 c83_39 rfl rfl rfl rfl
theorem c83_41 : mcode 83 41 = some (.iconst 0, 1, 0, 0, 0) := rfl
theorem r83_41 : Rn 83 (41, [x0, x1, x2, x3, x4, x5, x6], st, a, h) = Rn 83 (42, [x0, x1, x2, x3, x4, x5, x6], .int (0 : Int32) :: st, a, h) := Rn_go c83_41 rfl
theorem c83_42 : mcode 83 42 = some (.istore 6, 2, 0, 0, 0) := rfl
theorem r83_42 : Rn 83 (42, [x0, x1, x2, x3, x4, x5, x6], .int i :: st, a, h) = Nl x5 (Rn 83 (44, [x0, x1, x2, x3, x4, x5, some (.int i)], st, a, h)) := Rn_st1 (k := 6) (v := .int i) x5 c83_42 rfl rfl rfl rfl
theorem c83_44 : mcode 83 44 = some (.iload 6, 2, 0, 0, 0) := rfl
theorem r83_44 : Rn 83 (44, [x0, x1, x2, x3, x4, x5, some (.int i)], st, a, h) = Rn 83 (46, [x0, x1, x2, x3, x4, x5, some (.int i)], .int i :: st, a, h) := Rn_go c83_44 rfl
theorem c83_46 : mcode 83 46 = some (.iload 5, 2, 0, 0, 0) := rfl
theorem r83_46 : Rn 83 (46, [x0, x1, x2, x3, x4, some (.int i), x6], st, a, h) = Rn 83 (48, [x0, x1, x2, x3, x4, some (.int i), x6], .int i :: st, a, h) := Rn_go c83_46 rfl
theorem c83_48 : mcode 83 48 = some (.if_icmp .ge 40, 3, 0, 0, 0) := rfl
theorem r83_48 : Rn 83 (48, [x0, x1, x2, x3, x4, x5, x6], .int j :: .int i :: st, a, h) = if i < j then Rn 83 (51, [x0, x1, x2, x3, x4, x5, x6], st, a, h) else Rn 83 (88, [x0, x1, x2, x3, x4, x5, x6], st, a, h) := Rn_icmpn c83_48 mc_ge rfl rfl
theorem c83_51 : mcode 83 51 = some (.iload 6, 2, 0, 0, 0) := rfl
theorem r83_51 : Rn 83 (51, [x0, x1, x2, x3, x4, x5, some (.int i)], st, a, h) = Rn 83 (53, [x0, x1, x2, x3, x4, x5, some (.int i)], .int i :: st, a, h) := Rn_go c83_51 rfl
theorem c83_53 : mcode 83 53 = some (.invokestatic 90, 3, 226, 1, 0) := rfl
theorem r83_53 : Rn 83 (53, [x0, x1, x2, x3, x4, x5, x6], [v0], a, h) = Bk 83 56 [x0, x1, x2, x3, x4, x5, x6] [] (Ec 226 [v0] a h) := Rn_call0 c83_53 (fun z => nomatch z) rfl (Nat.le_of_ble_eq_true rfl) rfl rfl (Nat.le_of_ble_eq_true rfl)
theorem c83_56 : mcode 83 56 = some (.iload 4, 2, 0, 0, 0) := rfl
theorem r83_56 : Rn 83 (56, [x0, x1, x2, x3, some (.int i), x5, x6], st, a, h) = Rn 83 (58, [x0, x1, x2, x3, some (.int i), x5, x6], .int i :: st, a, h) := Rn_go c83_56 rfl
theorem c83_58 : mcode 83 58 = some (.if_icmp .ge 24, 3, 0, 0, 0) := rfl
theorem r83_58 : Rn 83 (58, [x0, x1, x2, x3, x4, x5, x6], .int j :: .int i :: st, a, h) = if i < j then Rn 83 (61, [x0, x1, x2, x3, x4, x5, x6], st, a, h) else Rn 83 (82, [x0, x1, x2, x3, x4, x5, x6], st, a, h) := Rn_icmpn c83_58 mc_ge rfl rfl
theorem c83_61 : mcode 83 61 = some (.aload_n 0, 1, 0, 0, 0) := rfl
theorem r83_61 : Rn 83 (61, [some (.ref q), x1, x2, x3, x4, x5, x6], st, a, h) = Rn 83 (62, [some (.ref q), x1, x2, x3, x4, x5, x6], .ref q :: st, a, h) := Rn_go c83_61 rfl
theorem c83_62 : mcode 83 62 = some (.iload 6, 2, 0, 0, 0) := rfl
theorem r83_62 : Rn 83 (62, [x0, x1, x2, x3, x4, x5, some (.int i)], st, a, h) = Rn 83 (64, [x0, x1, x2, x3, x4, x5, some (.int i)], .int i :: st, a, h) := Rn_go c83_62 rfl
theorem c83_64 : mcode 83 64 = some (.iload_n 1, 1, 0, 0, 0) := rfl
theorem r83_64 : Rn 83 (64, [x0, some (.int i), x2, x3, x4, x5, x6], st, a, h) = Rn 83 (65, [x0, some (.int i), x2, x3, x4, x5, x6], .int i :: st, a, h) := Rn_go c83_64 rfl
theorem c83_65 : mcode 83 65 = some (.iload_n 2, 1, 0, 0, 0) := rfl
theorem r83_65 : Rn 83 (65, [x0, x1, some (.int i), x3, x4, x5, x6], st, a, h) = Rn 83 (66, [x0, x1, some (.int i), x3, x4, x5, x6], .int i :: st, a, h) := Rn_go c83_65 rfl
theorem c83_66 : mcode 83 66 = some (.invokevirtual 157, 3, 116, 3, 5) := rfl
theorem r83_66 : Rn 83 (66, [x0, x1, x2, x3, x4, x5, x6], [v2, v1, v0, .ref q], a, h) = if mis h q 5 = true then Bk 83 69 [x0, x1, x2, x3, x4, x5, x6] [] (Ec 116 [.ref q, v0, v1, v2] a h) else none := Rn_call1 c83_66 rfl (Nat.le_of_ble_eq_true rfl) rfl rfl (Nat.le_of_ble_eq_true rfl)
theorem c83_69 : mcode 83 69 = some (.ifCond .eq 13, 3, 0, 0, 0) := rfl
theorem r83_69 : Rn 83 (69, [x0, x1, x2, x3, x4, x5, x6], .int i :: st, a, h) = if i = 0 then Rn 83 (82, [x0, x1, x2, x3, x4, x5, x6], st, a, h) else Rn 83 (72, [x0, x1, x2, x3, x4, x5, x6], st, a, h) := Rn_ifc c83_69 mc_eq rfl rfl
theorem c83_72 : mcode 83 72 = some (.iload 6, 2, 0, 0, 0) := rfl
theorem r83_72 : Rn 83 (72, [x0, x1, x2, x3, x4, x5, some (.int i)], st, a, h) = Rn 83 (74, [x0, x1, x2, x3, x4, x5, some (.int i)], .int i :: st, a, h) := Rn_go c83_72 rfl
theorem c83_74 : mcode 83 74 = some (.istore_n 3, 1, 0, 0, 0) := rfl
theorem r83_74 : Rn 83 (74, [x0, x1, x2, x3, x4, x5, x6], .int i :: st, a, h) = Nl x2 (Rn 83 (75, [x0, x1, x2, some (.int i), x4, x5, x6], st, a, h)) := Rn_st1 (k := 3) (v := .int i) x2 c83_74 rfl rfl rfl rfl
theorem c83_75 : mcode 83 75 = some (.iload 6, 2, 0, 0, 0) := rfl
theorem r83_75 : Rn 83 (75, [x0, x1, x2, x3, x4, x5, some (.int i)], st, a, h) = Rn 83 (77, [x0, x1, x2, x3, x4, x5, some (.int i)], .int i :: st, a, h) := Rn_go c83_75 rfl
theorem c83_77 : mcode 83 77 = some (.invokestatic 90, 3, 226, 1, 0) := rfl
theorem r83_77 : Rn 83 (77, [x0, x1, x2, x3, x4, x5, x6], [v0], a, h) = Bk 83 80 [x0, x1, x2, x3, x4, x5, x6] [] (Ec 226 [v0] a h) := Rn_call0 c83_77 (fun z => nomatch z) rfl (Nat.le_of_ble_eq_true rfl) rfl rfl (Nat.le_of_ble_eq_true rfl)
theorem c83_80 : mcode 83 80 = some (.istore 4, 2, 0, 0, 0) := rfl
theorem r83_80 : Rn 83 (80, [x0, x1, x2, x3, x4, x5, x6], .int i :: st, a, h) = Nl x3 (Rn 83 (82, [x0, x1, x2, x3, some (.int i), x5, x6], st, a, h)) := Rn_st1 (k := 4) (v := .int i) x3 c83_80 rfl rfl rfl rfl
theorem c83_82 : mcode 83 82 = some (.iinc 6 1, 3, 0, 0, 0) := rfl
theorem r83_82 : Rn 83 (82, [x0, x1, x2, x3, x4, x5, some (.int i)], st, a, h) = Nl x5 (Rn 83 (85, [x0, x1, x2, x3, x4, x5, some (.int (i + (1 : Int32)))], st, a, h)) := Rn_st1 (k := 6) (v := .int (i + (1 : Int32))) x5 c83_82 rfl rfl rfl rfl
theorem c83_85 : mcode 83 85 = some (.goto (-41), 3, 0, 0, 0) := rfl
theorem r83_85 : Rn 83 (85, [x0, x1, x2, x3, x4, x5, x6], st, a, h) = Rn 83 (44, [x0, x1, x2, x3, x4, x5, x6], st, a, h) := Rn_goto c83_85 rfl
theorem c83_88 : mcode 83 88 = some (.iload_n 3, 1, 0, 0, 0) := rfl
theorem r83_88 : Rn 83 (88, [x0, x1, x2, some (.int i), x4, x5, x6], st, a, h) = Rn 83 (89, [x0, x1, x2, some (.int i), x4, x5, x6], .int i :: st, a, h) := Rn_go c83_88 rfl
theorem c83_89 : mcode 83 89 = some (.iconst (-1), 1, 0, 0, 0) := rfl
theorem r83_89 : Rn 83 (89, [x0, x1, x2, x3, x4, x5, x6], st, a, h) = Rn 83 (90, [x0, x1, x2, x3, x4, x5, x6], .int (-1 : Int32) :: st, a, h) := Rn_go c83_89 rfl
theorem c83_90 : mcode 83 90 = some (.if_icmp .ne 12, 3, 0, 0, 0) := rfl
theorem r83_90 : Rn 83 (90, [x0, x1, x2, x3, x4, x5, x6], .int j :: .int i :: st, a, h) = if i = j then Rn 83 (93, [x0, x1, x2, x3, x4, x5, x6], st, a, h) else Rn 83 (102, [x0, x1, x2, x3, x4, x5, x6], st, a, h) := Rn_icmpn c83_90 mc_ne rfl rfl
theorem c83_93 : mcode 83 93 = some (.aload_n 0, 1, 0, 0, 0) := rfl
theorem r83_93 : Rn 83 (93, [some (.ref q), x1, x2, x3, x4, x5, x6], st, a, h) = Rn 83 (94, [some (.ref q), x1, x2, x3, x4, x5, x6], .ref q :: st, a, h) := Rn_go c83_93 rfl
theorem c83_94 : mcode 83 94 = some (.ldc 146, 2, 0, 0, -1000004) := rfl
theorem r83_94 : Rn 83 (94, [x0, x1, x2, x3, x4, x5, x6], st, a, h) = Rn 83 (96, [x0, x1, x2, x3, x4, x5, x6], .int (-1000004 : Int32) :: st, a, h) := Rn_go c83_94 rfl
theorem c83_96 : mcode 83 96 = some (.invokevirtual 61, 3, 105, 1, 5) := rfl
theorem r83_96 : Rn 83 (96, [x0, x1, x2, x3, x4, x5, x6], [v0, .ref q], a, h) = if mis h q 5 = true then Bk 83 99 [x0, x1, x2, x3, x4, x5, x6] [] (Ec 105 [.ref q, v0] a h) else none := Rn_call1 c83_96 rfl (Nat.le_of_ble_eq_true rfl) rfl rfl (Nat.le_of_ble_eq_true rfl)
theorem c83_99 : mcode 83 99 = some (.goto 4, 3, 0, 0, 0) := rfl
theorem r83_99 : Rn 83 (99, [x0, x1, x2, x3, x4, x5, x6], st, a, h) = Rn 83 (103, [x0, x1, x2, x3, x4, x5, x6], st, a, h) := Rn_goto c83_99 rfl
theorem c83_102 : mcode 83 102 = some (.iload_n 3, 1, 0, 0, 0) := rfl
theorem r83_102 : Rn 83 (102, [x0, x1, x2, some (.int i), x4, x5, x6], st, a, h) = Rn 83 (103, [x0, x1, x2, some (.int i), x4, x5, x6], .int i :: st, a, h) := Rn_go c83_102 rfl
theorem c83_103 : mcode 83 103 = some (.ireturn, 1, 0, 0, 0) := rfl
theorem r83_103 : Rn 83 (103, [x0, x1, x2, x3, x4, x5, x6], [.int i], a, h) = some (some (.int i), a, h) := Rn_ireti c83_103
theorem c84_0 : mcode 84 0 = some (.aload_n 0, 1, 0, 0, 0) := rfl
theorem r84_0 : Rn 84 (0, [some (.ref q), x1, x2, x3, x4, x5, x6], st, a, h) = Rn 84 (1, [some (.ref q), x1, x2, x3, x4, x5, x6], .ref q :: st, a, h) := Rn_go c84_0 rfl
theorem c84_1 : mcode 84 1 = some (.iload_n 1, 1, 0, 0, 0) := rfl
theorem r84_1 : Rn 84 (1, [x0, some (.int i), x2, x3, x4, x5, x6], st, a, h) = Rn 84 (2, [x0, some (.int i), x2, x3, x4, x5, x6], .int i :: st, a, h) := Rn_go c84_1 rfl
theorem c84_2 : mcode 84 2 = some (.iload_n 2, 1, 0, 0, 0) := rfl
theorem r84_2 : Rn 84 (2, [x0, x1, some (.int i), x3, x4, x5, x6], st, a, h) = Rn 84 (3, [x0, x1, some (.int i), x3, x4, x5, x6], .int i :: st, a, h) := Rn_go c84_2 rfl
theorem c84_3 : mcode 84 3 = some (.iload_n 3, 1, 0, 0, 0) := rfl
theorem r84_3 : Rn 84 (3, [x0, x1, x2, some (.int i), x4, x5, x6], st, a, h) = Rn 84 (4, [x0, x1, x2, some (.int i), x4, x5, x6], .int i :: st, a, h) := Rn_go c84_3 rfl
theorem c84_4 : mcode 84 4 = some (.invokevirtual 160, 3, 119, 3, 5) := rfl
theorem r84_4 : Rn 84 (4, [x0, x1, x2, x3, x4, x5, x6], [v2, v1, v0, .ref q], a, h) = if mis h q 5 = true then Bk 84 7 [x0, x1, x2, x3, x4, x5, x6] [] (Ec 119 [.ref q, v0, v1, v2] a h) else none := Rn_call1 c84_4 rfl (Nat.le_of_ble_eq_true rfl) rfl rfl (Nat.le_of_ble_eq_true rfl)
theorem c84_7 : mcode 84 7 = some (.istore 4, 2, 0, 0, 0) := rfl
theorem r84_7 : Rn 84 (7, [x0, x1, x2, x3, x4, x5, x6], .int i :: st, a, h) = Nl x3 (Rn 84 (9, [x0, x1, x2, x3, some (.int i), x5, x6], st, a, h)) := Rn_st1 (k := 4) (v := .int i) x3 c84_7 rfl rfl rfl rfl
theorem c84_9 : mcode 84 9 = some (.iload 4, 2, 0, 0, 0) := rfl
theorem r84_9 : Rn 84 (9, [x0, x1, x2, x3, some (.int i), x5, x6], st, a, h) = Rn 84 (11, [x0, x1, x2, x3, some (.int i), x5, x6], .int i :: st, a, h) := Rn_go c84_9 rfl
theorem c84_11 : mcode 84 11 = some (.ifCond .eq 10, 3, 0, 0, 0) := rfl
theorem r84_11 : Rn 84 (11, [x0, x1, x2, x3, x4, x5, x6], .int i :: st, a, h) = if i = 0 then Rn 84 (21, [x0, x1, x2, x3, x4, x5, x6], st, a, h) else Rn 84 (14, [x0, x1, x2, x3, x4, x5, x6], st, a, h) := Rn_ifc c84_11 mc_eq rfl rfl
theorem c84_14 : mcode 84 14 = some (.aload_n 0, 1, 0, 0, 0) := rfl
theorem r84_14 : Rn 84 (14, [some (.ref q), x1, x2, x3, x4, x5, x6], st, a, h) = Rn 84 (15, [some (.ref q), x1, x2, x3, x4, x5, x6], .ref q :: st, a, h) := Rn_go c84_14 rfl
theorem c84_15 : mcode 84 15 = some (.iload 4, 2, 0, 0, 0) := rfl
theorem r84_15 : Rn 84 (15, [x0, x1, x2, x3, some (.int i), x5, x6], st, a, h) = Rn 84 (17, [x0, x1, x2, x3, some (.int i), x5, x6], .int i :: st, a, h) := Rn_go c84_15 rfl
theorem c84_17 : mcode 84 17 = some (.invokevirtual 61, 3, 105, 1, 5) := rfl
theorem r84_17 : Rn 84 (17, [x0, x1, x2, x3, x4, x5, x6], [v0, .ref q], a, h) = if mis h q 5 = true then Bk 84 20 [x0, x1, x2, x3, x4, x5, x6] [] (Ec 105 [.ref q, v0] a h) else none := Rn_call1 c84_17 rfl (Nat.le_of_ble_eq_true rfl) rfl rfl (Nat.le_of_ble_eq_true rfl)
theorem c84_20 : mcode 84 20 = some (.ireturn, 1, 0, 0, 0) := rfl
theorem r84_20 : Rn 84 (20, [x0, x1, x2, x3, x4, x5, x6], [.int i], a, h) = some (some (.int i), a, h) := Rn_ireti c84_20
theorem c84_21 : mcode 84 21 = some (.iconst 0, 1, 0, 0, 0) := rfl
theorem r84_21 : Rn 84 (21, [x0, x1, x2, x3, x4, x5, x6], st, a, h) = Rn 84 (22, [x0, x1, x2, x3, x4, x5, x6], .int (0 : Int32) :: st, a, h) := Rn_go c84_21 rfl
theorem c84_22 : mcode 84 22 = some (.istore 5, 2, 0, 0, 0) := rfl
theorem r84_22 : Rn 84 (22, [x0, x1, x2, x3, x4, x5, x6], .int i :: st, a, h) = Nl x4 (Rn 84 (24, [x0, x1, x2, x3, x4, some (.int i), x6], st, a, h)) := Rn_st1 (k := 5) (v := .int i) x4 c84_22 rfl rfl rfl rfl
theorem c84_24 : mcode 84 24 = some (.iconst 0, 1, 0, 0, 0) := rfl
theorem r84_24 : Rn 84 (24, [x0, x1, x2, x3, x4, x5, x6], st, a, h) = Rn 84 (25, [x0, x1, x2, x3, x4, x5, x6], .int (0 : Int32) :: st, a, h) := Rn_go c84_24 rfl
theorem c84_25 : mcode 84 25 = some (.istore 6, 2, 0, 0, 0) := rfl
theorem r84_25 : Rn 84 (25, [x0, x1, x2, x3, x4, x5, x6], .int i :: st, a, h) = Nl x5 (Rn 84 (27, [x0, x1, x2, x3, x4, x5, some (.int i)], st, a, h)) := Rn_st1 (k := 6) (v := .int i) x5 c84_25 rfl rfl rfl rfl
theorem c84_27 : mcode 84 27 = some (.iload 6, 2, 0, 0, 0) := rfl
theorem r84_27 : Rn 84 (27, [x0, x1, x2, x3, x4, x5, some (.int i)], st, a, h) = Rn 84 (29, [x0, x1, x2, x3, x4, x5, some (.int i)], .int i :: st, a, h) := Rn_go c84_27 rfl
theorem c84_29 : mcode 84 29 = some (.sipush 200, 3, 0, 0, 0) := rfl
theorem r84_29 : Rn 84 (29, [x0, x1, x2, x3, x4, x5, x6], st, a, h) = Rn 84 (32, [x0, x1, x2, x3, x4, x5, x6], .int (200 : Int32) :: st, a, h) := Rn_go c84_29 rfl
theorem c84_32 : mcode 84 32 = some (.if_icmp .gt 28, 3, 0, 0, 0) := rfl
theorem r84_32 : Rn 84 (32, [x0, x1, x2, x3, x4, x5, x6], .int j :: .int i :: st, a, h) = if j < i then Rn 84 (60, [x0, x1, x2, x3, x4, x5, x6], st, a, h) else Rn 84 (35, [x0, x1, x2, x3, x4, x5, x6], st, a, h) := Rn_icmp c84_32 mc_gt rfl rfl
theorem c84_35 : mcode 84 35 = some (.aload_n 0, 1, 0, 0, 0) := rfl
theorem r84_35 : Rn 84 (35, [some (.ref q), x1, x2, x3, x4, x5, x6], st, a, h) = Rn 84 (36, [some (.ref q), x1, x2, x3, x4, x5, x6], .ref q :: st, a, h) := Rn_go c84_35 rfl
theorem c84_36 : mcode 84 36 = some (.aload_n 0, 1, 0, 0, 0) := rfl
theorem r84_36 : Rn 84 (36, [some (.ref q), x1, x2, x3, x4, x5, x6], st, a, h) = Rn 84 (37, [some (.ref q), x1, x2, x3, x4, x5, x6], .ref q :: st, a, h) := Rn_go c84_36 rfl
theorem c84_37 : mcode 84 37 = some (.iload_n 1, 1, 0, 0, 0) := rfl
theorem r84_37 : Rn 84 (37, [x0, some (.int i), x2, x3, x4, x5, x6], st, a, h) = Rn 84 (38, [x0, some (.int i), x2, x3, x4, x5, x6], .int i :: st, a, h) := Rn_go c84_37 rfl
theorem c84_38 : mcode 84 38 = some (.invokevirtual 164, 3, 117, 1, 5) := rfl
theorem r84_38 : Rn 84 (38, [x0, x1, x2, x3, x4, x5, x6], [v0, .ref q, .ref q0], a, h) = if mis h q 5 = true then Bk 84 41 [x0, x1, x2, x3, x4, x5, x6] [.ref q0] (Ec 117 [.ref q, v0] a h) else none := Rn_call1 c84_38 rfl (Nat.le_of_ble_eq_true rfl) rfl rfl (Nat.le_of_ble_eq_true rfl)
theorem c84_41 : mcode 84 41 = some (.iload_n 2, 1, 0, 0, 0) := rfl
theorem r84_41 : Rn 84 (41, [x0, x1, some (.int i), x3, x4, x5, x6], st, a, h) = Rn 84 (42, [x0, x1, some (.int i), x3, x4, x5, x6], .int i :: st, a, h) := Rn_go c84_41 rfl
theorem c84_42 : mcode 84 42 = some (.iload_n 3, 1, 0, 0, 0) := rfl
theorem r84_42 : Rn 84 (42, [x0, x1, x2, some (.int i), x4, x5, x6], st, a, h) = Rn 84 (43, [x0, x1, x2, some (.int i), x4, x5, x6], .int i :: st, a, h) := Rn_go c84_42 rfl
theorem c84_43 : mcode 84 43 = some (.iload 6, 2, 0, 0, 0) := rfl
theorem r84_43 : Rn 84 (43, [x0, x1, x2, x3, x4, x5, some (.int i)], st, a, h) = Rn 84 (45, [x0, x1, x2, x3, x4, x5, some (.int i)], .int i :: st, a, h) := Rn_go c84_43 rfl
theorem c84_45 : mcode 84 45 = some (.invokevirtual 168, 3, 120, 4, 5) := rfl
theorem r84_45 : Rn 84 (45, [x0, x1, x2, x3, x4, x5, x6], [v3, v2, v1, v0, .ref q], a, h) = if mis h q 5 = true then Bk 84 48 [x0, x1, x2, x3, x4, x5, x6] [] (Ec 120 [.ref q, v0, v1, v2, v3] a h) else none := Rn_call1 c84_45 rfl (Nat.le_of_ble_eq_true rfl) rfl rfl (Nat.le_of_ble_eq_true rfl)
theorem c84_48 : mcode 84 48 = some (.ifCond .eq 6, 3, 0, 0, 0) := rfl
theorem r84_48 : Rn 84 (48, [x0, x1, x2, x3, x4, x5, x6], .int i :: st, a, h) = if i = 0 then Rn 84 (54, [x0, x1, x2, x3, x4, x5, x6], st, a, h) else Rn 84 (51, [x0, x1, x2, x3, x4, x5, x6], st, a, h) := Rn_ifc c84_48 mc_eq rfl rfl
theorem c84_51 : mcode 84 51 = some (.iinc 5 1, 3, 0, 0, 0) := rfl
theorem r84_51 : Rn 84 (51, [x0, x1, x2, x3, x4, some (.int i), x6], st, a, h) = Nl x4 (Rn 84 (54, [x0, x1, x2, x3, x4, some (.int (i + (1 : Int32))), x6], st, a, h)) := Rn_st1 (k := 5) (v := .int (i + (1 : Int32))) x4 c84_51 rfl rfl rfl rfl
theorem c84_54 : mcode 84 54 = some (.iinc 6 1, 3, 0, 0, 0) := rfl
theorem r84_54 : Rn 84 (54, [x0, x1, x2, x3, x4, x5, some (.int i)], st, a, h) = Nl x5 (Rn 84 (57, [x0, x1, x2, x3, x4, x5, some (.int (i + (1 : Int32)))], st, a, h)) := Rn_st1 (k := 6) (v := .int (i + (1 : Int32))) x5 c84_54 rfl rfl rfl rfl
theorem c84_57 : mcode 84 57 = some (.goto (-30), 3, 0, 0, 0) := rfl
theorem r84_57 : Rn 84 (57, [x0, x1, x2, x3, x4, x5, x6], st, a, h) = Rn 84 (27, [x0, x1, x2, x3, x4, x5, x6], st, a, h) := Rn_goto c84_57 rfl
theorem c84_60 : mcode 84 60 = some (.iload 5, 2, 0, 0, 0) := rfl
theorem r84_60 : Rn 84 (60, [x0, x1, x2, x3, x4, some (.int i), x6], st, a, h) = Rn 84 (62, [x0, x1, x2, x3, x4, some (.int i), x6], .int i :: st, a, h) := Rn_go c84_60 rfl
theorem c84_62 : mcode 84 62 = some (.ireturn, 1, 0, 0, 0) := rfl
theorem r84_62 : Rn 84 (62, [x0, x1, x2, x3, x4, x5, x6], [.int i], a, h) = some (some (.int i), a, h) := Rn_ireti c84_62
theorem c85_0 : mcode 85 0 = some (.aload_n 0, 1, 0, 0, 0) := rfl
theorem r85_0 : Rn 85 (0, [some (.ref q), x1, x2, x3, x4, x5], st, a, h) = Rn 85 (1, [some (.ref q), x1, x2, x3, x4, x5], .ref q :: st, a, h) := Rn_go c85_0 rfl
theorem c85_1 : mcode 85 1 = some (.iload_n 1, 1, 0, 0, 0) := rfl
theorem r85_1 : Rn 85 (1, [x0, some (.int i), x2, x3, x4, x5], st, a, h) = Rn 85 (2, [x0, some (.int i), x2, x3, x4, x5], .int i :: st, a, h) := Rn_go c85_1 rfl
theorem c85_2 : mcode 85 2 = some (.iload_n 2, 1, 0, 0, 0) := rfl
theorem r85_2 : Rn 85 (2, [x0, x1, some (.int i), x3, x4, x5], st, a, h) = Rn 85 (3, [x0, x1, some (.int i), x3, x4, x5], .int i :: st, a, h) := Rn_go c85_2 rfl
theorem c85_3 : mcode 85 3 = some (.iload_n 3, 1, 0, 0, 0) := rfl
theorem r85_3 : Rn 85 (3, [x0, x1, x2, some (.int i), x4, x5], st, a, h) = Rn 85 (4, [x0, x1, x2, some (.int i), x4, x5], .int i :: st, a, h) := Rn_go c85_3 rfl
theorem c85_4 : mcode 85 4 = some (.invokevirtual 160, 3, 119, 3, 5) := rfl
theorem r85_4 : Rn 85 (4, [x0, x1, x2, x3, x4, x5], [v2, v1, v0, .ref q], a, h) = if mis h q 5 = true then Bk 85 7 [x0, x1, x2, x3, x4, x5] [] (Ec 119 [.ref q, v0, v1, v2] a h) else none := Rn_call1 c85_4 rfl (Nat.le_of_ble_eq_true rfl) rfl rfl (Nat.le_of_ble_eq_true rfl)
theorem c85_7 : mcode 85 7 = some (.istore 4, 2, 0, 0, 0) := rfl
theorem r85_7 : Rn 85 (7, [x0, x1, x2, x3, x4, x5], .int i :: st, a, h) = Nl x3 (Rn 85 (9, [x0, x1, x2, x3, some (.int i), x5], st, a, h)) := Rn_st1 (k := 4) (v := .int i) x3 c85_7 rfl rfl rfl rfl
theorem c85_9 : mcode 85 9 = some (.iload 4, 2, 0, 0, 0) := rfl
theorem r85_9 : Rn 85 (9, [x0, x1, x2, x3, some (.int i), x5], st, a, h) = Rn 85 (11, [x0, x1, x2, x3, some (.int i), x5], .int i :: st, a, h) := Rn_go c85_9 rfl
theorem c85_11 : mcode 85 11 = some (.ifCond .eq 10, 3, 0, 0, 0) := rfl
theorem r85_11 : Rn 85 (11, [x0, x1, x2, x3, x4, x5], .int i :: st, a, h) = if i = 0 then Rn 85 (21, [x0, x1, x2, x3, x4, x5], st, a, h) else Rn 85 (14, [x0, x1, x2, x3, x4, x5], st, a, h) := Rn_ifc c85_11 mc_eq rfl rfl
theorem c85_14 : mcode 85 14 = some (.aload_n 0, 1, 0, 0, 0) := rfl
theorem r85_14 : Rn 85 (14, [some (.ref q), x1, x2, x3, x4, x5], st, a, h) = Rn 85 (15, [some (.ref q), x1, x2, x3, x4, x5], .ref q :: st, a, h) := Rn_go c85_14 rfl
theorem c85_15 : mcode 85 15 = some (.iload 4, 2, 0, 0, 0) := rfl
theorem r85_15 : Rn 85 (15, [x0, x1, x2, x3, some (.int i), x5], st, a, h) = Rn 85 (17, [x0, x1, x2, x3, some (.int i), x5], .int i :: st, a, h) := Rn_go c85_15 rfl
theorem c85_17 : mcode 85 17 = some (.invokevirtual 61, 3, 105, 1, 5) := rfl
theorem r85_17 : Rn 85 (17, [x0, x1, x2, x3, x4, x5], [v0, .ref q], a, h) = if mis h q 5 = true then Bk 85 20 [x0, x1, x2, x3, x4, x5] [] (Ec 105 [.ref q, v0] a h) else none := Rn_call1 c85_17 rfl (Nat.le_of_ble_eq_true rfl) rfl rfl (Nat.le_of_ble_eq_true rfl)
theorem c85_20 : mcode 85 20 = some (.ireturn, 1, 0, 0, 0) := rfl
theorem r85_20 : Rn 85 (20, [x0, x1, x2, x3, x4, x5], [.int i], a, h) = some (some (.int i), a, h) := Rn_ireti c85_20
theorem c85_21 : mcode 85 21 = some (.iconst 0, 1, 0, 0, 0) := rfl
theorem r85_21 : Rn 85 (21, [x0, x1, x2, x3, x4, x5], st, a, h) = Rn 85 (22, [x0, x1, x2, x3, x4, x5], .int (0 : Int32) :: st, a, h) := Rn_go c85_21 rfl
theorem c85_22 : mcode 85 22 = some (.istore 5, 2, 0, 0, 0) := rfl
theorem r85_22 : Rn 85 (22, [x0, x1, x2, x3, x4, x5], .int i :: st, a, h) = Nl x4 (Rn 85 (24, [x0, x1, x2, x3, x4, some (.int i)], st, a, h)) := Rn_st1 (k := 5) (v := .int i) x4 c85_22 rfl rfl rfl rfl
theorem c85_24 : mcode 85 24 = some (.iload 5, 2, 0, 0, 0) := rfl
theorem r85_24 : Rn 85 (24, [x0, x1, x2, x3, x4, some (.int i)], st, a, h) = Rn 85 (26, [x0, x1, x2, x3, x4, some (.int i)], .int i :: st, a, h) := Rn_go c85_24 rfl
theorem c85_26 : mcode 85 26 = some (.sipush 200, 3, 0, 0, 0) := rfl
theorem r85_26 : Rn 85 (26, [x0, x1, x2, x3, x4, x5], st, a, h) = Rn 85 (29, [x0, x1, x2, x3, x4, x5], .int (200 : Int32) :: st, a, h) := Rn_go c85_26 rfl
theorem c85_29 : mcode 85 29 = some (.if_icmp .gt 28, 3, 0, 0, 0) := rfl
theorem r85_29 : Rn 85 (29, [x0, x1, x2, x3, x4, x5], .int j :: .int i :: st, a, h) = if j < i then Rn 85 (57, [x0, x1, x2, x3, x4, x5], st, a, h) else Rn 85 (32, [x0, x1, x2, x3, x4, x5], st, a, h) := Rn_icmp c85_29 mc_gt rfl rfl
theorem c85_32 : mcode 85 32 = some (.aload_n 0, 1, 0, 0, 0) := rfl
theorem r85_32 : Rn 85 (32, [some (.ref q), x1, x2, x3, x4, x5], st, a, h) = Rn 85 (33, [some (.ref q), x1, x2, x3, x4, x5], .ref q :: st, a, h) := Rn_go c85_32 rfl
theorem c85_33 : mcode 85 33 = some (.aload_n 0, 1, 0, 0, 0) := rfl
theorem r85_33 : Rn 85 (33, [some (.ref q), x1, x2, x3, x4, x5], st, a, h) = Rn 85 (34, [some (.ref q), x1, x2, x3, x4, x5], .ref q :: st, a, h) := Rn_go c85_33 rfl
theorem c85_34 : mcode 85 34 = some (.iload_n 1, 1, 0, 0, 0) := rfl
theorem r85_34 : Rn 85 (34, [x0, some (.int i), x2, x3, x4, x5], st, a, h) = Rn 85 (35, [x0, some (.int i), x2, x3, x4, x5], .int i :: st, a, h) := Rn_go c85_34 rfl
theorem c85_35 : mcode 85 35 = some (.invokevirtual 164, 3, 117, 1, 5) := rfl
theorem r85_35 : Rn 85 (35, [x0, x1, x2, x3, x4, x5], [v0, .ref q, .ref q0], a, h) = if mis h q 5 = true then Bk 85 38 [x0, x1, x2, x3, x4, x5] [.ref q0] (Ec 117 [.ref q, v0] a h) else none := Rn_call1 c85_35 rfl (Nat.le_of_ble_eq_true rfl) rfl rfl (Nat.le_of_ble_eq_true rfl)
theorem c85_38 : mcode 85 38 = some (.iload_n 2, 1, 0, 0, 0) := rfl
theorem r85_38 : Rn 85 (38, [x0, x1, some (.int i), x3, x4, x5], st, a, h) = Rn 85 (39, [x0, x1, some (.int i), x3, x4, x5], .int i :: st, a, h) := Rn_go c85_38 rfl
theorem c85_39 : mcode 85 39 = some (.iload_n 3, 1, 0, 0, 0) := rfl
theorem r85_39 : Rn 85 (39, [x0, x1, x2, some (.int i), x4, x5], st, a, h) = Rn 85 (40, [x0, x1, x2, some (.int i), x4, x5], .int i :: st, a, h) := Rn_go c85_39 rfl
theorem c85_40 : mcode 85 40 = some (.iload 5, 2, 0, 0, 0) := rfl
theorem r85_40 : Rn 85 (40, [x0, x1, x2, x3, x4, some (.int i)], st, a, h) = Rn 85 (42, [x0, x1, x2, x3, x4, some (.int i)], .int i :: st, a, h) := Rn_go c85_40 rfl
theorem c85_42 : mcode 85 42 = some (.invokevirtual 168, 3, 120, 4, 5) := rfl
theorem r85_42 : Rn 85 (42, [x0, x1, x2, x3, x4, x5], [v3, v2, v1, v0, .ref q], a, h) = if mis h q 5 = true then Bk 85 45 [x0, x1, x2, x3, x4, x5] [] (Ec 120 [.ref q, v0, v1, v2, v3] a h) else none := Rn_call1 c85_42 rfl (Nat.le_of_ble_eq_true rfl) rfl rfl (Nat.le_of_ble_eq_true rfl)
theorem c85_45 : mcode 85 45 = some (.ifCond .eq 6, 3, 0, 0, 0) := rfl
theorem r85_45 : Rn 85 (45, [x0, x1, x2, x3, x4, x5], .int i :: st, a, h) = if i = 0 then Rn 85 (51, [x0, x1, x2, x3, x4, x5], st, a, h) else Rn 85 (48, [x0, x1, x2, x3, x4, x5], st, a, h) := Rn_ifc c85_45 mc_eq rfl rfl
theorem c85_48 : mcode 85 48 = some (.iload 5, 2, 0, 0, 0) := rfl
theorem r85_48 : Rn 85 (48, [x0, x1, x2, x3, x4, some (.int i)], st, a, h) = Rn 85 (50, [x0, x1, x2, x3, x4, some (.int i)], .int i :: st, a, h) := Rn_go c85_48 rfl
theorem c85_50 : mcode 85 50 = some (.ireturn, 1, 0, 0, 0) := rfl
theorem r85_50 : Rn 85 (50, [x0, x1, x2, x3, x4, x5], [.int i], a, h) = some (some (.int i), a, h) := Rn_ireti c85_50
theorem c85_51 : mcode 85 51 = some (.iinc 5 1, 3, 0, 0, 0) := rfl
theorem r85_51 : Rn 85 (51, [x0, x1, x2, x3, x4, some (.int i)], st, a, h) = Nl x4 (Rn 85 (54, [x0, x1, x2, x3, x4, some (.int (i + (1 : Int32)))], st, a, h)) := Rn_st1 (k := 5) (v := .int (i + (1 : Int32))) x4 c85_51 rfl rfl rfl rfl
theorem c85_54 : mcode 85 54 = some (.goto (-30), 3, 0, 0, 0) := rfl
theorem r85_54 : Rn 85 (54, [x0, x1, x2, x3, x4, x5], st, a, h) = Rn 85 (24, [x0, x1, x2, x3, x4, x5], st, a, h) := Rn_goto c85_54 rfl
theorem c85_57 : mcode 85 57 = some (.aload_n 0, 1, 0, 0, 0) := rfl
theorem r85_57 : Rn 85 (57, [some (.ref q), x1, x2, x3, x4, x5], st, a, h) = Rn 85 (58, [some (.ref q), x1, x2, x3, x4, x5], .ref q :: st, a, h) := Rn_go c85_57 rfl
theorem c85_58 : mcode 85 58 = some (.ldc 146, 2, 0, 0, -1000004) := rfl
theorem r85_58 : Rn 85 (58, [x0, x1, x2, x3, x4, x5], st, a, h) = Rn 85 (60, [x0, x1, x2, x3, x4, x5], .int (-1000004 : Int32) :: st, a, h) := Rn_go c85_58 rfl
theorem c85_60 : mcode 85 60 = some (.invokevirtual 61, 3, 105, 1, 5) := rfl
theorem r85_60 : Rn 85 (60, [x0, x1, x2, x3, x4, x5], [v0, .ref q], a, h) = if mis h q 5 = true then Bk 85 63 [x0, x1, x2, x3, x4, x5] [] (Ec 105 [.ref q, v0] a h) else none := Rn_call1 c85_60 rfl (Nat.le_of_ble_eq_true rfl) rfl rfl (Nat.le_of_ble_eq_true rfl)
theorem c85_63 : mcode 85 63 = some (.ireturn, 1, 0, 0, 0) := rfl
theorem r85_63 : Rn 85 (63, [x0, x1, x2, x3, x4, x5], [.int i], a, h) = some (some (.int i), a, h) := Rn_ireti c85_63
theorem c86_0 : mcode 86 0 = some (.aload_n 0, 1, 0, 0, 0) := rfl
theorem r86_0 : Rn 86 (0, [some (.ref q), x1, x2, x3, x4, x5], st, a, h) = Rn 86 (1, [some (.ref q), x1, x2, x3, x4, x5], .ref q :: st, a, h) := Rn_go c86_0 rfl
theorem c86_1 : mcode 86 1 = some (.iload_n 1, 1, 0, 0, 0) := rfl
theorem r86_1 : Rn 86 (1, [x0, some (.int i), x2, x3, x4, x5], st, a, h) = Rn 86 (2, [x0, some (.int i), x2, x3, x4, x5], .int i :: st, a, h) := Rn_go c86_1 rfl
theorem c86_2 : mcode 86 2 = some (.invokevirtual 172, 3, 118, 1, 5) := rfl
theorem r86_2 : Rn 86 (2, [x0, x1, x2, x3, x4, x5], [v0, .ref q], a, h) = if mis h q 5 = true then Bk 86 5 [x0, x1, x2, x3, x4, x5] [] (Ec 118 [.ref q, v0] a h) else none := Rn_call1 c86_2 rfl (Nat.le_of_ble_eq_true rfl) rfl rfl (Nat.le_of_ble_eq_true rfl)
theorem c86_5 : mcode 86 5 = some (.istore_n 3, 1, 0, 0, 0) := rfl
theorem r86_5 : Rn 86 (5, [x0, x1, x2, x3, x4, x5], .int i :: st, a, h) = Nl x2 (Rn 86 (6, [x0, x1, x2, some (.int i), x4, x5], st, a, h)) := Rn_st1 (k := 3) (v := .int i) x2 c86_5 rfl rfl rfl rfl
theorem c86_6 : mcode 86 6 = some (.iload_n 3, 1, 0, 0, 0) := rfl
theorem r86_6 : Rn 86 (6, [x0, x1, x2, some (.int i), x4, x5], st, a, h) = Rn 86 (7, [x0, x1, x2, some (.int i), x4, x5], .int i :: st, a, h) := Rn_go c86_6 rfl
theorem c86_7 : mcode 86 7 = some (.ifCond .eq 9, 3, 0, 0, 0) := rfl
theorem r86_7 : Rn 86 (7, [x0, x1, x2, x3, x4, x5], .int i :: st, a, h) = if i = 0 then Rn 86 (16, [x0, x1, x2, x3, x4, x5], st, a, h) else Rn 86 (10, [x0, x1, x2, x3, x4, x5], st, a, h) := Rn_ifc c86_7 mc_eq rfl rfl
theorem c86_10 : mcode 86 10 = some (.aload_n 0, 1, 0, 0, 0) := rfl
theorem r86_10 : Rn 86 (10, [some (.ref q), x1, x2, x3, x4, x5], st, a, h) = Rn 86 (11, [some (.ref q), x1, x2, x3, x4, x5], .ref q :: st, a, h) := Rn_go c86_10 rfl
theorem c86_11 : mcode 86 11 = some (.iload_n 3, 1, 0, 0, 0) := rfl
theorem r86_11 : Rn 86 (11, [x0, x1, x2, some (.int i), x4, x5], st, a, h) = Rn 86 (12, [x0, x1, x2, some (.int i), x4, x5], .int i :: st, a, h) := Rn_go c86_11 rfl
theorem c86_12 : mcode 86 12 = some (.invokevirtual 61, 3, 105, 1, 5) := rfl
theorem r86_12 : Rn 86 (12, [x0, x1, x2, x3, x4, x5], [v0, .ref q], a, h) = if mis h q 5 = true then Bk 86 15 [x0, x1, x2, x3, x4, x5] [] (Ec 105 [.ref q, v0] a h) else none := Rn_call1 c86_12 rfl (Nat.le_of_ble_eq_true rfl) rfl rfl (Nat.le_of_ble_eq_true rfl)
theorem c86_15 : mcode 86 15 = some (.ireturn, 1, 0, 0, 0) := rfl
theorem r86_15 : Rn 86 (15, [x0, x1, x2, x3, x4, x5], [.int i], a, h) = some (some (.int i), a, h) := Rn_ireti c86_15
theorem c86_16 : mcode 86 16 = some (.aload_n 0, 1, 0, 0, 0) := rfl
theorem r86_16 : Rn 86 (16, [some (.ref q), x1, x2, x3, x4, x5], st, a, h) = Rn 86 (17, [some (.ref q), x1, x2, x3, x4, x5], .ref q :: st, a, h) := Rn_go c86_16 rfl
theorem c86_17 : mcode 86 17 = some (.getfield 12, 3, 5, 0, 0) := rfl
theorem r86_17 : Rn 86 (17, [x0, x1, x2, x3, x4, x5], .ref q :: st, a, h) = Kv 86 20 [x0, x1, x2, x3, x4, x5] st a h (mgf h q 5 0) := Rn_getf c86_17 rfl
theorem c86_20 : mcode 86 20 = some (.iload_n 2, 1, 0, 0, 0) := rfl
theorem r86_20 : Rn 86 (20, [x0, x1, some (.int i), x3, x4, x5], st, a, h) = Rn 86 (21, [x0, x1, some (.int i), x3, x4, x5], .int i :: st, a, h) := Rn_go c86_20 rfl
theorem c86_21 : mcode 86 21 = some (.invokevirtual 109, 3, 36, 1, 4) := rfl
theorem r86_21 : Rn 86 (21, [x0, x1, x2, x3, x4, x5], [v0, .ref q], a, h) = if mis h q 4 = true then Bk 86 24 [x0, x1, x2, x3, x4, x5] [] (Ec 36 [.ref q, v0] a h) else none := Rn_call1 c86_21 rfl (Nat.le_of_ble_eq_true rfl) rfl rfl (Nat.le_of_ble_eq_true rfl)
theorem c86_24 : mcode 86 24 = some (.ifCond .ne 10, 3, 0, 0, 0) := rfl
theorem r86_24 : Rn 86 (24, [x0, x1, x2, x3, x4, x5], .int i :: st, a, h) = if i = 0 then Rn 86 (27, [x0, x1, x2, x3, x4, x5], st, a, h) else Rn 86 (34, [x0, x1, x2, x3, x4, x5], st, a, h) := Rn_ifcn c86_24 mc_ne rfl rfl
theorem c86_27 : mcode 86 27 = some (.aload_n 0, 1, 0, 0, 0) := rfl
theorem r86_27 : Rn 86 (27, [some (.ref q), x1, x2, x3, x4, x5], st, a, h) = Rn 86 (28, [some (.ref q), x1, x2, x3, x4, x5], .ref q :: st, a, h) := Rn_go c86_27 rfl
theorem c86_28 : mcode 86 28 = some (.ldc 60, 2, 0, 0, -1000001) := rfl
theorem r86_28 : Rn 86 (28, [x0, x1, x2, x3, x4, x5], st, a, h) = Rn 86 (30, [x0, x1, x2, x3, x4, x5], .int (-1000001 : Int32) :: st, a, h) := Rn_go c86_28 rfl
theorem c86_30 : mcode 86 30 = some (.invokevirtual 61, 3, 105, 1, 5) := rfl
theorem r86_30 : Rn 86 (30, [x0, x1, x2, x3, x4, x5], [v0, .ref q], a, h) = if mis h q 5 = true then Bk 86 33 [x0, x1, x2, x3, x4, x5] [] (Ec 105 [.ref q, v0] a h) else none := Rn_call1 c86_30 rfl (Nat.le_of_ble_eq_true rfl) rfl rfl (Nat.le_of_ble_eq_true rfl)
theorem c86_33 : mcode 86 33 = some (.ireturn, 1, 0, 0, 0) := rfl
theorem r86_33 : Rn 86 (33, [x0, x1, x2, x3, x4, x5], [.int i], a, h) = some (some (.int i), a, h) := Rn_ireti c86_33
theorem c86_34 : mcode 86 34 = some (.iconst 0, 1, 0, 0, 0) := rfl
theorem r86_34 : Rn 86 (34, [x0, x1, x2, x3, x4, x5], st, a, h) = Rn 86 (35, [x0, x1, x2, x3, x4, x5], .int (0 : Int32) :: st, a, h) := Rn_go c86_34 rfl
theorem c86_35 : mcode 86 35 = some (.istore 4, 2, 0, 0, 0) := rfl
theorem r86_35 : Rn 86 (35, [x0, x1, x2, x3, x4, x5], .int i :: st, a, h) = Nl x3 (Rn 86 (37, [x0, x1, x2, x3, some (.int i), x5], st, a, h)) := Rn_st1 (k := 4) (v := .int i) x3 c86_35 rfl rfl rfl rfl
theorem c86_37 : mcode 86 37 = some (.iconst 0, 1, 0, 0, 0) := rfl
theorem r86_37 : Rn 86 (37, [x0, x1, x2, x3, x4, x5], st, a, h) = Rn 86 (38, [x0, x1, x2, x3, x4, x5], .int (0 : Int32) :: st, a, h) := Rn_go c86_37 rfl
theorem c86_38 : mcode 86 38 = some (.istore 5, 2, 0, 0, 0) := rfl
theorem r86_38 : Rn 86 (38, [x0, x1, x2, x3, x4, x5], .int i :: st, a, h) = Nl x4 (Rn 86 (40, [x0, x1, x2, x3, x4, some (.int i)], st, a, h)) := Rn_st1 (k := 5) (v := .int i) x4 c86_38 rfl rfl rfl rfl
theorem c86_40 : mcode 86 40 = some (.iload 5, 2, 0, 0, 0) := rfl
theorem r86_40 : Rn 86 (40, [x0, x1, x2, x3, x4, some (.int i)], st, a, h) = Rn 86 (42, [x0, x1, x2, x3, x4, some (.int i)], .int i :: st, a, h) := Rn_go c86_40 rfl
theorem c86_42 : mcode 86 42 = some (.bipush 7, 2, 0, 0, 0) := rfl
theorem r86_42 : Rn 86 (42, [x0, x1, x2, x3, x4, x5], st, a, h) = Rn 86 (44, [x0, x1, x2, x3, x4, x5], .int (7 : Int32) :: st, a, h) := Rn_go c86_42 rfl
theorem c86_44 : mcode 86 44 = some (.if_icmp .ge 33, 3, 0, 0, 0) := rfl
theorem r86_44 : Rn 86 (44, [x0, x1, x2, x3, x4, x5], .int j :: .int i :: st, a, h) = if i < j then Rn 86 (47, [x0, x1, x2, x3, x4, x5], st, a, h) else Rn 86 (77, [x0, x1, x2, x3, x4, x5], st, a, h) := Rn_icmpn c86_44 mc_ge rfl rfl
theorem c86_47 : mcode 86 47 = some (.aload_n 0, 1, 0, 0, 0) := rfl
theorem r86_47 : Rn 86 (47, [some (.ref q), x1, x2, x3, x4, x5], st, a, h) = Rn 86 (48, [some (.ref q), x1, x2, x3, x4, x5], .ref q :: st, a, h) := Rn_go c86_47 rfl
theorem c86_48 : mcode 86 48 = some (.aload_n 0, 1, 0, 0, 0) := rfl
theorem r86_48 : Rn 86 (48, [some (.ref q), x1, x2, x3, x4, x5], st, a, h) = Rn 86 (49, [some (.ref q), x1, x2, x3, x4, x5], .ref q :: st, a, h) := Rn_go c86_48 rfl
theorem c86_49 : mcode 86 49 = some (.iload_n 1, 1, 0, 0, 0) := rfl
theorem r86_49 : Rn 86 (49, [x0, some (.int i), x2, x3, x4, x5], st, a, h) = Rn 86 (50, [x0, some (.int i), x2, x3, x4, x5], .int i :: st, a, h) := Rn_go c86_49 rfl
theorem c86_50 : mcode 86 50 = some (.invokevirtual 164, 3, 117, 1, 5) := rfl
theorem r86_50 : Rn 86 (50, [x0, x1, x2, x3, x4, x5], [v0, .ref q, .ref q0], a, h) = if mis h q 5 = true then Bk 86 53 [x0, x1, x2, x3, x4, x5] [.ref q0] (Ec 117 [.ref q, v0] a h) else none := Rn_call1 c86_50 rfl (Nat.le_of_ble_eq_true rfl) rfl rfl (Nat.le_of_ble_eq_true rfl)
theorem c86_53 : mcode 86 53 = some (.iload_n 2, 1, 0, 0, 0) := rfl
theorem r86_53 : Rn 86 (53, [x0, x1, some (.int i), x3, x4, x5], st, a, h) = Rn 86 (54, [x0, x1, some (.int i), x3, x4, x5], .int i :: st, a, h) := Rn_go c86_53 rfl
theorem c86_54 : mcode 86 54 = some (.iload 5, 2, 0, 0, 0) := rfl
theorem r86_54 : Rn 86 (54, [x0, x1, x2, x3, x4, some (.int i)], st, a, h) = Rn 86 (56, [x0, x1, x2, x3, x4, some (.int i)], .int i :: st, a, h) := Rn_go c86_54 rfl
theorem c86_56 : mcode 86 56 = some (.invokevirtual 175, 3, 121, 3, 5) := rfl
theorem r86_56 : Rn 86 (56, [x0, x1, x2, x3, x4, x5], [v2, v1, v0, .ref q], a, h) = if mis h q 5 = true then Bk 86 59 [x0, x1, x2, x3, x4, x5] [] (Ec 121 [.ref q, v0, v1, v2] a h) else none := Rn_call1 c86_56 rfl (Nat.le_of_ble_eq_true rfl) rfl rfl (Nat.le_of_ble_eq_true rfl)
theorem c86_59 : mcode 86 59 = some (.ifCond .eq 12, 3, 0, 0, 0) := rfl
theorem r86_59 : Rn 86 (59, [x0, x1, x2, x3, x4, x5], .int i :: st, a, h) = if i = 0 then Rn 86 (71, [x0, x1, x2, x3, x4, x5], st, a, h) else Rn 86 (62, [x0, x1, x2, x3, x4, x5], st, a, h) := Rn_ifc c86_59 mc_eq rfl rfl
theorem c86_62 : mcode 86 62 = some (.iload 4, 2, 0, 0, 0) := rfl
theorem r86_62 : Rn 86 (62, [x0, x1, x2, x3, some (.int i), x5], st, a, h) = Rn 86 (64, [x0, x1, x2, x3, some (.int i), x5], .int i :: st, a, h) := Rn_go c86_62 rfl
theorem c86_64 : mcode 86 64 = some (.iconst 1, 1, 0, 0, 0) := rfl
theorem r86_64 : Rn 86 (64, [x0, x1, x2, x3, x4, x5], st, a, h) = Rn 86 (65, [x0, x1, x2, x3, x4, x5], .int (1 : Int32) :: st, a, h) := Rn_go c86_64 rfl
theorem c86_65 : mcode 86 65 = some (.iload 5, 2, 0, 0, 0) := rfl
theorem r86_65 : Rn 86 (65, [x0, x1, x2, x3, x4, some (.int i)], st, a, h) = Rn 86 (67, [x0, x1, x2, x3, x4, some (.int i)], .int i :: st, a, h) := Rn_go c86_65 rfl
theorem c86_67 : mcode 86 67 = some (.ishl, 1, 0, 0, 0) := rfl
theorem r86_67 : Rn 86 (67, [x0, x1, x2, x3, x4, x5], .int j :: .int i :: st, a, h) = Rn 86 (68, [x0, x1, x2, x3, x4, x5], .int (i <<< (j &&& 31)) :: st, a, h) := Rn_go c86_67 rfl
theorem c86_68 : mcode 86 68 = some (.ior, 1, 0, 0, 0) := rfl
theorem r86_68 : Rn 86 (68, [x0, x1, x2, x3, x4, x5], .int j :: .int i :: st, a, h) = Rn 86 (69, [x0, x1, x2, x3, x4, x5], .int (i ||| j) :: st, a, h) := Rn_go c86_68 rfl
theorem c86_69 : mcode 86 69 = some (.istore 4, 2, 0, 0, 0) := rfl
theorem r86_69 : Rn 86 (69, [x0, x1, x2, x3, x4, x5], .int i :: st, a, h) = Nl x3 (Rn 86 (71, [x0, x1, x2, x3, some (.int i), x5], st, a, h)) := Rn_st1 (k := 4) (v := .int i) x3 c86_69 rfl rfl rfl rfl
theorem c86_71 : mcode 86 71 = some (.iinc 5 1, 3, 0, 0, 0) := rfl
theorem r86_71 : Rn 86 (71, [x0, x1, x2, x3, x4, some (.int i)], st, a, h) = Nl x4 (Rn 86 (74, [x0, x1, x2, x3, x4, some (.int (i + (1 : Int32)))], st, a, h)) := Rn_st1 (k := 5) (v := .int (i + (1 : Int32))) x4 c86_71 rfl rfl rfl rfl
theorem c86_74 : mcode 86 74 = some (.goto (-34), 3, 0, 0, 0) := rfl
theorem r86_74 : Rn 86 (74, [x0, x1, x2, x3, x4, x5], st, a, h) = Rn 86 (40, [x0, x1, x2, x3, x4, x5], st, a, h) := Rn_goto c86_74 rfl
theorem c86_77 : mcode 86 77 = some (.iload 4, 2, 0, 0, 0) := rfl
theorem r86_77 : Rn 86 (77, [x0, x1, x2, x3, some (.int i), x5], st, a, h) = Rn 86 (79, [x0, x1, x2, x3, some (.int i), x5], .int i :: st, a, h) := Rn_go c86_77 rfl
theorem c86_79 : mcode 86 79 = some (.ireturn, 1, 0, 0, 0) := rfl
theorem r86_79 : Rn 86 (79, [x0, x1, x2, x3, x4, x5], [.int i], a, h) = some (some (.int i), a, h) := Rn_ireti c86_79
theorem c87_0 : mcode 87 0 = some (.iload_n 1, 1, 0, 0, 0) := rfl
theorem r87_0 : Rn 87 (0, [x0, some (.int i), x2, x3, x4], st, a, h) = Rn 87 (1, [x0, some (.int i), x2, x3, x4], .int i :: st, a, h) := Rn_go c87_0 rfl
theorem c87_1 : mcode 87 1 = some (.iconst 1, 1, 0, 0, 0) := rfl
theorem r87_1 : Rn 87 (1, [x0, x1, x2, x3, x4], st, a, h) = Rn 87 (2, [x0, x1, x2, x3, x4], .int (1 : Int32) :: st, a, h) := Rn_go c87_1 rfl
theorem c87_2 : mcode 87 2 = some (.bipush 20, 2, 0, 0, 0) := rfl
theorem r87_2 : Rn 87 (2, [x0, x1, x2, x3, x4], st, a, h) = Rn 87 (4, [x0, x1, x2, x3, x4], .int (20 : Int32) :: st, a, h) := Rn_go c87_2 rfl
theorem c87_4 : mcode 87 4 = some (.invokestatic 56, 3, 106, 3, 0) := rfl
theorem r87_4 : Rn 87 (4, [x0, x1, x2, x3, x4], [v2, v1, v0], a, h) = Bk 87 7 [x0, x1, x2, x3, x4] [] (Ec 106 [v0, v1, v2] a h) := Rn_call0 c87_4 (fun z => nomatch z) rfl (Nat.le_of_ble_eq_true rfl) rfl rfl (Nat.le_of_ble_eq_true rfl)
theorem c87_7 : mcode 87 7 = some (.ifCond .ne 10, 3, 0, 0, 0) := rfl
theorem r87_7 : Rn 87 (7, [x0, x1, x2, x3, x4], .int i :: st, a, h) = if i = 0 then Rn 87 (10, [x0, x1, x2, x3, x4], st, a, h) else Rn 87 (17, [x0, x1, x2, x3, x4], st, a, h) := Rn_ifcn c87_7 mc_ne rfl rfl
theorem c87_10 : mcode 87 10 = some (.aload_n 0, 1, 0, 0, 0) := rfl
theorem r87_10 : Rn 87 (10, [some (.ref q), x1, x2, x3, x4], st, a, h) = Rn 87 (11, [some (.ref q), x1, x2, x3, x4], .ref q :: st, a, h) := Rn_go c87_10 rfl
theorem c87_11 : mcode 87 11 = some (.ldc 60, 2, 0, 0, -1000001) := rfl
theorem r87_11 : Rn 87 (11, [x0, x1, x2, x3, x4], st, a, h) = Rn 87 (13, [x0, x1, x2, x3, x4], .int (-1000001 : Int32) :: st, a, h) := Rn_go c87_11 rfl
theorem c87_13 : mcode 87 13 = some (.invokevirtual 61, 3, 105, 1, 5) := rfl
theorem r87_13 : Rn 87 (13, [x0, x1, x2, x3, x4], [v0, .ref q], a, h) = if mis h q 5 = true then Bk 87 16 [x0, x1, x2, x3, x4] [] (Ec 105 [.ref q, v0] a h) else none := Rn_call1 c87_13 rfl (Nat.le_of_ble_eq_true rfl) rfl rfl (Nat.le_of_ble_eq_true rfl)
theorem c87_16 : mcode 87 16 = some (.ireturn, 1, 0, 0, 0) := rfl
theorem r87_16 : Rn 87 (16, [x0, x1, x2, x3, x4], [.int i], a, h) = some (some (.int i), a, h) := Rn_ireti c87_16
theorem c87_17 : mcode 87 17 = some (.aload_n 0, 1, 0, 0, 0) := rfl
theorem r87_17 : Rn 87 (17, [some (.ref q), x1, x2, x3, x4], st, a, h) = Rn 87 (18, [some (.ref q), x1, x2, x3, x4], .ref q :: st, a, h) := Rn_go c87_17 rfl
theorem c87_18 : mcode 87 18 = some (.getfield 12, 3, 5, 0, 0) := rfl
theorem r87_18 : Rn 87 (18, [x0, x1, x2, x3, x4], .ref q :: st, a, h) = Kv 87 21 [x0, x1, x2, x3, x4] st a h (mgf h q 5 0) := Rn_getf c87_18 rfl
theorem c87_21 : mcode 87 21 = some (.getfield 121, 3, 4, 5, 0) := rfl
theorem r87_21 : Rn 87 (21, [x0, x1, x2, x3, x4], .ref q :: st, a, h) = Kv 87 24 [x0, x1, x2, x3, x4] st a h (mgf h q 4 5) := Rn_getf c87_21 rfl
theorem c87_24 : mcode 87 24 = some (.iload_n 1, 1, 0, 0, 0) := rfl
theorem r87_24 : Rn 87 (24, [x0, some (.int i), x2, x3, x4], st, a, h) = Rn 87 (25, [x0, some (.int i), x2, x3, x4], .int i :: st, a, h) := Rn_go c87_24 rfl
theorem c87_25 : mcode 87 25 = some (.iadd, 1, 0, 0, 0) := rfl
theorem r87_25 : Rn 87 (25, [x0, x1, x2, x3, x4], .int j :: .int i :: st, a, h) = Rn 87 (26, [x0, x1, x2, x3, x4], .int (i + j) :: st, a, h) := Rn_go c87_25 rfl
theorem c87_26 : mcode 87 26 = some (.ldc 124, 2, 0, 0, 99999) := rfl
theorem r87_26 : Rn 87 (26, [x0, x1, x2, x3, x4], st, a, h) = Rn 87 (28, [x0, x1, x2, x3, x4], .int (99999 : Int32) :: st, a, h) := Rn_go c87_26 rfl
theorem c87_28 : mcode 87 28 = some (.if_icmp .le 10, 3, 0, 0, 0) := rfl
theorem r87_28 : Rn 87 (28, [x0, x1, x2, x3, x4], .int j :: .int i :: st, a, h) = if j < i then Rn 87 (31, [x0, x1, x2, x3, x4], st, a, h) else Rn 87 (38, [x0, x1, x2, x3, x4], st, a, h) := Rn_icmpn c87_28 mc_le rfl rfl
theorem c87_31 : mcode 87 31 = some (.aload_n 0, 1, 0, 0, 0) := rfl
theorem r87_31 : Rn 87 (31, [some (.ref q), x1, x2, x3, x4], st, a, h) = Rn 87 (32, [some (.ref q), x1, x2, x3, x4], .ref q :: st, a, h) := Rn_go c87_31 rfl
theorem c87_32 : mcode 87 32 = some (.ldc 125, 2, 0, 0, -1000005) := rfl
theorem r87_32 : Rn 87 (32, [x0, x1, x2, x3, x4], st, a, h) = Rn 87 (34, [x0, x1, x2, x3, x4], .int (-1000005 : Int32) :: st, a, h) := Rn_go c87_32 rfl
theorem c87_34 : mcode 87 34 = some (.invokevirtual 61, 3, 105, 1, 5) := rfl
theorem r87_34 : Rn 87 (34, [x0, x1, x2, x3, x4], [v0, .ref q], a, h) = if mis h q 5 = true then Bk 87 37 [x0, x1, x2, x3, x4] [] (Ec 105 [.ref q, v0] a h) else none := Rn_call1 c87_34 rfl (Nat.le_of_ble_eq_true rfl) rfl rfl (Nat.le_of_ble_eq_true rfl)
theorem c87_37 : mcode 87 37 = some (.ireturn, 1, 0, 0, 0) := rfl
theorem r87_37 : Rn 87 (37, [x0, x1, x2, x3, x4], [.int i], a, h) = some (some (.int i), a, h) := Rn_ireti c87_37
theorem c87_38 : mcode 87 38 = some (.iconst 0, 1, 0, 0, 0) := rfl
theorem r87_38 : Rn 87 (38, [x0, x1, x2, x3, x4], st, a, h) = Rn 87 (39, [x0, x1, x2, x3, x4], .int (0 : Int32) :: st, a, h) := Rn_go c87_38 rfl
theorem c87_39 : mcode 87 39 = some (.istore_n 2, 1, 0, 0, 0) := rfl
theorem r87_39 : Rn 87 (39, [x0, x1, x2, x3, x4], .int i :: st, a, h) = Nl x1 (Rn 87 (40, [x0, x1, some (.int i), x3, x4], st, a, h)) := Rn_st1 (k := 2) (v := .int i) x1 c87_39 rfl rfl rfl rfl
theorem c87_40 : mcode 87 40 = some (.iload_n 2, 1, 0, 0, 0) := rfl
theorem r87_40 : Rn 87 (40, [x0, x1, some (.int i), x3, x4], st, a, h) = Rn 87 (41, [x0, x1, some (.int i), x3, x4], .int i :: st, a, h) := Rn_go c87_40 rfl
theorem c87_41 : mcode 87 41 = some (.iload_n 1, 1, 0, 0, 0) := rfl
theorem r87_41 : Rn 87 (41, [x0, some (.int i), x2, x3, x4], st, a, h) = Rn 87 (42, [x0, some (.int i), x2, x3, x4], .int i :: st, a, h) := Rn_go c87_41 rfl
theorem c87_42 : mcode 87 42 = some (.if_icmp .ge 50, 3, 0, 0, 0) := rfl
theorem r87_42 : Rn 87 (42, [x0, x1, x2, x3, x4], .int j :: .int i :: st, a, h) = if i < j then Rn 87 (45, [x0, x1, x2, x3, x4], st, a, h) else Rn 87 (92, [x0, x1, x2, x3, x4], st, a, h) := Rn_icmpn c87_42 mc_ge rfl rfl
theorem c87_45 : mcode 87 45 = some (.aload_n 0, 1, 0, 0, 0) := rfl
theorem r87_45 : Rn 87 (45, [some (.ref q), x1, x2, x3, x4], st, a, h) = Rn 87 (46, [some (.ref q), x1, x2, x3, x4], .ref q :: st, a, h) := Rn_go c87_45 rfl
theorem c87_46 : mcode 87 46 = some (.getfield 12, 3, 5, 0, 0) := rfl
theorem r87_46 : Rn 87 (46, [x0, x1, x2, x3, x4], .ref q :: st, a, h) = Kv 87 49 [x0, x1, x2, x3, x4] st a h (mgf h q 5 0) := Rn_getf c87_46 rfl
theorem c87_49 : mcode 87 49 = some (.invokevirtual 179, 3, 58, 0, 4) := rfl
theorem r87_49 : Rn 87 (49, [x0, x1, x2, x3, x4], [.ref q], a, h) = if mis h q 4 = true then Bk 87 52 [x0, x1, x2, x3, x4] [] (Ec 58 [.ref q] a h) else none := Rn_call1 c87_49 rfl (Nat.le_of_ble_eq_true rfl) rfl rfl (Nat.le_of_ble_eq_true rfl)
theorem c87_52 : mcode 87 52 = some (.bipush 8, 2, 0, 0, 0) := rfl
theorem r87_52 : Rn 87 (52, [x0, x1, x2, x3, x4], st, a, h) = Rn 87 (54, [x0, x1, x2, x3, x4], .int (8 : Int32) :: st, a, h) := Rn_go c87_52 rfl
theorem c87_54 : mcode 87 54 = some (.irem, 1, 0, 0, 0) := rfl
theorem r87_54 : Rn 87 (54, [x0, x1, x2, x3, x4], .int j :: .int i :: st, a, h) = if j = 0 then none else Rn 87 (55, [x0, x1, x2, x3, x4], .int (i % j) :: st, a, h) := Rn_irem c87_54 rfl
theorem c87_55 : mcode 87 55 = some (.istore_n 3, 1, 0, 0, 0) := rfl
theorem r87_55 : Rn 87 (55, [x0, x1, x2, x3, x4], .int i :: st, a, h) = Nl x2 (Rn 87 (56, [x0, x1, x2, some (.int i), x4], st, a, h)) := Rn_st1 (k := 3) (v := .int i) x2 c87_55 rfl rfl rfl rfl
theorem c87_56 : mcode 87 56 = some (.aload_n 0, 1, 0, 0, 0) := rfl
theorem r87_56 : Rn 87 (56, [some (.ref q), x1, x2, x3, x4], st, a, h) = Rn 87 (57, [some (.ref q), x1, x2, x3, x4], .ref q :: st, a, h) := Rn_go c87_56 rfl
theorem c87_57 : mcode 87 57 = some (.getfield 12, 3, 5, 0, 0) := rfl
theorem r87_57 : Rn 87 (57, [x0, x1, x2, x3, x4], .ref q :: st, a, h) = Kv 87 60 [x0, x1, x2, x3, x4] st a h (mgf h q 5 0) := Rn_getf c87_57 rfl
theorem c87_60 : mcode 87 60 = some (.invokevirtual 179, 3, 58, 0, 4) := rfl
theorem r87_60 : Rn 87 (60, [x0, x1, x2, x3, x4], [.ref q], a, h) = if mis h q 4 = true then Bk 87 63 [x0, x1, x2, x3, x4] [] (Ec 58 [.ref q] a h) else none := Rn_call1 c87_60 rfl (Nat.le_of_ble_eq_true rfl) rfl rfl (Nat.le_of_ble_eq_true rfl)
theorem c87_63 : mcode 87 63 = some (.bipush 8, 2, 0, 0, 0) := rfl
theorem r87_63 : Rn 87 (63, [x0, x1, x2, x3, x4], st, a, h) = Rn 87 (65, [x0, x1, x2, x3, x4], .int (8 : Int32) :: st, a, h) := Rn_go c87_63 rfl
theorem c87_65 : mcode 87 65 = some (.irem, 1, 0, 0, 0) := rfl
theorem r87_65 : Rn 87 (65, [x0, x1, x2, x3, x4], .int j :: .int i :: st, a, h) = if j = 0 then none else Rn 87 (66, [x0, x1, x2, x3, x4], .int (i % j) :: st, a, h) := Rn_irem c87_65 rfl
theorem c87_66 : mcode 87 66 = some (.istore 4, 2, 0, 0, 0) := rfl
theorem r87_66 : Rn 87 (66, [x0, x1, x2, x3, x4], .int i :: st, a, h) = Nl x3 (Rn 87 (68, [x0, x1, x2, x3, some (.int i)], st, a, h)) := Rn_st1 (k := 4) (v := .int i) x3 c87_66 rfl rfl rfl rfl
theorem c87_68 : mcode 87 68 = some (.aload_n 0, 1, 0, 0, 0) := rfl
theorem r87_68 : Rn 87 (68, [some (.ref q), x1, x2, x3, x4], st, a, h) = Rn 87 (69, [some (.ref q), x1, x2, x3, x4], .ref q :: st, a, h) := Rn_go c87_68 rfl
theorem c87_69 : mcode 87 69 = some (.getfield 12, 3, 5, 0, 0) := rfl
theorem r87_69 : Rn 87 (69, [x0, x1, x2, x3, x4], .ref q :: st, a, h) = Kv 87 72 [x0, x1, x2, x3, x4] st a h (mgf h q 5 0) := Rn_getf c87_69 rfl
theorem c87_72 : mcode 87 72 = some (.iload_n 3, 1, 0, 0, 0) := rfl
theorem r87_72 : Rn 87 (72, [x0, x1, x2, some (.int i), x4], st, a, h) = Rn 87 (73, [x0, x1, x2, some (.int i), x4], .int i :: st, a, h) := Rn_go c87_72 rfl
theorem c87_73 : mcode 87 73 = some (.iload 4, 2, 0, 0, 0) := rfl
theorem r87_73 : Rn 87 (73, [x0, x1, x2, x3, some (.int i)], st, a, h) = Rn 87 (75, [x0, x1, x2, x3, some (.int i)], .int i :: st, a, h) := Rn_go c87_73 rfl
theorem c87_75 : mcode 87 75 = some (.invokevirtual 86, 3, 52, 2, 4) := rfl
theorem r87_75 : Rn 87 (75, [x0, x1, x2, x3, x4], [v1, v0, .ref q], a, h) = if mis h q 4 = true then Bk 87 78 [x0, x1, x2, x3, x4] [] (Ec 52 [.ref q, v0, v1] a h) else none := Rn_call1 c87_75 rfl (Nat.le_of_ble_eq_true rfl) rfl rfl (Nat.le_of_ble_eq_true rfl)
theorem c87_78 : mcode 87 78 = some (.aload_n 0, 1, 0, 0, 0) := rfl
theorem r87_78 : Rn 87 (78, [some (.ref q), x1, x2, x3, x4], st, a, h) = Rn 87 (79, [some (.ref q), x1, x2, x3, x4], .ref q :: st, a, h) := Rn_go c87_78 rfl
theorem c87_79 : mcode 87 79 = some (.getfield 12, 3, 5, 0, 0) := rfl
theorem r87_79 : Rn 87 (79, [x0, x1, x2, x3, x4], .ref q :: st, a, h) = Kv 87 82 [x0, x1, x2, x3, x4] st a h (mgf h q 5 0) := Rn_getf c87_79 rfl
theorem c87_82 : mcode 87 82 = some (.iconst 1, 1, 0, 0, 0) := rfl
theorem r87_82 : Rn 87 (82, [x0, x1, x2, x3, x4], st, a, h) = Rn 87 (83, [x0, x1, x2, x3, x4], .int (1 : Int32) :: st, a, h) := Rn_go c87_82 rfl
theorem c87_83 : mcode 87 83 = some (.invokevirtual 126, 3, 53, 1, 4) := rfl
theorem r87_83 : Rn 87 (83, [x0, x1, x2, x3, x4], [v0, .ref q], a, h) = if mis h q 4 = true then Bk 87 86 [x0, x1, x2, x3, x4] [] (Ec 53 [.ref q, v0] a h) else none := Rn_call1 c87_83 rfl (Nat.le_of_ble_eq_true rfl) rfl rfl (Nat.le_of_ble_eq_true rfl)
theorem c87_86 : mcode 87 86 = some (.iinc 2 1, 3, 0, 0, 0) := rfl
theorem r87_86 : Rn 87 (86, [x0, x1, some (.int i), x3, x4], st, a, h) = Nl x1 (Rn 87 (89, [x0, x1, some (.int (i + (1 : Int32))), x3, x4], st, a, h)) := Rn_st1 (k := 2) (v := .int (i + (1 : Int32))) x1 c87_86 rfl rfl rfl rfl
theorem c87_89 : mcode 87 89 = some (.goto (-49), 3, 0, 0, 0) := rfl
theorem r87_89 : Rn 87 (89, [x0, x1, x2, x3, x4], st, a, h) = Rn 87 (40, [x0, x1, x2, x3, x4], st, a, h) := Rn_goto c87_89 rfl
theorem c87_92 : mcode 87 92 = some (.aload_n 0, 1, 0, 0, 0) := rfl
theorem r87_92 : Rn 87 (92, [some (.ref q), x1, x2, x3, x4], st, a, h) = Rn 87 (93, [some (.ref q), x1, x2, x3, x4], .ref q :: st, a, h) := Rn_go c87_92 rfl
theorem c87_93 : mcode 87 93 = some (.getfield 12, 3, 5, 0, 0) := rfl
theorem r87_93 : Rn 87 (93, [x0, x1, x2, x3, x4], .ref q :: st, a, h) = Kv 87 96 [x0, x1, x2, x3, x4] st a h (mgf h q 5 0) := Rn_getf c87_93 rfl
theorem c87_96 : mcode 87 96 = some (.iconst 5, 1, 0, 0, 0) := rfl
theorem r87_96 : Rn 87 (96, [x0, x1, x2, x3, x4], st, a, h) = Rn 87 (97, [x0, x1, x2, x3, x4], .int (5 : Int32) :: st, a, h) := Rn_go c87_96 rfl
theorem c87_97 : mcode 87 97 = some (.invokevirtual 134, 3, 50, 1, 4) := rfl
theorem r87_97 : Rn 87 (97, [x0, x1, x2, x3, x4], [v0, .ref q], a, h) = if mis h q 4 = true then Bk 87 100 [x0, x1, x2, x3, x4] [] (Ec 50 [.ref q, v0] a h) else none := Rn_call1 c87_97 rfl (Nat.le_of_ble_eq_true rfl) rfl rfl (Nat.le_of_ble_eq_true rfl)
theorem c87_100 : mcode 87 100 = some (.ireturn, 1, 0, 0, 0) := rfl
theorem r87_100 : Rn 87 (100, [x0, x1, x2, x3, x4], [.int i], a, h) = some (some (.int i), a, h) := Rn_ireti c87_100
theorem c88_0 : mcode 88 0 = some (.iload_n 1, 1, 0, 0, 0) := rfl
theorem r88_0 : Rn 88 (0, [x0, some (.int i), x2, x3, x4], st, a, h) = Rn 88 (1, [x0, some (.int i), x2, x3, x4], .int i :: st, a, h) := Rn_go c88_0 rfl
theorem c88_1 : mcode 88 1 = some (.iconst 0, 1, 0, 0, 0) := rfl
theorem r88_1 : Rn 88 (1, [x0, x1, x2, x3, x4], st, a, h) = Rn 88 (2, [x0, x1, x2, x3, x4], .int (0 : Int32) :: st, a, h) := Rn_go c88_1 rfl
theorem c88_2 : mcode 88 2 = some (.bipush 20, 2, 0, 0, 0) := rfl
theorem r88_2 : Rn 88 (2, [x0, x1, x2, x3, x4], st, a, h) = Rn 88 (4, [x0, x1, x2, x3, x4], .int (20 : Int32) :: st, a, h) := Rn_go c88_2 rfl
theorem c88_4 : mcode 88 4 = some (.invokestatic 56, 3, 106, 3, 0) := rfl
theorem r88_4 : Rn 88 (4, [x0, x1, x2, x3, x4], [v2, v1, v0], a, h) = Bk 88 7 [x0, x1, x2, x3, x4] [] (Ec 106 [v0, v1, v2] a h) := Rn_call0 c88_4 (fun z => nomatch z) rfl (Nat.le_of_ble_eq_true rfl) rfl rfl (Nat.le_of_ble_eq_true rfl)
theorem c88_7 : mcode 88 7 = some (.ifCond .eq 12, 3, 0, 0, 0) := rfl
theorem r88_7 : Rn 88 (7, [x0, x1, x2, x3, x4], .int i :: st, a, h) = if i = 0 then Rn 88 (19, [x0, x1, x2, x3, x4], st, a, h) else Rn 88 (10, [x0, x1, x2, x3, x4], st, a, h) := Rn_ifc c88_7 mc_eq rfl rfl
theorem c88_10 : mcode 88 10 = some (.iload_n 2, 1, 0, 0, 0) := rfl
theorem r88_10 : Rn 88 (10, [x0, x1, some (.int i), x3, x4], st, a, h) = Rn 88 (11, [x0, x1, some (.int i), x3, x4], .int i :: st, a, h) := Rn_go c88_10 rfl
theorem c88_11 : mcode 88 11 = some (.iconst 0, 1, 0, 0, 0) := rfl
theorem r88_11 : Rn 88 (11, [x0, x1, x2, x3, x4], st, a, h) = Rn 88 (12, [x0, x1, x2, x3, x4], .int (0 : Int32) :: st, a, h) := Rn_go c88_11 rfl
theorem c88_12 : mcode 88 12 = some (.iconst 1, 1, 0, 0, 0) := rfl
theorem r88_12 : Rn 88 (12, [x0, x1, x2, x3, x4], st, a, h) = Rn 88 (13, [x0, x1, x2, x3, x4], .int (1 : Int32) :: st, a, h) := Rn_go c88_12 rfl
theorem c88_13 : mcode 88 13 = some (.invokestatic 56, 3, 106, 3, 0) := rfl
theorem r88_13 : Rn 88 (13, [x0, x1, x2, x3, x4], [v2, v1, v0], a, h) = Bk 88 16 [x0, x1, x2, x3, x4] [] (Ec 106 [v0, v1, v2] a h) := Rn_call0 c88_13 (fun z => nomatch z) rfl (Nat.le_of_ble_eq_true rfl) rfl rfl (Nat.le_of_ble_eq_true rfl)
theorem c88_16 : mcode 88 16 = some (.ifCond .ne 11, 3, 0, 0, 0) := rfl
theorem r88_16 : Rn 88 (16, [x0, x1, x2, x3, x4], .int i :: st, a, h) = if i = 0 then Rn 88 (19, [x0, x1, x2, x3, x4], st, a, h) else Rn 88 (27, [x0, x1, x2, x3, x4], st, a, h) := Rn_ifcn c88_16 mc_ne rfl rfl
theorem c88_19 : mcode 88 19 = some (.aload_n 0, 1, 0, 0, 0) := rfl
theorem r88_19 : Rn 88 (19, [some (.ref q), x1, x2, x3, x4], st, a, h) = Rn 88 (20, [some (.ref q), x1, x2, x3, x4], .ref q :: st, a, h) := Rn_go c88_19 rfl
theorem c88_20 : mcode 88 20 = some (.ldc 60, 2, 0, 0, -1000001) := rfl
theorem r88_20 : Rn 88 (20, [x0, x1, x2, x3, x4], st, a, h) = Rn 88 (22, [x0, x1, x2, x3, x4], .int (-1000001 : Int32) :: st, a, h) := Rn_go c88_20 rfl
theorem c88_22 : mcode 88 22 = some (.invokevirtual 61, 3, 105, 1, 5) := rfl
theorem r88_22 : Rn 88 (22, [x0, x1, x2, x3, x4], [v0, .ref q], a, h) = if mis h q 5 = true then Bk 88 25 [x0, x1, x2, x3, x4] [] (Ec 105 [.ref q, v0] a h) else none := Rn_call1 c88_22 rfl (Nat.le_of_ble_eq_true rfl) rfl rfl (Nat.le_of_ble_eq_true rfl)
theorem c88_25 : mcode 88 25 = some (.i2l, 1, 0, 0, 0) := rfl
theorem r88_25 : Rn 88 (25, [x0, x1, x2, x3, x4], .int i :: st, a, h) = Rn 88 (26, [x0, x1, x2, x3, x4], .long i.toInt64 :: st, a, h) := Rn_go c88_25 rfl
theorem c88_26 : mcode 88 26 = some (.lreturn, 1, 0, 0, 0) := rfl
theorem r88_26 : Rn 88 (26, [x0, x1, x2, x3, x4], [.long l], a, h) = some (some (.long l), a, h) := Rn_act c88_26
theorem c88_27 : mcode 88 27 = some (.aload_n 0, 1, 0, 0, 0) := rfl
theorem r88_27 : Rn 88 (27, [some (.ref q), x1, x2, x3, x4], st, a, h) = Rn 88 (28, [some (.ref q), x1, x2, x3, x4], .ref q :: st, a, h) := Rn_go c88_27 rfl
theorem c88_28 : mcode 88 28 = some (.getfield 12, 3, 5, 0, 0) := rfl
theorem r88_28 : Rn 88 (28, [x0, x1, x2, x3, x4], .ref q :: st, a, h) = Kv 88 31 [x0, x1, x2, x3, x4] st a h (mgf h q 5 0) := Rn_getf c88_28 rfl
theorem c88_31 : mcode 88 31 = some (.invokevirtual 137, 3, 46, 0, 4) := rfl
theorem r88_31 : Rn 88 (31, [x0, x1, x2, x3, x4], [.ref q], a, h) = if mis h q 4 = true then Bk 88 34 [x0, x1, x2, x3, x4] [] (Ec 46 [.ref q] a h) else none := Rn_call1 c88_31 rfl (Nat.le_of_ble_eq_true rfl) rfl rfl (Nat.le_of_ble_eq_true rfl)
theorem c88_34 : mcode 88 34 = some (.invokestatic 90, 3, 226, 1, 0) := rfl
theorem r88_34 : Rn 88 (34, [x0, x1, x2, x3, x4], [v0], a, h) = Bk 88 37 [x0, x1, x2, x3, x4] [] (Ec 226 [v0] a h) := Rn_call0 c88_34 (fun z => nomatch z) rfl (Nat.le_of_ble_eq_true rfl) rfl rfl (Nat.le_of_ble_eq_true rfl)
theorem c88_37 : mcode 88 37 = some (.istore_n 3, 1, 0, 0, 0) := rfl
theorem r88_37 : Rn 88 (37, [x0, x1, x2, x3, x4], .int i :: st, a, h) = Nl x2 (Rn 88 (38, [x0, x1, x2, some (.int i), x4], st, a, h)) := Rn_st1 (k := 3) (v := .int i) x2 c88_37 rfl rfl rfl rfl
theorem c88_38 : mcode 88 38 = some (.bipush 8, 2, 0, 0, 0) := rfl
theorem r88_38 : Rn 88 (38, [x0, x1, x2, x3, x4], st, a, h) = Rn 88 (40, [x0, x1, x2, x3, x4], .int (8 : Int32) :: st, a, h) := Rn_go c88_38 rfl
theorem c88_40 : mcode 88 40 = some (.istore 4, 2, 0, 0, 0) := rfl
theorem r88_40 : Rn 88 (40, [x0, x1, x2, x3, x4], .int i :: st, a, h) = Nl x3 (Rn 88 (42, [x0, x1, x2, x3, some (.int i)], st, a, h)) := Rn_st1 (k := 4) (v := .int i) x3 c88_40 rfl rfl rfl rfl
theorem c88_42 : mcode 88 42 = some (.iload 4, 2, 0, 0, 0) := rfl
theorem r88_42 : Rn 88 (42, [x0, x1, x2, x3, some (.int i)], st, a, h) = Rn 88 (44, [x0, x1, x2, x3, some (.int i)], .int i :: st, a, h) := Rn_go c88_42 rfl
theorem c88_44 : mcode 88 44 = some (.iconst 1, 1, 0, 0, 0) := rfl
theorem r88_44 : Rn 88 (44, [x0, x1, x2, x3, x4], st, a, h) = Rn 88 (45, [x0, x1, x2, x3, x4], .int (1 : Int32) :: st, a, h) := Rn_go c88_44 rfl
theorem c88_45 : mcode 88 45 = some (.if_icmp .le 22, 3, 0, 0, 0) := rfl
theorem r88_45 : Rn 88 (45, [x0, x1, x2, x3, x4], .int j :: .int i :: st, a, h) = if j < i then Rn 88 (48, [x0, x1, x2, x3, x4], st, a, h) else Rn 88 (67, [x0, x1, x2, x3, x4], st, a, h) := Rn_icmpn c88_45 mc_le rfl rfl
theorem c88_48 : mcode 88 48 = some (.iload_n 3, 1, 0, 0, 0) := rfl
theorem r88_48 : Rn 88 (48, [x0, x1, x2, some (.int i), x4], st, a, h) = Rn 88 (49, [x0, x1, x2, some (.int i), x4], .int i :: st, a, h) := Rn_go c88_48 rfl
theorem c88_49 : mcode 88 49 = some (.iconst 2, 1, 0, 0, 0) := rfl
theorem r88_49 : Rn 88 (49, [x0, x1, x2, x3, x4], st, a, h) = Rn 88 (50, [x0, x1, x2, x3, x4], .int (2 : Int32) :: st, a, h) := Rn_go c88_49 rfl
theorem c88_50 : mcode 88 50 = some (.irem, 1, 0, 0, 0) := rfl
theorem r88_50 : Rn 88 (50, [x0, x1, x2, x3, x4], .int j :: .int i :: st, a, h) = if j = 0 then none else Rn 88 (51, [x0, x1, x2, x3, x4], .int (i % j) :: st, a, h) := Rn_irem c88_50 rfl
theorem c88_51 : mcode 88 51 = some (.ifCond .ne 16, 3, 0, 0, 0) := rfl
theorem r88_51 : Rn 88 (51, [x0, x1, x2, x3, x4], .int i :: st, a, h) = if i = 0 then Rn 88 (54, [x0, x1, x2, x3, x4], st, a, h) else Rn 88 (67, [x0, x1, x2, x3, x4], st, a, h) := Rn_ifcn c88_51 mc_ne rfl rfl
theorem c88_54 : mcode 88 54 = some (.iload_n 3, 1, 0, 0, 0) := rfl
theorem r88_54 : Rn 88 (54, [x0, x1, x2, some (.int i), x4], st, a, h) = Rn 88 (55, [x0, x1, x2, some (.int i), x4], .int i :: st, a, h) := Rn_go c88_54 rfl
theorem c88_55 : mcode 88 55 = some (.iconst 2, 1, 0, 0, 0) := rfl
theorem r88_55 : Rn 88 (55, [x0, x1, x2, x3, x4], st, a, h) = Rn 88 (56, [x0, x1, x2, x3, x4], .int (2 : Int32) :: st, a, h) := Rn_go c88_55 rfl
theorem c88_56 : mcode 88 56 = some (.idiv, 1, 0, 0, 0) := rfl
theorem r88_56 : Rn 88 (56, [x0, x1, x2, x3, x4], .int j :: .int i :: st, a, h) = if j = 0 then none else Rn 88 (57, [x0, x1, x2, x3, x4], .int (i / j) :: st, a, h) := Rn_idiv c88_56 rfl
theorem c88_57 : mcode 88 57 = some (.istore_n 3, 1, 0, 0, 0) := rfl
theorem r88_57 : Rn 88 (57, [x0, x1, x2, x3, x4], .int i :: st, a, h) = Nl x2 (Rn 88 (58, [x0, x1, x2, some (.int i), x4], st, a, h)) := Rn_st1 (k := 3) (v := .int i) x2 c88_57 rfl rfl rfl rfl
theorem c88_58 : mcode 88 58 = some (.iload 4, 2, 0, 0, 0) := rfl
theorem r88_58 : Rn 88 (58, [x0, x1, x2, x3, some (.int i)], st, a, h) = Rn 88 (60, [x0, x1, x2, x3, some (.int i)], .int i :: st, a, h) := Rn_go c88_58 rfl
theorem c88_60 : mcode 88 60 = some (.iconst 2, 1, 0, 0, 0) := rfl
theorem r88_60 : Rn 88 (60, [x0, x1, x2, x3, x4], st, a, h) = Rn 88 (61, [x0, x1, x2, x3, x4], .int (2 : Int32) :: st, a, h) := Rn_go c88_60 rfl
theorem c88_61 : mcode 88 61 = some (.idiv, 1, 0, 0, 0) := rfl
theorem r88_61 : Rn 88 (61, [x0, x1, x2, x3, x4], .int j :: .int i :: st, a, h) = if j = 0 then none else Rn 88 (62, [x0, x1, x2, x3, x4], .int (i / j) :: st, a, h) := Rn_idiv c88_61 rfl
theorem c88_62 : mcode 88 62 = some (.istore 4, 2, 0, 0, 0) := rfl
theorem r88_62 : Rn 88 (62, [x0, x1, x2, x3, x4], .int i :: st, a, h) = Nl x3 (Rn 88 (64, [x0, x1, x2, x3, some (.int i)], st, a, h)) := Rn_st1 (k := 4) (v := .int i) x3 c88_62 rfl rfl rfl rfl
theorem c88_64 : mcode 88 64 = some (.goto (-22), 3, 0, 0, 0) := rfl
theorem r88_64 : Rn 88 (64, [x0, x1, x2, x3, x4], st, a, h) = Rn 88 (42, [x0, x1, x2, x3, x4], st, a, h) := Rn_goto c88_64 rfl
theorem c88_67 : mcode 88 67 = some (.iload_n 2, 1, 0, 0, 0) := rfl
theorem r88_67 : Rn 88 (67, [x0, x1, some (.int i), x3, x4], st, a, h) = Rn 88 (68, [x0, x1, some (.int i), x3, x4], .int i :: st, a, h) := Rn_go c88_67 rfl
theorem c88_68 : mcode 88 68 = some (.ifCond .ne 8, 3, 0, 0, 0) := rfl
theorem r88_68 : Rn 88 (68, [x0, x1, x2, x3, x4], .int i :: st, a, h) = if i = 0 then Rn 88 (71, [x0, x1, x2, x3, x4], st, a, h) else Rn 88 (76, [x0, x1, x2, x3, x4], st, a, h) := Rn_ifcn c88_68 mc_ne rfl rfl
theorem c88_71 : mcode 88 71 = some (.iload_n 3, 1, 0, 0, 0) := rfl
theorem r88_71 : Rn 88 (71, [x0, x1, x2, some (.int i), x4], st, a, h) = Rn 88 (72, [x0, x1, x2, some (.int i), x4], .int i :: st, a, h) := Rn_go c88_71 rfl
theorem c88_72 : mcode 88 72 = some (.i2l, 1, 0, 0, 0) := rfl
theorem r88_72 : Rn 88 (72, [x0, x1, x2, x3, x4], .int i :: st, a, h) = Rn 88 (73, [x0, x1, x2, x3, x4], .long i.toInt64 :: st, a, h) := Rn_go c88_72 rfl
theorem c88_73 : mcode 88 73 = some (.goto 6, 3, 0, 0, 0) := rfl
theorem r88_73 : Rn 88 (73, [x0, x1, x2, x3, x4], st, a, h) = Rn 88 (79, [x0, x1, x2, x3, x4], st, a, h) := Rn_goto c88_73 rfl
theorem c88_76 : mcode 88 76 = some (.iload 4, 2, 0, 0, 0) := rfl
theorem r88_76 : Rn 88 (76, [x0, x1, x2, x3, some (.int i)], st, a, h) = Rn 88 (78, [x0, x1, x2, x3, some (.int i)], .int i :: st, a, h) := Rn_go c88_76 rfl
theorem c88_78 : mcode 88 78 = some (.i2l, 1, 0, 0, 0) := rfl
theorem r88_78 : Rn 88 (78, [x0, x1, x2, x3, x4], .int i :: st, a, h) = Rn 88 (79, [x0, x1, x2, x3, x4], .long i.toInt64 :: st, a, h) := Rn_go c88_78 rfl
theorem c88_79 : mcode 88 79 = some (.iload_n 1, 1, 0, 0, 0) := rfl
theorem r88_79 : Rn 88 (79, [x0, some (.int i), x2, x3, x4], st, a, h) = Rn 88 (80, [x0, some (.int i), x2, x3, x4], .int i :: st, a, h) := Rn_go c88_79 rfl
theorem c88_80 : mcode 88 80 = some (.invokestatic 182, 3, 113, 2, 0) := rfl
theorem r88_80 : Rn 88 (80, [x0, x1, x2, x3, x4], [v1, v0], a, h) = Bk 88 83 [x0, x1, x2, x3, x4] [] (Ec 113 [v0, v1] a h) := Rn_call0 c88_80 (fun z => nomatch z) rfl (Nat.le_of_ble_eq_true rfl) rfl rfl (Nat.le_of_ble_eq_true rfl)
theorem c88_83 : mcode 88 83 = some (.lreturn, 1, 0, 0, 0) := rfl
theorem r88_83 : Rn 88 (83, [x0, x1, x2, x3, x4], [.long l], a, h) = some (some (.long l), a, h) := Rn_act c88_83
theorem c89_0 : mcode 89 0 = some (.aload_n 0, 1, 0, 0, 0) := rfl
theorem r89_0 : Rn 89 (0, [some (.ref q), x1, x2], st, a, h) = Rn 89 (1, [some (.ref q), x1, x2], .ref q :: st, a, h) := Rn_go c89_0 rfl
theorem c89_1 : mcode 89 1 = some (.getfield 12, 3, 5, 0, 0) := rfl
theorem r89_1 : Rn 89 (1, [x0, x1, x2], .ref q :: st, a, h) = Kv 89 4 [x0, x1, x2] st a h (mgf h q 5 0) := Rn_getf c89_1 rfl
theorem c89_4 : mcode 89 4 = some (.getfield 186, 3, 4, 6, 0) := rfl
theorem r89_4 : Rn 89 (4, [x0, x1, x2], .ref q :: st, a, h) = Kv 89 7 [x0, x1, x2] st a h (mgf h q 4 6) := Rn_getf c89_4 rfl
theorem c89_7 : mcode 89 7 = some (.istore_n 2, 1, 0, 0, 0) := rfl
theorem r89_7 : Rn 89 (7, [x0, x1, x2], .int i :: st, a, h) = Nl x1 (Rn 89 (8, [x0, x1, some (.int i)], st, a, h)) := Rn_st1 (k := 2) (v := .int i) x1 c89_7 rfl rfl rfl rfl
theorem c89_8 : mcode 89 8 = some (.aload_n 0, 1, 0, 0, 0) := rfl
theorem r89_8 : Rn 89 (8, [some (.ref q), x1, x2], st, a, h) = Rn 89 (9, [some (.ref q), x1, x2], .ref q :: st, a, h) := Rn_go c89_8 rfl
theorem c89_9 : mcode 89 9 = some (.getfield 12, 3, 5, 0, 0) := rfl
theorem r89_9 : Rn 89 (9, [x0, x1, x2], .ref q :: st, a, h) = Kv 89 12 [x0, x1, x2] st a h (mgf h q 5 0) := Rn_getf c89_9 rfl
theorem c89_12 : mcode 89 12 = some (.iload_n 1, 1, 0, 0, 0) := rfl
theorem r89_12 : Rn 89 (12, [x0, some (.int i), x2], st, a, h) = Rn 89 (13, [x0, some (.int i), x2], .int i :: st, a, h) := Rn_go c89_12 rfl
theorem c89_13 : mcode 89 13 = some (.putfield 186, 3, 4, 6, 0) := rfl
theorem r89_13 : Rn 89 (13, [x0, x1, x2], .int i :: .ref q :: st, a, h) = Kh 89 16 [x0, x1, x2] st a (mpf h q 4 6 (.int i)) := Rn_putfi c89_13 rfl rfl
theorem c89_16 : mcode 89 16 = some (.iload_n 2, 1, 0, 0, 0) := rfl
theorem r89_16 : Rn 89 (16, [x0, x1, some (.int i)], st, a, h) = Rn 89 (17, [x0, x1, some (.int i)], .int i :: st, a, h) := Rn_go c89_16 rfl
theorem c89_17 : mcode 89 17 = some (.ireturn, 1, 0, 0, 0) := rfl
theorem r89_17 : Rn 89 (17, [x0, x1, x2], [.int i], a, h) = some (some (.int i), a, h) := Rn_ireti c89_17
theorem c90_0 : mcode 90 0 = some (.iload_n 2, 1, 0, 0, 0) := rfl
theorem r90_0 : Rn 90 (0, [x0, x1, some (.int i), x3], st, a, h) = Rn 90 (1, [x0, x1, some (.int i), x3], .int i :: st, a, h) := Rn_go c90_0 rfl
theorem c90_1 : mcode 90 1 = some (.iconst 1, 1, 0, 0, 0) := rfl
theorem r90_1 : Rn 90 (1, [x0, x1, x2, x3], st, a, h) = Rn 90 (2, [x0, x1, x2, x3], .int (1 : Int32) :: st, a, h) := Rn_go c90_1 rfl
theorem c90_2 : mcode 90 2 = some (.iconst 4, 1, 0, 0, 0) := rfl
theorem r90_2 : Rn 90 (2, [x0, x1, x2, x3], st, a, h) = Rn 90 (3, [x0, x1, x2, x3], .int (4 : Int32) :: st, a, h) := Rn_go c90_2 rfl
theorem c90_3 : mcode 90 3 = some (.invokestatic 56, 3, 106, 3, 0) := rfl
theorem r90_3 : Rn 90 (3, [x0, x1, x2, x3], [v2, v1, v0], a, h) = Bk 90 6 [x0, x1, x2, x3] [] (Ec 106 [v0, v1, v2] a h) := Rn_call0 c90_3 (fun z => nomatch z) rfl (Nat.le_of_ble_eq_true rfl) rfl rfl (Nat.le_of_ble_eq_true rfl)
theorem c90_6 : mcode 90 6 = some (.ifCond .ne 10, 3, 0, 0, 0) := rfl
theorem r90_6 : Rn 90 (6, [x0, x1, x2, x3], .int i :: st, a, h) = if i = 0 then Rn 90 (9, [x0, x1, x2, x3], st, a, h) else Rn 90 (16, [x0, x1, x2, x3], st, a, h) := Rn_ifcn c90_6 mc_ne rfl rfl
theorem c90_9 : mcode 90 9 = some (.aload_n 0, 1, 0, 0, 0) := rfl
theorem r90_9 : Rn 90 (9, [some (.ref q), x1, x2, x3], st, a, h) = Rn 90 (10, [some (.ref q), x1, x2, x3], .ref q :: st, a, h) := Rn_go c90_9 rfl
theorem c90_10 : mcode 90 10 = some (.ldc 60, 2, 0, 0, -1000001) := rfl
theorem r90_10 : Rn 90 (10, [x0, x1, x2, x3], st, a, h) = Rn 90 (12, [x0, x1, x2, x3], .int (-1000001 : Int32) :: st, a, h) := Rn_go c90_10 rfl
theorem c90_12 : mcode 90 12 = some (.invokevirtual 61, 3, 105, 1, 5) := rfl
theorem r90_12 : Rn 90 (12, [x0, x1, x2, x3], [v0, .ref q], a, h) = if mis h q 5 = true then Bk 90 15 [x0, x1, x2, x3] [] (Ec 105 [.ref q, v0] a h) else none := Rn_call1 c90_12 rfl (Nat.le_of_ble_eq_true rfl) rfl rfl (Nat.le_of_ble_eq_true rfl)
theorem c90_15 : mcode 90 15 = some (.ireturn, 1, 0, 0, 0) := rfl
theorem r90_15 : Rn 90 (15, [x0, x1, x2, x3], [.int i], a, h) = some (some (.int i), a, h) := Rn_ireti c90_15
theorem c90_16 : mcode 90 16 = some (.aload_n 0, 1, 0, 0, 0) := rfl
theorem r90_16 : Rn 90 (16, [some (.ref q), x1, x2, x3], st, a, h) = Rn 90 (17, [some (.ref q), x1, x2, x3], .ref q :: st, a, h) := Rn_go c90_16 rfl
theorem c90_17 : mcode 90 17 = some (.getfield 37, 3, 5, 5, 0) := rfl
theorem r90_17 : Rn 90 (17, [x0, x1, x2, x3], .ref q :: st, a, h) = Kv 90 20 [x0, x1, x2, x3] st a h (mgf h q 5 5) := Rn_getf c90_17 rfl
theorem c90_20 : mcode 90 20 = some (.getfield 189, 3, 1, 1, 0) := rfl
theorem r90_20 : Rn 90 (20, [x0, x1, x2, x3], .ref q :: st, a, h) = Kv 90 23 [x0, x1, x2, x3] st a h (mgf h q 1 1) := Rn_getf c90_20 rfl
theorem c90_23 : mcode 90 23 = some (.iload_n 2, 1, 0, 0, 0) := rfl
theorem r90_23 : Rn 90 (23, [x0, x1, some (.int i), x3], st, a, h) = Rn 90 (24, [x0, x1, some (.int i), x3], .int i :: st, a, h) := Rn_go c90_23 rfl
theorem c90_24 : mcode 90 24 = some (.iadd, 1, 0, 0, 0) := rfl
theorem r90_24 : Rn 90 (24, [x0, x1, x2, x3], .int j :: .int i :: st, a, h) = Rn 90 (25, [x0, x1, x2, x3], .int (i + j) :: st, a, h) := Rn_go c90_24 rfl
theorem c90_25 : mcode 90 25 = some (.bipush 120, 2, 0, 0, 0) := rfl
theorem r90_25 : Rn 90 (25, [x0, x1, x2, x3], st, a, h) = Rn 90 (27, [x0, x1, x2, x3], .int (120 : Int32) :: st, a, h) := Rn_go c90_25 rfl
theorem c90_27 : mcode 90 27 = some (.if_icmp .le 10, 3, 0, 0, 0) := rfl
theorem r90_27 : Rn 90 (27, [x0, x1, x2, x3], .int j :: .int i :: st, a, h) = if j < i then Rn 90 (30, [x0, x1, x2, x3], st, a, h) else Rn 90 (37, [x0, x1, x2, x3], st, a, h) := Rn_icmpn c90_27 mc_le rfl rfl
theorem c90_30 : mcode 90 30 = some (.aload_n 0, 1, 0, 0, 0) := rfl
theorem r90_30 : Rn 90 (30, [some (.ref q), x1, x2, x3], st, a, h) = Rn 90 (31, [some (.ref q), x1, x2, x3], .ref q :: st, a, h) := Rn_go c90_30 rfl
theorem c90_31 : mcode 90 31 = some (.ldc 102, 2, 0, 0, -1000002) := rfl
theorem r90_31 : Rn 90 (31, [x0, x1, x2, x3], st, a, h) = Rn 90 (33, [x0, x1, x2, x3], .int (-1000002 : Int32) :: st, a, h) := Rn_go c90_31 rfl
theorem c90_33 : mcode 90 33 = some (.invokevirtual 61, 3, 105, 1, 5) := rfl
theorem r90_33 : Rn 90 (33, [x0, x1, x2, x3], [v0, .ref q], a, h) = if mis h q 5 = true then Bk 90 36 [x0, x1, x2, x3] [] (Ec 105 [.ref q, v0] a h) else none := Rn_call1 c90_33 rfl (Nat.le_of_ble_eq_true rfl) rfl rfl (Nat.le_of_ble_eq_true rfl)
theorem c90_36 : mcode 90 36 = some (.ireturn, 1, 0, 0, 0) := rfl
theorem r90_36 : Rn 90 (36, [x0, x1, x2, x3], [.int i], a, h) = some (some (.int i), a, h) := Rn_ireti c90_36
theorem c90_37 : mcode 90 37 = some (.iload_n 2, 1, 0, 0, 0) := rfl
theorem r90_37 : Rn 90 (37, [x0, x1, some (.int i), x3], st, a, h) = Rn 90 (38, [x0, x1, some (.int i), x3], .int i :: st, a, h) := Rn_go c90_37 rfl
theorem c90_38 : mcode 90 38 = some (.iconst 1, 1, 0, 0, 0) := rfl
theorem r90_38 : Rn 90 (38, [x0, x1, x2, x3], st, a, h) = Rn 90 (39, [x0, x1, x2, x3], .int (1 : Int32) :: st, a, h) := Rn_go c90_38 rfl
theorem c90_39 : mcode 90 39 = some (.isub, 1, 0, 0, 0) := rfl
theorem r90_39 : Rn 90 (39, [x0, x1, x2, x3], .int j :: .int i :: st, a, h) = Rn 90 (40, [x0, x1, x2, x3], .int (i - j) :: st, a, h) := Rn_go c90_39 rfl
theorem c90_40 : mcode 90 40 = some (.istore_n 3, 1, 0, 0, 0) := rfl
theorem r90_40 : Rn 90 (40, [x0, x1, x2, x3], .int i :: st, a, h) = Nl x2 (Rn 90 (41, [x0, x1, x2, some (.int i)], st, a, h)) := Rn_st1 (k := 3) (v := .int i) x2 c90_40 rfl rfl rfl rfl
theorem c90_41 : mcode 90 41 = some (.iload_n 3, 1, 0, 0, 0) := rfl
theorem r90_41 : Rn 90 (41, [x0, x1, x2, some (.int i)], st, a, h) = Rn 90 (42, [x0, x1, x2, some (.int i)], .int i :: st, a, h) := Rn_go c90_41 rfl
theorem c90_42 : mcode 90 42 = some (.ifCond .lt 26, 3, 0, 0, 0) := rfl
theorem r90_42 : Rn 90 (42, [x0, x1, x2, x3], .int i :: st, a, h) = if i < 0 then Rn 90 (68, [x0, x1, x2, x3], st, a, h) else Rn 90 (45, [x0, x1, x2, x3], st, a, h) := Rn_ifc c90_42 mc_lt rfl rfl
theorem c90_45 : mcode 90 45 = some (.aload_n 0, 1, 0, 0, 0) := rfl
theorem r90_45 : Rn 90 (45, [some (.ref q), x1, x2, x3], st, a, h) = Rn 90 (46, [some (.ref q), x1, x2, x3], .ref q :: st, a, h) := Rn_go c90_45 rfl
theorem c90_46 : mcode 90 46 = some (.getfield 37, 3, 5, 5, 0) := rfl
theorem r90_46 : Rn 90 (46, [x0, x1, x2, x3], .ref q :: st, a, h) = Kv 90 49 [x0, x1, x2, x3] st a h (mgf h q 5 5) := Rn_getf c90_46 rfl
theorem c90_49 : mcode 90 49 = some (.iload_n 1, 1, 0, 0, 0) := rfl
theorem r90_49 : Rn 90 (49, [x0, some (.int i), x2, x3], st, a, h) = Rn 90 (50, [x0, some (.int i), x2, x3], .int i :: st, a, h) := Rn_go c90_49 rfl
theorem c90_50 : mcode 90 50 = some (.bipush 8, 2, 0, 0, 0) := rfl
theorem r90_50 : Rn 90 (50, [x0, x1, x2, x3], st, a, h) = Rn 90 (52, [x0, x1, x2, x3], .int (8 : Int32) :: st, a, h) := Rn_go c90_50 rfl
theorem c90_52 : mcode 90 52 = some (.iload_n 3, 1, 0, 0, 0) := rfl
theorem r90_52 : Rn 90 (52, [x0, x1, x2, some (.int i)], st, a, h) = Rn 90 (53, [x0, x1, x2, some (.int i)], .int i :: st, a, h) := Rn_go c90_52 rfl
theorem c90_53 : mcode 90 53 = some (.imul, 1, 0, 0, 0) := rfl
theorem r90_53 : Rn 90 (53, [x0, x1, x2, x3], .int j :: .int i :: st, a, h) = Rn 90 (54, [x0, x1, x2, x3], .int (i * j) :: st, a, h) := Rn_go c90_53 rfl
theorem c90_54 : mcode 90 54 = some (.iushr, 1, 0, 0, 0) := rfl
theorem r90_54 : Rn 90 (54, [x0, x1, x2, x3], .int j :: .int i :: st, a, h) = Rn 90 (55, [x0, x1, x2, x3], .int ((i.toUInt32 >>> (j.toUInt32 &&& Int32.toUInt32 31)).toInt32) :: st, a, h) := Rn_go c90_54 rfl
theorem c90_55 : mcode 90 55 = some (.sipush 255, 3, 0, 0, 0) := rfl
theorem r90_55 : Rn 90 (55, [x0, x1, x2, x3], st, a, h) = Rn 90 (58, [x0, x1, x2, x3], .int (255 : Int32) :: st, a, h) := Rn_go c90_55 rfl
theorem c90_58 : mcode 90 58 = some (.iand, 1, 0, 0, 0) := rfl
theorem r90_58 : Rn 90 (58, [x0, x1, x2, x3], .int j :: .int i :: st, a, h) = Rn 90 (59, [x0, x1, x2, x3], .int (i &&& j) :: st, a, h) := Rn_go c90_58 rfl
theorem c90_59 : mcode 90 59 = some (.invokevirtual 194, 3, 9, 1, 1) := rfl
theorem r90_59 : Rn 90 (59, [x0, x1, x2, x3], [v0, .ref q], a, h) = if mis h q 1 = true then Bk 90 62 [x0, x1, x2, x3] [] (Ec 9 [.ref q, v0] a h) else none := Rn_call1 c90_59 rfl (Nat.le_of_ble_eq_true rfl) rfl rfl (Nat.le_of_ble_eq_true rfl)
theorem c90_62 : mcode 90 62 = some (.iinc 3 (-1), 3, 0, 0, 0) := rfl
theorem r90_62 : Rn 90 (62, [x0, x1, x2, some (.int i)], st, a, h) = Nl x2 (Rn 90 (65, [x0, x1, x2, some (.int (i + (-1 : Int32)))], st, a, h)) := Rn_st1 (k := 3) (v := .int (i + (-1 : Int32))) x2 c90_62 rfl rfl rfl rfl
theorem c90_65 : mcode 90 65 = some (.goto (-24), 3, 0, 0, 0) := rfl
theorem r90_65 : Rn 90 (65, [x0, x1, x2, x3], st, a, h) = Rn 90 (41, [x0, x1, x2, x3], st, a, h) := Rn_goto c90_65 rfl
theorem c90_68 : mcode 90 68 = some (.aload_n 0, 1, 0, 0, 0) := rfl
theorem r90_68 : Rn 90 (68, [some (.ref q), x1, x2, x3], st, a, h) = Rn 90 (69, [some (.ref q), x1, x2, x3], .ref q :: st, a, h) := Rn_go c90_68 rfl
theorem c90_69 : mcode 90 69 = some (.getfield 37, 3, 5, 5, 0) := rfl
theorem r90_69 : Rn 90 (69, [x0, x1, x2, x3], .ref q :: st, a, h) = Kv 90 72 [x0, x1, x2, x3] st a h (mgf h q 5 5) := Rn_getf c90_69 rfl
theorem c90_72 : mcode 90 72 = some (.getfield 189, 3, 1, 1, 0) := rfl
theorem r90_72 : Rn 90 (72, [x0, x1, x2, x3], .ref q :: st, a, h) = Kv 90 75 [x0, x1, x2, x3] st a h (mgf h q 1 1) := Rn_getf c90_72 rfl
theorem c90_75 : mcode 90 75 = some (.ireturn, 1, 0, 0, 0) := rfl
theorem r90_75 : Rn 90 (75, [x0, x1, x2, x3], [.int i], a, h) = some (some (.int i), a, h) := Rn_ireti c90_75
theorem c91_0 : mcode 91 0 = some (.aload_n 0, 1, 0, 0, 0) := rfl
theorem r91_0 : Rn 91 (0, [some (.ref q), x1], st, a, h) = Rn 91 (1, [some (.ref q), x1], .ref q :: st, a, h) := Rn_go c91_0 rfl
theorem c91_1 : mcode 91 1 = some (.getfield 37, 3, 5, 5, 0) := rfl
theorem r91_1 : Rn 91 (1, [x0, x1], .ref q :: st, a, h) = Kv 91 4 [x0, x1] st a h (mgf h q 5 5) := Rn_getf c91_1 rfl
theorem c91_4 : mcode 91 4 = some (.getfield 189, 3, 1, 1, 0) := rfl
theorem r91_4 : Rn 91 (4, [x0, x1], .ref q :: st, a, h) = Kv 91 7 [x0, x1] st a h (mgf h q 1 1) := Rn_getf c91_4 rfl
theorem c91_7 : mcode 91 7 = some (.istore_n 1, 1, 0, 0, 0) := rfl
theorem r91_7 : Rn 91 (7, [x0, x1], .int i :: st, a, h) = Nl x0 (Rn 91 (8, [x0, some (.int i)], st, a, h)) := Rn_st1 (k := 1) (v := .int i) x0 c91_7 rfl rfl rfl rfl
theorem c91_8 : mcode 91 8 = some (.aload_n 0, 1, 0, 0, 0) := rfl
theorem r91_8 : Rn 91 (8, [some (.ref q), x1], st, a, h) = Rn 91 (9, [some (.ref q), x1], .ref q :: st, a, h) := Rn_go c91_8 rfl
theorem c91_9 : mcode 91 9 = some (.getfield 37, 3, 5, 5, 0) := rfl
theorem r91_9 : Rn 91 (9, [x0, x1], .ref q :: st, a, h) = Kv 91 12 [x0, x1] st a h (mgf h q 5 5) := Rn_getf c91_9 rfl
theorem c91_12 : mcode 91 12 = some (.iconst 0, 1, 0, 0, 0) := rfl
theorem r91_12 : Rn 91 (12, [x0, x1], st, a, h) = Rn 91 (13, [x0, x1], .int (0 : Int32) :: st, a, h) := Rn_go c91_12 rfl
theorem c91_13 : mcode 91 13 = some (.putfield 189, 3, 1, 1, 0) := rfl
theorem r91_13 : Rn 91 (13, [x0, x1], .int i :: .ref q :: st, a, h) = Kh 91 16 [x0, x1] st a (mpf h q 1 1 (.int i)) := Rn_putfi c91_13 rfl rfl
theorem c91_16 : mcode 91 16 = some (.iload_n 1, 1, 0, 0, 0) := rfl
theorem r91_16 : Rn 91 (16, [x0, some (.int i)], st, a, h) = Rn 91 (17, [x0, some (.int i)], .int i :: st, a, h) := Rn_go c91_16 rfl
theorem c91_17 : mcode 91 17 = some (.ireturn, 1, 0, 0, 0) := rfl
theorem r91_17 : Rn 91 (17, [x0, x1], [.int i], a, h) = some (some (.int i), a, h) := Rn_ireti c91_17
theorem c92_0 : mcode 92 0 = some (.aload_n 0, 1, 0, 0, 0) := rfl
theorem r92_0 : Rn 92 (0, [some (.ref q), x1], st, a, h) = Rn 92 (1, [some (.ref q), x1], .ref q :: st, a, h) := Rn_go c92_0 rfl
theorem c92_1 : mcode 92 1 = some (.invokevirtual 143, 3, 114, 0, 5) := rfl
theorem r92_1 : Rn 92 (1, [x0, x1], [.ref q], a, h) = if mis h q 5 = true then Bk 92 4 [x0, x1] [] (Ec 114 [.ref q] a h) else none := Rn_call1 c92_1 rfl (Nat.le_of_ble_eq_true rfl) rfl rfl (Nat.le_of_ble_eq_true rfl)
theorem c92_4 : mcode 92 4 = some (.aload_n 0, 1, 0, 0, 0) := rfl
theorem r92_4 : Rn 92 (4, [some (.ref q), x1], st, a, h) = Rn 92 (5, [some (.ref q), x1], .ref q :: st, a, h) := Rn_go c92_4 rfl
theorem c92_5 : mcode 92 5 = some (.getfield 29, 3, 5, 4, 0) := rfl
theorem r92_5 : Rn 92 (5, [x0, x1], .ref q :: st, a, h) = Kv 92 8 [x0, x1] st a h (mgf h q 5 4) := Rn_getf c92_5 rfl
theorem c92_8 : mcode 92 8 = some (.aload_n 0, 1, 0, 0, 0) := rfl
theorem r92_8 : Rn 92 (8, [some (.ref q), x1], st, a, h) = Rn 92 (9, [some (.ref q), x1], .ref q :: st, a, h) := Rn_go c92_8 rfl
theorem c92_9 : mcode 92 9 = some (.getfield 16, 3, 5, 1, 0) := rfl
theorem r92_9 : Rn 92 (9, [x0, x1], .ref q :: st, a, h) = Kv 92 12 [x0, x1] st a h (mgf h q 5 1) := Rn_getf c92_9 rfl
theorem c92_12 : mcode 92 12 = some (.invokevirtual 197, 3, 12, 1, 2) := rfl
theorem r92_12 : Rn 92 (12, [x0, x1], [v0, .ref q], a, h) = if mis h q 2 = true then Bk 92 15 [x0, x1] [] (Ec 12 [.ref q, v0] a h) else none := Rn_call1 c92_12 rfl (Nat.le_of_ble_eq_true rfl) rfl rfl (Nat.le_of_ble_eq_true rfl)
theorem c92_15 : mcode 92 15 = some (.istore_n 1, 1, 0, 0, 0) := rfl
theorem r92_15 : Rn 92 (15, [x0, x1], .int i :: st, a, h) = Nl x0 (Rn 92 (16, [x0, some (.int i)], st, a, h)) := Rn_st1 (k := 1) (v := .int i) x0 c92_15 rfl rfl rfl rfl
theorem c92_16 : mcode 92 16 = some (.iload_n 1, 1, 0, 0, 0) := rfl
theorem r92_16 : Rn 92 (16, [x0, some (.int i)], st, a, h) = Rn 92 (17, [x0, some (.int i)], .int i :: st, a, h) := Rn_go c92_16 rfl
theorem c92_17 : mcode 92 17 = some (.ifCond .lt 14, 3, 0, 0, 0) := rfl
theorem r92_17 : Rn 92 (17, [x0, x1], .int i :: st, a, h) = if i < 0 then Rn 92 (31, [x0, x1], st, a, h) else Rn 92 (20, [x0, x1], st, a, h) := Rn_ifc c92_17 mc_lt rfl rfl
theorem c92_20 : mcode 92 20 = some (.aload_n 0, 1, 0, 0, 0) := rfl
theorem r92_20 : Rn 92 (20, [some (.ref q), x1], st, a, h) = Rn 92 (21, [some (.ref q), x1], .ref q :: st, a, h) := Rn_go c92_20 rfl
theorem c92_21 : mcode 92 21 = some (.getfield 12, 3, 5, 0, 0) := rfl
theorem r92_21 : Rn 92 (21, [x0, x1], .ref q :: st, a, h) = Kv 92 24 [x0, x1] st a h (mgf h q 5 0) := Rn_getf c92_21 rfl
theorem c92_24 : mcode 92 24 = some (.aload_n 0, 1, 0, 0, 0) := rfl
theorem r92_24 : Rn 92 (24, [some (.ref q), x1], st, a, h) = Rn 92 (25, [some (.ref q), x1], .ref q :: st, a, h) := Rn_go c92_24 rfl
theorem c92_25 : mcode 92 25 = some (.getfield 16, 3, 5, 1, 0) := rfl
theorem r92_25 : Rn 92 (25, [x0, x1], .ref q :: st, a, h) = Kv 92 28 [x0, x1] st a h (mgf h q 5 1) := Rn_getf c92_25 rfl
theorem c92_28 : mcode 92 28 = some (.invokevirtual 201, 3, 35, 1, 4) := rfl
theorem r92_28 : Rn 92 (28, [x0, x1], [v0, .ref q], a, h) = if mis h q 4 = true then Bk 92 31 [x0, x1] [] (Ec 35 [.ref q, v0] a h) else none := Rn_call1 c92_28 rfl (Nat.le_of_ble_eq_true rfl) rfl rfl (Nat.le_of_ble_eq_true rfl)
theorem c92_31 : mcode 92 31 = some (.aload_n 0, 1, 0, 0, 0) := rfl
theorem r92_31 : Rn 92 (31, [some (.ref q), x1], st, a, h) = Rn 92 (32, [some (.ref q), x1], .ref q :: st, a, h) := Rn_go c92_31 rfl
theorem c92_32 : mcode 92 32 = some (.getfield 37, 3, 5, 5, 0) := rfl
theorem r92_32 : Rn 92 (32, [x0, x1], .ref q :: st, a, h) = Kv 92 35 [x0, x1] st a h (mgf h q 5 5) := Rn_getf c92_32 rfl
theorem c92_35 : mcode 92 35 = some (.iconst 0, 1, 0, 0, 0) := rfl
theorem r92_35 : Rn 92 (35, [x0, x1], st, a, h) = Rn 92 (36, [x0, x1], .int (0 : Int32) :: st, a, h) := Rn_go c92_35 rfl
theorem c92_36 : mcode 92 36 = some (.putfield 189, 3, 1, 1, 0) := rfl
theorem r92_36 : Rn 92 (36, [x0, x1], .int i :: .ref q :: st, a, h) = Kh 92 39 [x0, x1] st a (mpf h q 1 1 (.int i)) := Rn_putfi c92_36 rfl rfl
theorem c92_39 : mcode 92 39 = some (.iload_n 1, 1, 0, 0, 0) := rfl
theorem r92_39 : Rn 92 (39, [x0, some (.int i)], st, a, h) = Rn 92 (40, [x0, some (.int i)], .int i :: st, a, h) := Rn_go c92_39 rfl
theorem c92_40 : mcode 92 40 = some (.ireturn, 1, 0, 0, 0) := rfl
theorem r92_40 : Rn 92 (40, [x0, x1], [.int i], a, h) = some (some (.int i), a, h) := Rn_ireti c92_40
theorem c93_0 : mcode 93 0 = some (.iload_n 1, 1, 0, 0, 0) := rfl
theorem r93_0 : Rn 93 (0, [x0, some (.int i), x2], st, a, h) = Rn 93 (1, [x0, some (.int i), x2], .int i :: st, a, h) := Rn_go c93_0 rfl
theorem c93_1 : mcode 93 1 = some (.invokestatic 205, 3, 110, 1, 0) := rfl
theorem r93_1 : Rn 93 (1, [x0, x1, x2], [v0], a, h) = Bk 93 4 [x0, x1, x2] [] (Ec 110 [v0] a h) := Rn_call0 c93_1 (fun z => nomatch z) rfl (Nat.le_of_ble_eq_true rfl) rfl rfl (Nat.le_of_ble_eq_true rfl)
theorem c93_4 : mcode 93 4 = some (.ifCond .eq 19, 3, 0, 0, 0) := rfl
theorem r93_4 : Rn 93 (4, [x0, x1, x2], .int i :: st, a, h) = if i = 0 then Rn 93 (23, [x0, x1, x2], st, a, h) else Rn 93 (7, [x0, x1, x2], st, a, h) := Rn_ifc c93_4 mc_eq rfl rfl
theorem c93_7 : mcode 93 7 = some (.iload_n 2, 1, 0, 0, 0) := rfl
theorem r93_7 : Rn 93 (7, [x0, x1, some (.int i)], st, a, h) = Rn 93 (8, [x0, x1, some (.int i)], .int i :: st, a, h) := Rn_go c93_7 rfl
theorem c93_8 : mcode 93 8 = some (.iconst (-1), 1, 0, 0, 0) := rfl
theorem r93_8 : Rn 93 (8, [x0, x1, x2], st, a, h) = Rn 93 (9, [x0, x1, x2], .int (-1 : Int32) :: st, a, h) := Rn_go c93_8 rfl
theorem c93_9 : mcode 93 9 = some (.if_icmp .eq 21, 3, 0, 0, 0) := rfl
theorem r93_9 : Rn 93 (9, [x0, x1, x2], .int j :: .int i :: st, a, h) = if i = j then Rn 93 (30, [x0, x1, x2], st, a, h) else Rn 93 (12, [x0, x1, x2], st, a, h) := Rn_icmp c93_9 mc_eq rfl rfl
theorem c93_12 : mcode 93 12 = some (.aload_n 0, 1, 0, 0, 0) := rfl
theorem r93_12 : Rn 93 (12, [some (.ref q), x1, x2], st, a, h) = Rn 93 (13, [some (.ref q), x1, x2], .ref q :: st, a, h) := Rn_go c93_12 rfl
theorem c93_13 : mcode 93 13 = some (.getfield 12, 3, 5, 0, 0) := rfl
theorem r93_13 : Rn 93 (13, [x0, x1, x2], .ref q :: st, a, h) = Kv 93 16 [x0, x1, x2] st a h (mgf h q 5 0) := Rn_getf c93_13 rfl
theorem c93_16 : mcode 93 16 = some (.iload_n 2, 1, 0, 0, 0) := rfl
theorem r93_16 : Rn 93 (16, [x0, x1, some (.int i)], st, a, h) = Rn 93 (17, [x0, x1, some (.int i)], .int i :: st, a, h) := Rn_go c93_16 rfl
theorem c93_17 : mcode 93 17 = some (.invokevirtual 109, 3, 36, 1, 4) := rfl
theorem r93_17 : Rn 93 (17, [x0, x1, x2], [v0, .ref q], a, h) = if mis h q 4 = true then Bk 93 20 [x0, x1, x2] [] (Ec 36 [.ref q, v0] a h) else none := Rn_call1 c93_17 rfl (Nat.le_of_ble_eq_true rfl) rfl rfl (Nat.le_of_ble_eq_true rfl)
theorem c93_20 : mcode 93 20 = some (.ifCond .ne 10, 3, 0, 0, 0) := rfl
theorem r93_20 : Rn 93 (20, [x0, x1, x2], .int i :: st, a, h) = if i = 0 then Rn 93 (23, [x0, x1, x2], st, a, h) else Rn 93 (30, [x0, x1, x2], st, a, h) := Rn_ifcn c93_20 mc_ne rfl rfl
theorem c93_23 : mcode 93 23 = some (.aload_n 0, 1, 0, 0, 0) := rfl
theorem r93_23 : Rn 93 (23, [some (.ref q), x1, x2], st, a, h) = Rn 93 (24, [some (.ref q), x1, x2], .ref q :: st, a, h) := Rn_go c93_23 rfl
theorem c93_24 : mcode 93 24 = some (.ldc 60, 2, 0, 0, -1000001) := rfl
theorem r93_24 : Rn 93 (24, [x0, x1, x2], st, a, h) = Rn 93 (26, [x0, x1, x2], .int (-1000001 : Int32) :: st, a, h) := Rn_go c93_24 rfl
theorem c93_26 : mcode 93 26 = some (.invokevirtual 61, 3, 105, 1, 5) := rfl
theorem r93_26 : Rn 93 (26, [x0, x1, x2], [v0, .ref q], a, h) = if mis h q 5 = true then Bk 93 29 [x0, x1, x2] [] (Ec 105 [.ref q, v0] a h) else none := Rn_call1 c93_26 rfl (Nat.le_of_ble_eq_true rfl) rfl rfl (Nat.le_of_ble_eq_true rfl)
theorem c93_29 : mcode 93 29 = some (.ireturn, 1, 0, 0, 0) := rfl
theorem r93_29 : Rn 93 (29, [x0, x1, x2], [.int i], a, h) = some (some (.int i), a, h) := Rn_ireti c93_29
theorem c93_30 : mcode 93 30 = some (.aload_n 0, 1, 0, 0, 0) := rfl
theorem r93_30 : Rn 93 (30, [some (.ref q), x1, x2], st, a, h) = Rn 93 (31, [some (.ref q), x1, x2], .ref q :: st, a, h) := Rn_go c93_30 rfl
theorem c93_31 : mcode 93 31 = some (.getfield 12, 3, 5, 0, 0) := rfl
theorem r93_31 : Rn 93 (31, [x0, x1, x2], .ref q :: st, a, h) = Kv 93 34 [x0, x1, x2] st a h (mgf h q 5 0) := Rn_getf c93_31 rfl
theorem c93_34 : mcode 93 34 = some (.iload_n 1, 1, 0, 0, 0) := rfl
theorem r93_34 : Rn 93 (34, [x0, some (.int i), x2], st, a, h) = Rn 93 (35, [x0, some (.int i), x2], .int i :: st, a, h) := Rn_go c93_34 rfl
theorem c93_35 : mcode 93 35 = some (.iload_n 2, 1, 0, 0, 0) := rfl
theorem r93_35 : Rn 93 (35, [x0, x1, some (.int i)], st, a, h) = Rn 93 (36, [x0, x1, some (.int i)], .int i :: st, a, h) := Rn_go c93_35 rfl
theorem c93_36 : mcode 93 36 = some (.invokevirtual 208, 3, 59, 2, 4) := rfl
theorem r93_36 : Rn 93 (36, [x0, x1, x2], [v1, v0, .ref q], a, h) = if mis h q 4 = true then Bk 93 39 [x0, x1, x2] [] (Ec 59 [.ref q, v0, v1] a h) else none := Rn_call1 c93_36 rfl (Nat.le_of_ble_eq_true rfl) rfl rfl (Nat.le_of_ble_eq_true rfl)
theorem c93_39 : mcode 93 39 = some (.iconst 1, 1, 0, 0, 0) := rfl
theorem r93_39 : Rn 93 (39, [x0, x1, x2], st, a, h) = Rn 93 (40, [x0, x1, x2], .int (1 : Int32) :: st, a, h) := Rn_go c93_39 rfl
theorem c93_40 : mcode 93 40 = some (.ireturn, 1, 0, 0, 0) := rfl
theorem r93_40 : Rn 93 (40, [x0, x1, x2], [.int i], a, h) = some (some (.int i), a, h) := Rn_ireti c93_40
theorem c94_0 : mcode 94 0 = some (.iload_n 1, 1, 0, 0, 0) := rfl
theorem r94_0 : Rn 94 (0, [x0, some (.int i), x2, x3], st, a, h) = Rn 94 (1, [x0, some (.int i), x2, x3], .int i :: st, a, h) := Rn_go c94_0 rfl
theorem c94_1 : mcode 94 1 = some (.invokestatic 205, 3, 110, 1, 0) := rfl
theorem r94_1 : Rn 94 (1, [x0, x1, x2, x3], [v0], a, h) = Bk 94 4 [x0, x1, x2, x3] [] (Ec 110 [v0] a h) := Rn_call0 c94_1 (fun z => nomatch z) rfl (Nat.le_of_ble_eq_true rfl) rfl rfl (Nat.le_of_ble_eq_true rfl)
theorem c94_4 : mcode 94 4 = some (.ifCond .eq 10, 3, 0, 0, 0) := rfl
theorem r94_4 : Rn 94 (4, [x0, x1, x2, x3], .int i :: st, a, h) = if i = 0 then Rn 94 (14, [x0, x1, x2, x3], st, a, h) else Rn 94 (7, [x0, x1, x2, x3], st, a, h) := Rn_ifc c94_4 mc_eq rfl rfl
theorem c94_7 : mcode 94 7 = some (.iload_n 2, 1, 0, 0, 0) := rfl
theorem r94_7 : Rn 94 (7, [x0, x1, some (.int i), x3], st, a, h) = Rn 94 (8, [x0, x1, some (.int i), x3], .int i :: st, a, h) := Rn_go c94_7 rfl
theorem c94_8 : mcode 94 8 = some (.invokestatic 95, 3, 109, 1, 0) := rfl
theorem r94_8 : Rn 94 (8, [x0, x1, x2, x3], [v0], a, h) = Bk 94 11 [x0, x1, x2, x3] [] (Ec 109 [v0] a h) := Rn_call0 c94_8 (fun z => nomatch z) rfl (Nat.le_of_ble_eq_true rfl) rfl rfl (Nat.le_of_ble_eq_true rfl)
theorem c94_11 : mcode 94 11 = some (.ifCond .ne 10, 3, 0, 0, 0) := rfl
theorem r94_11 : Rn 94 (11, [x0, x1, x2, x3], .int i :: st, a, h) = if i = 0 then Rn 94 (14, [x0, x1, x2, x3], st, a, h) else Rn 94 (21, [x0, x1, x2, x3], st, a, h) := Rn_ifcn c94_11 mc_ne rfl rfl
theorem c94_14 : mcode 94 14 = some (.aload_n 0, 1, 0, 0, 0) := rfl
theorem r94_14 : Rn 94 (14, [some (.ref q), x1, x2, x3], st, a, h) = Rn 94 (15, [some (.ref q), x1, x2, x3], .ref q :: st, a, h) := Rn_go c94_14 rfl
theorem c94_15 : mcode 94 15 = some (.ldc 60, 2, 0, 0, -1000001) := rfl
theorem r94_15 : Rn 94 (15, [x0, x1, x2, x3], st, a, h) = Rn 94 (17, [x0, x1, x2, x3], .int (-1000001 : Int32) :: st, a, h) := Rn_go c94_15 rfl
theorem c94_17 : mcode 94 17 = some (.invokevirtual 61, 3, 105, 1, 5) := rfl
theorem r94_17 : Rn 94 (17, [x0, x1, x2, x3], [v0, .ref q], a, h) = if mis h q 5 = true then Bk 94 20 [x0, x1, x2, x3] [] (Ec 105 [.ref q, v0] a h) else none := Rn_call1 c94_17 rfl (Nat.le_of_ble_eq_true rfl) rfl rfl (Nat.le_of_ble_eq_true rfl)
theorem c94_20 : mcode 94 20 = some (.ireturn, 1, 0, 0, 0) := rfl
theorem r94_20 : Rn 94 (20, [x0, x1, x2, x3], [.int i], a, h) = some (some (.int i), a, h) := Rn_ireti c94_20
theorem c94_21 : mcode 94 21 = some (.aload_n 0, 1, 0, 0, 0) := rfl
theorem r94_21 : Rn 94 (21, [some (.ref q), x1, x2, x3], st, a, h) = Rn 94 (22, [some (.ref q), x1, x2, x3], .ref q :: st, a, h) := Rn_go c94_21 rfl
theorem c94_22 : mcode 94 22 = some (.getfield 12, 3, 5, 0, 0) := rfl
theorem r94_22 : Rn 94 (22, [x0, x1, x2, x3], .ref q :: st, a, h) = Kv 94 25 [x0, x1, x2, x3] st a h (mgf h q 5 0) := Rn_getf c94_22 rfl
theorem c94_25 : mcode 94 25 = some (.iload_n 1, 1, 0, 0, 0) := rfl
theorem r94_25 : Rn 94 (25, [x0, some (.int i), x2, x3], st, a, h) = Rn 94 (26, [x0, some (.int i), x2, x3], .int i :: st, a, h) := Rn_go c94_25 rfl
theorem c94_26 : mcode 94 26 = some (.invokevirtual 211, 3, 60, 1, 4) := rfl
theorem r94_26 : Rn 94 (26, [x0, x1, x2, x3], [v0, .ref q], a, h) = if mis h q 4 = true then Bk 94 29 [x0, x1, x2, x3] [] (Ec 60 [.ref q, v0] a h) else none := Rn_call1 c94_26 rfl (Nat.le_of_ble_eq_true rfl) rfl rfl (Nat.le_of_ble_eq_true rfl)
theorem c94_29 : mcode 94 29 = some (.istore_n 3, 1, 0, 0, 0) := rfl
theorem r94_29 : Rn 94 (29, [x0, x1, x2, x3], .int i :: st, a, h) = Nl x2 (Rn 94 (30, [x0, x1, x2, some (.int i)], st, a, h)) := Rn_st1 (k := 3) (v := .int i) x2 c94_29 rfl rfl rfl rfl
theorem c94_30 : mcode 94 30 = some (.iload_n 3, 1, 0, 0, 0) := rfl
theorem r94_30 : Rn 94 (30, [x0, x1, x2, some (.int i)], st, a, h) = Rn 94 (31, [x0, x1, x2, some (.int i)], .int i :: st, a, h) := Rn_go c94_30 rfl
theorem c94_31 : mcode 94 31 = some (.iconst (-1), 1, 0, 0, 0) := rfl
theorem r94_31 : Rn 94 (31, [x0, x1, x2, x3], st, a, h) = Rn 94 (32, [x0, x1, x2, x3], .int (-1 : Int32) :: st, a, h) := Rn_go c94_31 rfl
theorem c94_32 : mcode 94 32 = some (.if_icmp .ne 10, 3, 0, 0, 0) := rfl
theorem r94_32 : Rn 94 (32, [x0, x1, x2, x3], .int j :: .int i :: st, a, h) = if i = j then Rn 94 (35, [x0, x1, x2, x3], st, a, h) else Rn 94 (42, [x0, x1, x2, x3], st, a, h) := Rn_icmpn c94_32 mc_ne rfl rfl
theorem c94_35 : mcode 94 35 = some (.aload_n 0, 1, 0, 0, 0) := rfl
theorem r94_35 : Rn 94 (35, [some (.ref q), x1, x2, x3], st, a, h) = Rn 94 (36, [some (.ref q), x1, x2, x3], .ref q :: st, a, h) := Rn_go c94_35 rfl
theorem c94_36 : mcode 94 36 = some (.ldc 214, 2, 0, 0, -1000006) := rfl
theorem r94_36 : Rn 94 (36, [x0, x1, x2, x3], st, a, h) = Rn 94 (38, [x0, x1, x2, x3], .int (-1000006 : Int32) :: st, a, h) := Rn_go c94_36 rfl
theorem c94_38 : mcode 94 38 = some (.invokevirtual 61, 3, 105, 1, 5) := rfl
theorem r94_38 : Rn 94 (38, [x0, x1, x2, x3], [v0, .ref q], a, h) = if mis h q 5 = true then Bk 94 41 [x0, x1, x2, x3] [] (Ec 105 [.ref q, v0] a h) else none := Rn_call1 c94_38 rfl (Nat.le_of_ble_eq_true rfl) rfl rfl (Nat.le_of_ble_eq_true rfl)
theorem c94_41 : mcode 94 41 = some (.ireturn, 1, 0, 0, 0) := rfl
theorem r94_41 : Rn 94 (41, [x0, x1, x2, x3], [.int i], a, h) = some (some (.int i), a, h) := Rn_ireti c94_41
theorem c94_42 : mcode 94 42 = some (.aload_n 0, 1, 0, 0, 0) := rfl
theorem r94_42 : Rn 94 (42, [some (.ref q), x1, x2, x3], st, a, h) = Rn 94 (43, [some (.ref q), x1, x2, x3], .ref q :: st, a, h) := Rn_go c94_42 rfl
theorem c94_43 : mcode 94 43 = some (.getfield 12, 3, 5, 0, 0) := rfl
theorem r94_43 : Rn 94 (43, [x0, x1, x2, x3], .ref q :: st, a, h) = Kv 94 46 [x0, x1, x2, x3] st a h (mgf h q 5 0) := Rn_getf c94_43 rfl
theorem c94_46 : mcode 94 46 = some (.iload_n 3, 1, 0, 0, 0) := rfl
theorem r94_46 : Rn 94 (46, [x0, x1, x2, some (.int i)], st, a, h) = Rn 94 (47, [x0, x1, x2, some (.int i)], .int i :: st, a, h) := Rn_go c94_46 rfl
theorem c94_47 : mcode 94 47 = some (.iconst 0, 1, 0, 0, 0) := rfl
theorem r94_47 : Rn 94 (47, [x0, x1, x2, x3], st, a, h) = Rn 94 (48, [x0, x1, x2, x3], .int (0 : Int32) :: st, a, h) := Rn_go c94_47 rfl
theorem c94_48 : mcode 94 48 = some (.invokevirtual 112, 3, 39, 2, 4) := rfl
theorem r94_48 : Rn 94 (48, [x0, x1, x2, x3], [v1, v0, .ref q], a, h) = if mis h q 4 = true then Bk 94 51 [x0, x1, x2, x3] [] (Ec 39 [.ref q, v0, v1] a h) else none := Rn_call1 c94_48 rfl (Nat.le_of_ble_eq_true rfl) rfl rfl (Nat.le_of_ble_eq_true rfl)
theorem c94_51 : mcode 94 51 = some (.iload_n 2, 1, 0, 0, 0) := rfl
theorem r94_51 : Rn 94 (51, [x0, x1, some (.int i), x3], st, a, h) = Rn 94 (52, [x0, x1, some (.int i), x3], .int i :: st, a, h) := Rn_go c94_51 rfl
theorem c94_52 : mcode 94 52 = some (.invokestatic 215, 3, 112, 2, 0) := rfl
theorem r94_52 : Rn 94 (52, [x0, x1, x2, x3], [v1, v0], a, h) = Bk 94 55 [x0, x1, x2, x3] [] (Ec 112 [v0, v1] a h) := Rn_call0 c94_52 (fun z => nomatch z) rfl (Nat.le_of_ble_eq_true rfl) rfl rfl (Nat.le_of_ble_eq_true rfl)
theorem c94_55 : mcode 94 55 = some (.ifCond .ne 10, 3, 0, 0, 0) := rfl
theorem r94_55 : Rn 94 (55, [x0, x1, x2, x3], .int i :: st, a, h) = if i = 0 then Rn 94 (58, [x0, x1, x2, x3], st, a, h) else Rn 94 (65, [x0, x1, x2, x3], st, a, h) := Rn_ifcn c94_55 mc_ne rfl rfl
theorem c94_58 : mcode 94 58 = some (.aload_n 0, 1, 0, 0, 0) := rfl
theorem r94_58 : Rn 94 (58, [some (.ref q), x1, x2, x3], st, a, h) = Rn 94 (59, [some (.ref q), x1, x2, x3], .ref q :: st, a, h) := Rn_go c94_58 rfl
theorem c94_59 : mcode 94 59 = some (.ldc 219, 2, 0, 0, -1000003) := rfl
theorem r94_59 : Rn 94 (59, [x0, x1, x2, x3], st, a, h) = Rn 94 (61, [x0, x1, x2, x3], .int (-1000003 : Int32) :: st, a, h) := Rn_go c94_59 rfl
theorem c94_61 : mcode 94 61 = some (.invokevirtual 61, 3, 105, 1, 5) := rfl
theorem r94_61 : Rn 94 (61, [x0, x1, x2, x3], [v0, .ref q], a, h) = if mis h q 5 = true then Bk 94 64 [x0, x1, x2, x3] [] (Ec 105 [.ref q, v0] a h) else none := Rn_call1 c94_61 rfl (Nat.le_of_ble_eq_true rfl) rfl rfl (Nat.le_of_ble_eq_true rfl)
theorem c94_64 : mcode 94 64 = some (.ireturn, 1, 0, 0, 0) := rfl
theorem r94_64 : Rn 94 (64, [x0, x1, x2, x3], [.int i], a, h) = some (some (.int i), a, h) := Rn_ireti c94_64
theorem c94_65 : mcode 94 65 = some (.iload_n 3, 1, 0, 0, 0) := rfl
theorem r94_65 : Rn 94 (65, [x0, x1, x2, some (.int i)], st, a, h) = Rn 94 (66, [x0, x1, x2, some (.int i)], .int i :: st, a, h) := Rn_go c94_65 rfl
theorem c94_66 : mcode 94 66 = some (.ireturn, 1, 0, 0, 0) := rfl
theorem r94_66 : Rn 94 (66, [x0, x1, x2, x3], [.int i], a, h) = some (some (.int i), a, h) := Rn_ireti c94_66
theorem c95_0 : mcode 95 0 = some (.aload_n 0, 1, 0, 0, 0) := rfl
theorem r95_0 : Rn 95 (0, [some (.ref q), x1, x2, x3, x4], st, a, h) = Rn 95 (1, [some (.ref q), x1, x2, x3, x4], .ref q :: st, a, h) := Rn_go c95_0 rfl
theorem c95_1 : mcode 95 1 = some (.iload_n 1, 1, 0, 0, 0) := rfl
theorem r95_1 : Rn 95 (1, [x0, some (.int i), x2, x3, x4], st, a, h) = Rn 95 (2, [x0, some (.int i), x2, x3, x4], .int i :: st, a, h) := Rn_go c95_1 rfl
theorem c95_2 : mcode 95 2 = some (.invokevirtual 164, 3, 117, 1, 5) := rfl
theorem r95_2 : Rn 95 (2, [x0, x1, x2, x3, x4], [v0, .ref q], a, h) = if mis h q 5 = true then Bk 95 5 [x0, x1, x2, x3, x4] [] (Ec 117 [.ref q, v0] a h) else none := Rn_call1 c95_2 rfl (Nat.le_of_ble_eq_true rfl) rfl rfl (Nat.le_of_ble_eq_true rfl)
theorem c95_5 : mcode 95 5 = some (.astore 4, 2, 0, 0, 0) := rfl
theorem r95_5 : Rn 95 (5, [x0, x1, x2, x3, x4], .ref q :: st, a, h) = Nl x3 (Rn 95 (7, [x0, x1, x2, x3, some (.ref q)], st, a, h)) := Rn_st1 (k := 4) (v := .ref q) x3 c95_5 rfl rfl rfl rfl
theorem r95_5n : Rn 95 (5, [x0, x1, x2, x3, x4], .null :: st, a, h) = Nl x3 (Rn 95 (7, [x0, x1, x2, x3, some (.null)], st, a, h)) := Rn_st1 (k := 4) (v := .null) x3 c95_5 rfl rfl rfl rfl
theorem c95_7 : mcode 95 7 = some (.aload 4, 2, 0, 0, 0) := rfl
theorem r95_7 : Rn 95 (7, [x0, x1, x2, x3, some (.ref q)], st, a, h) = Rn 95 (9, [x0, x1, x2, x3, some (.ref q)], .ref q :: st, a, h) := Rn_go c95_7 rfl
theorem r95_7n : Rn 95 (7, [x0, x1, x2, x3, some .null], st, a, h) = Rn 95 (9, [x0, x1, x2, x3, some .null], .null :: st, a, h) := Rn_go c95_7 rfl
theorem c95_9 : mcode 95 9 = some (.ifnull 25, 3, 0, 0, 0) := rfl
theorem r95_9n : Rn 95 (9, [x0, x1, x2, x3, x4], .null :: st, a, h) = Rn 95 (34, [x0, x1, x2, x3, x4], st, a, h) := Rn_go c95_9 rfl
theorem r95_9 : Rn 95 (9, [x0, x1, x2, x3, x4], .ref q :: st, a, h) = Rn 95 (12, [x0, x1, x2, x3, x4], st, a, h) := Rn_go c95_9 rfl
theorem c95_12 : mcode 95 12 = some (.iload_n 2, 1, 0, 0, 0) := rfl
theorem r95_12 : Rn 95 (12, [x0, x1, some (.int i), x3, x4], st, a, h) = Rn 95 (13, [x0, x1, some (.int i), x3, x4], .int i :: st, a, h) := Rn_go c95_12 rfl
theorem c95_13 : mcode 95 13 = some (.ifCond .eq 28, 3, 0, 0, 0) := rfl
theorem r95_13 : Rn 95 (13, [x0, x1, x2, x3, x4], .int i :: st, a, h) = if i = 0 then Rn 95 (41, [x0, x1, x2, x3, x4], st, a, h) else Rn 95 (16, [x0, x1, x2, x3, x4], st, a, h) := Rn_ifc c95_13 mc_eq rfl rfl
theorem c95_16 : mcode 95 16 = some (.iload_n 2, 1, 0, 0, 0) := rfl
theorem r95_16 : Rn 95 (16, [x0, x1, some (.int i), x3, x4], st, a, h) = Rn 95 (17, [x0, x1, some (.int i), x3, x4], .int i :: st, a, h) := Rn_go c95_16 rfl
theorem c95_17 : mcode 95 17 = some (.bipush 8, 2, 0, 0, 0) := rfl
theorem r95_17 : Rn 95 (17, [x0, x1, x2, x3, x4], st, a, h) = Rn 95 (19, [x0, x1, x2, x3, x4], .int (8 : Int32) :: st, a, h) := Rn_go c95_17 rfl
theorem c95_19 : mcode 95 19 = some (.if_icmp .eq 22, 3, 0, 0, 0) := rfl
theorem r95_19 : Rn 95 (19, [x0, x1, x2, x3, x4], .int j :: .int i :: st, a, h) = if i = j then Rn 95 (41, [x0, x1, x2, x3, x4], st, a, h) else Rn 95 (22, [x0, x1, x2, x3, x4], st, a, h) := Rn_icmp c95_19 mc_eq rfl rfl
theorem c95_22 : mcode 95 22 = some (.iload_n 2, 1, 0, 0, 0) := rfl
theorem r95_22 : Rn 95 (22, [x0, x1, some (.int i), x3, x4], st, a, h) = Rn 95 (23, [x0, x1, some (.int i), x3, x4], .int i :: st, a, h) := Rn_go c95_22 rfl
theorem c95_23 : mcode 95 23 = some (.bipush 16, 2, 0, 0, 0) := rfl
theorem r95_23 : Rn 95 (23, [x0, x1, x2, x3, x4], st, a, h) = Rn 95 (25, [x0, x1, x2, x3, x4], .int (16 : Int32) :: st, a, h) := Rn_go c95_23 rfl
theorem c95_25 : mcode 95 25 = some (.if_icmp .eq 16, 3, 0, 0, 0) := rfl
theorem r95_25 : Rn 95 (25, [x0, x1, x2, x3, x4], .int j :: .int i :: st, a, h) = if i = j then Rn 95 (41, [x0, x1, x2, x3, x4], st, a, h) else Rn 95 (28, [x0, x1, x2, x3, x4], st, a, h) := Rn_icmp c95_25 mc_eq rfl rfl
theorem c95_28 : mcode 95 28 = some (.iload_n 2, 1, 0, 0, 0) := rfl
theorem r95_28 : Rn 95 (28, [x0, x1, some (.int i), x3, x4], st, a, h) = Rn 95 (29, [x0, x1, some (.int i), x3, x4], .int i :: st, a, h) := Rn_go c95_28 rfl
theorem c95_29 : mcode 95 29 = some (.bipush 32, 2, 0, 0, 0) := rfl
theorem r95_29 : Rn 95 (29, [x0, x1, x2, x3, x4], st, a, h) = Rn 95 (31, [x0, x1, x2, x3, x4], .int (32 : Int32) :: st, a, h) := Rn_go c95_29 rfl
theorem c95_31 : mcode 95 31 = some (.if_icmp .eq 10, 3, 0, 0, 0) := rfl
theorem r95_31 : Rn 95 (31, [x0, x1, x2, x3, x4], .int j :: .int i :: st, a, h) = if i = j then Rn 95 (41, [x0, x1, x2, x3, x4], st, a, h) else Rn 95 (34, [x0, x1, x2, x3, x4], st, a, h) := Rn_icmp c95_31 mc_eq rfl rfl
theorem c95_34 : mcode 95 34 = some (.aload_n 0, 1, 0, 0, 0) := rfl
theorem r95_34 : Rn 95 (34, [some (.ref q), x1, x2, x3, x4], st, a, h) = Rn 95 (35, [some (.ref q), x1, x2, x3, x4], .ref q :: st, a, h) := Rn_go c95_34 rfl
theorem c95_35 : mcode 95 35 = some (.ldc 60, 2, 0, 0, -1000001) := rfl
theorem r95_35 : Rn 95 (35, [x0, x1, x2, x3, x4], st, a, h) = Rn 95 (37, [x0, x1, x2, x3, x4], .int (-1000001 : Int32) :: st, a, h) := Rn_go c95_35 rfl
theorem c95_37 : mcode 95 37 = some (.invokevirtual 61, 3, 105, 1, 5) := rfl
theorem r95_37 : Rn 95 (37, [x0, x1, x2, x3, x4], [v0, .ref q], a, h) = if mis h q 5 = true then Bk 95 40 [x0, x1, x2, x3, x4] [] (Ec 105 [.ref q, v0] a h) else none := Rn_call1 c95_37 rfl (Nat.le_of_ble_eq_true rfl) rfl rfl (Nat.le_of_ble_eq_true rfl)
theorem c95_40 : mcode 95 40 = some (.ireturn, 1, 0, 0, 0) := rfl
theorem r95_40 : Rn 95 (40, [x0, x1, x2, x3, x4], [.int i], a, h) = some (some (.int i), a, h) := Rn_ireti c95_40
theorem c95_41 : mcode 95 41 = some (.iload_n 3, 1, 0, 0, 0) := rfl
theorem r95_41 : Rn 95 (41, [x0, x1, x2, some (.int i), x4], st, a, h) = Rn 95 (42, [x0, x1, x2, some (.int i), x4], .int i :: st, a, h) := Rn_go c95_41 rfl
theorem c95_42 : mcode 95 42 = some (.ifCond .ge 10, 3, 0, 0, 0) := rfl
theorem r95_42 : Rn 95 (42, [x0, x1, x2, x3, x4], .int i :: st, a, h) = if i < 0 then Rn 95 (45, [x0, x1, x2, x3, x4], st, a, h) else Rn 95 (52, [x0, x1, x2, x3, x4], st, a, h) := Rn_ifcn c95_42 mc_ge rfl rfl
theorem c95_45 : mcode 95 45 = some (.aload_n 0, 1, 0, 0, 0) := rfl
theorem r95_45 : Rn 95 (45, [some (.ref q), x1, x2, x3, x4], st, a, h) = Rn 95 (46, [some (.ref q), x1, x2, x3, x4], .ref q :: st, a, h) := Rn_go c95_45 rfl
theorem c95_46 : mcode 95 46 = some (.ldc 220, 2, 0, 0, -1000007) := rfl
theorem r95_46 : Rn 95 (46, [x0, x1, x2, x3, x4], st, a, h) = Rn 95 (48, [x0, x1, x2, x3, x4], .int (-1000007 : Int32) :: st, a, h) := Rn_go c95_46 rfl
theorem c95_48 : mcode 95 48 = some (.invokevirtual 61, 3, 105, 1, 5) := rfl
theorem r95_48 : Rn 95 (48, [x0, x1, x2, x3, x4], [v0, .ref q], a, h) = if mis h q 5 = true then Bk 95 51 [x0, x1, x2, x3, x4] [] (Ec 105 [.ref q, v0] a h) else none := Rn_call1 c95_48 rfl (Nat.le_of_ble_eq_true rfl) rfl rfl (Nat.le_of_ble_eq_true rfl)
theorem c95_51 : mcode 95 51 = some (.ireturn, 1, 0, 0, 0) := rfl
theorem r95_51 : Rn 95 (51, [x0, x1, x2, x3, x4], [.int i], a, h) = some (some (.int i), a, h) := Rn_ireti c95_51
theorem c95_52 : mcode 95 52 = some (.iload_n 3, 1, 0, 0, 0) := rfl
theorem r95_52 : Rn 95 (52, [x0, x1, x2, some (.int i), x4], st, a, h) = Rn 95 (53, [x0, x1, x2, some (.int i), x4], .int i :: st, a, h) := Rn_go c95_52 rfl
theorem c95_53 : mcode 95 53 = some (.bipush 40, 2, 0, 0, 0) := rfl
theorem r95_53 : Rn 95 (53, [x0, x1, x2, x3, x4], st, a, h) = Rn 95 (55, [x0, x1, x2, x3, x4], .int (40 : Int32) :: st, a, h) := Rn_go c95_53 rfl
theorem c95_55 : mcode 95 55 = some (.if_icmp .le 10, 3, 0, 0, 0) := rfl
theorem r95_55 : Rn 95 (55, [x0, x1, x2, x3, x4], .int j :: .int i :: st, a, h) = if j < i then Rn 95 (58, [x0, x1, x2, x3, x4], st, a, h) else Rn 95 (65, [x0, x1, x2, x3, x4], st, a, h) := Rn_icmpn c95_55 mc_le rfl rfl
theorem c95_58 : mcode 95 58 = some (.aload_n 0, 1, 0, 0, 0) := rfl
theorem r95_58 : Rn 95 (58, [some (.ref q), x1, x2, x3, x4], st, a, h) = Rn 95 (59, [some (.ref q), x1, x2, x3, x4], .ref q :: st, a, h) := Rn_go c95_58 rfl
theorem c95_59 : mcode 95 59 = some (.ldc 60, 2, 0, 0, -1000001) := rfl
theorem r95_59 : Rn 95 (59, [x0, x1, x2, x3, x4], st, a, h) = Rn 95 (61, [x0, x1, x2, x3, x4], .int (-1000001 : Int32) :: st, a, h) := Rn_go c95_59 rfl
theorem c95_61 : mcode 95 61 = some (.invokevirtual 61, 3, 105, 1, 5) := rfl
theorem r95_61 : Rn 95 (61, [x0, x1, x2, x3, x4], [v0, .ref q], a, h) = if mis h q 5 = true then Bk 95 64 [x0, x1, x2, x3, x4] [] (Ec 105 [.ref q, v0] a h) else none := Rn_call1 c95_61 rfl (Nat.le_of_ble_eq_true rfl) rfl rfl (Nat.le_of_ble_eq_true rfl)
theorem c95_64 : mcode 95 64 = some (.ireturn, 1, 0, 0, 0) := rfl
theorem r95_64 : Rn 95 (64, [x0, x1, x2, x3, x4], [.int i], a, h) = some (some (.int i), a, h) := Rn_ireti c95_64
theorem c95_65 : mcode 95 65 = some (.aload 4, 2, 0, 0, 0) := rfl
theorem r95_65 : Rn 95 (65, [x0, x1, x2, x3, some (.ref q)], st, a, h) = Rn 95 (67, [x0, x1, x2, x3, some (.ref q)], .ref q :: st, a, h) := Rn_go c95_65 rfl
theorem r95_65n : Rn 95 (65, [x0, x1, x2, x3, some .null], st, a, h) = Rn 95 (67, [x0, x1, x2, x3, some .null], .null :: st, a, h) := Rn_go c95_65 rfl
theorem c95_67 : mcode 95 67 = some (.iload_n 2, 1, 0, 0, 0) := rfl
theorem r95_67 : Rn 95 (67, [x0, x1, some (.int i), x3, x4], st, a, h) = Rn 95 (68, [x0, x1, some (.int i), x3, x4], .int i :: st, a, h) := Rn_go c95_67 rfl
theorem c95_68 : mcode 95 68 = some (.iload_n 3, 1, 0, 0, 0) := rfl
theorem r95_68 : Rn 95 (68, [x0, x1, x2, some (.int i), x4], st, a, h) = Rn 95 (69, [x0, x1, x2, some (.int i), x4], .int i :: st, a, h) := Rn_go c95_68 rfl
theorem c95_69 : mcode 95 69 = some (.invokevirtual 221, 3, 2, 2, 0) := rfl
theorem r95_69 : Rn 95 (69, [x0, x1, x2, x3, x4], [v1, v0, .ref q], a, h) = if mis h q 0 = true then Bk 95 72 [x0, x1, x2, x3, x4] [] (Ec 2 [.ref q, v0, v1] a h) else none := Rn_call1 c95_69 rfl (Nat.le_of_ble_eq_true rfl) rfl rfl (Nat.le_of_ble_eq_true rfl)
theorem c95_72 : mcode 95 72 = some (.aload 4, 2, 0, 0, 0) := rfl
theorem r95_72 : Rn 95 (72, [x0, x1, x2, x3, some (.ref q)], st, a, h) = Rn 95 (74, [x0, x1, x2, x3, some (.ref q)], .ref q :: st, a, h) := Rn_go c95_72 rfl
theorem r95_72n : Rn 95 (72, [x0, x1, x2, x3, some .null], st, a, h) = Rn 95 (74, [x0, x1, x2, x3, some .null], .null :: st, a, h) := Rn_go c95_72 rfl
theorem c95_74 : mcode 95 74 = some (.getfield 224, 3, 0, 2, 0) := rfl
theorem r95_74 : Rn 95 (74, [x0, x1, x2, x3, x4], .ref q :: st, a, h) = Kv 95 77 [x0, x1, x2, x3, x4] st a h (mgf h q 0 2) := Rn_getf c95_74 rfl
theorem c95_77 : mcode 95 77 = some (.ireturn, 1, 0, 0, 0) := rfl
theorem r95_77 : Rn 95 (77, [x0, x1, x2, x3, x4], [.int i], a, h) = some (some (.int i), a, h) := Rn_ireti c95_77
theorem c96_0 : mcode 96 0 = some (.aload_n 0, 1, 0, 0, 0) := rfl
theorem r96_0 : Rn 96 (0, [some (.ref q), x1, x2, x3, x4, x5], st, a, h) = Rn 96 (1, [some (.ref q), x1, x2, x3, x4, x5], .ref q :: st, a, h) := Rn_go c96_0 rfl
theorem c96_1 : mcode 96 1 = some (.iload_n 1, 1, 0, 0, 0) := rfl
theorem r96_1 : Rn 96 (1, [x0, some (.int i), x2, x3, x4, x5], st, a, h) = Rn 96 (2, [x0, some (.int i), x2, x3, x4, x5], .int i :: st, a, h) := Rn_go c96_1 rfl
theorem c96_2 : mcode 96 2 = some (.invokevirtual 172, 3, 118, 1, 5) := rfl
theorem r96_2 : Rn 96 (2, [x0, x1, x2, x3, x4, x5], [v0, .ref q], a, h) = if mis h q 5 = true then Bk 96 5 [x0, x1, x2, x3, x4, x5] [] (Ec 118 [.ref q, v0] a h) else none := Rn_call1 c96_2 rfl (Nat.le_of_ble_eq_true rfl) rfl rfl (Nat.le_of_ble_eq_true rfl)
theorem c96_5 : mcode 96 5 = some (.istore 4, 2, 0, 0, 0) := rfl
theorem r96_5 : Rn 96 (5, [x0, x1, x2, x3, x4, x5], .int i :: st, a, h) = Nl x3 (Rn 96 (7, [x0, x1, x2, x3, some (.int i), x5], st, a, h)) := Rn_st1 (k := 4) (v := .int i) x3 c96_5 rfl rfl rfl rfl
theorem c96_7 : mcode 96 7 = some (.iload 4, 2, 0, 0, 0) := rfl
theorem r96_7 : Rn 96 (7, [x0, x1, x2, x3, some (.int i), x5], st, a, h) = Rn 96 (9, [x0, x1, x2, x3, some (.int i), x5], .int i :: st, a, h) := Rn_go c96_7 rfl
theorem c96_9 : mcode 96 9 = some (.ifCond .eq 10, 3, 0, 0, 0) := rfl
theorem r96_9 : Rn 96 (9, [x0, x1, x2, x3, x4, x5], .int i :: st, a, h) = if i = 0 then Rn 96 (19, [x0, x1, x2, x3, x4, x5], st, a, h) else Rn 96 (12, [x0, x1, x2, x3, x4, x5], st, a, h) := Rn_ifc c96_9 mc_eq rfl rfl
theorem c96_12 : mcode 96 12 = some (.aload_n 0, 1, 0, 0, 0) := rfl
theorem r96_12 : Rn 96 (12, [some (.ref q), x1, x2, x3, x4, x5], st, a, h) = Rn 96 (13, [some (.ref q), x1, x2, x3, x4, x5], .ref q :: st, a, h) := Rn_go c96_12 rfl
theorem c96_13 : mcode 96 13 = some (.iload 4, 2, 0, 0, 0) := rfl
theorem r96_13 : Rn 96 (13, [x0, x1, x2, x3, some (.int i), x5], st, a, h) = Rn 96 (15, [x0, x1, x2, x3, some (.int i), x5], .int i :: st, a, h) := Rn_go c96_13 rfl
theorem c96_15 : mcode 96 15 = some (.invokevirtual 61, 3, 105, 1, 5) := rfl
theorem r96_15 : Rn 96 (15, [x0, x1, x2, x3, x4, x5], [v0, .ref q], a, h) = if mis h q 5 = true then Bk 96 18 [x0, x1, x2, x3, x4, x5] [] (Ec 105 [.ref q, v0] a h) else none := Rn_call1 c96_15 rfl (Nat.le_of_ble_eq_true rfl) rfl rfl (Nat.le_of_ble_eq_true rfl)
theorem c96_18 : mcode 96 18 = some (.ireturn, 1, 0, 0, 0) := rfl
theorem r96_18 : Rn 96 (18, [x0, x1, x2, x3, x4, x5], [.int i], a, h) = some (some (.int i), a, h) := Rn_ireti c96_18
theorem c96_19 : mcode 96 19 = some (.aload_n 0, 1, 0, 0, 0) := rfl
theorem r96_19 : Rn 96 (19, [some (.ref q), x1, x2, x3, x4, x5], st, a, h) = Rn 96 (20, [some (.ref q), x1, x2, x3, x4, x5], .ref q :: st, a, h) := Rn_go c96_19 rfl
theorem c96_20 : mcode 96 20 = some (.iload_n 1, 1, 0, 0, 0) := rfl
theorem r96_20 : Rn 96 (20, [x0, some (.int i), x2, x3, x4, x5], st, a, h) = Rn 96 (21, [x0, some (.int i), x2, x3, x4, x5], .int i :: st, a, h) := Rn_go c96_20 rfl
theorem c96_21 : mcode 96 21 = some (.invokevirtual 164, 3, 117, 1, 5) := rfl
theorem r96_21 : Rn 96 (21, [x0, x1, x2, x3, x4, x5], [v0, .ref q], a, h) = if mis h q 5 = true then Bk 96 24 [x0, x1, x2, x3, x4, x5] [] (Ec 117 [.ref q, v0] a h) else none := Rn_call1 c96_21 rfl (Nat.le_of_ble_eq_true rfl) rfl rfl (Nat.le_of_ble_eq_true rfl)
theorem c96_24 : mcode 96 24 = some (.astore 5, 2, 0, 0, 0) := rfl
theorem r96_24 : Rn 96 (24, [x0, x1, x2, x3, x4, x5], .ref q :: st, a, h) = Nl x4 (Rn 96 (26, [x0, x1, x2, x3, x4, some (.ref q)], st, a, h)) := Rn_st1 (k := 5) (v := .ref q) x4 c96_24 rfl rfl rfl rfl
theorem r96_24n : Rn 96 (24, [x0, x1, x2, x3, x4, x5], .null :: st, a, h) = Nl x4 (Rn 96 (26, [x0, x1, x2, x3, x4, some (.null)], st, a, h)) := Rn_st1 (k := 5) (v := .null) x4 c96_24 rfl rfl rfl rfl
theorem c96_26 : mcode 96 26 = some (.aload 5, 2, 0, 0, 0) := rfl
theorem r96_26 : Rn 96 (26, [x0, x1, x2, x3, x4, some (.ref q)], st, a, h) = Rn 96 (28, [x0, x1, x2, x3, x4, some (.ref q)], .ref q :: st, a, h) := Rn_go c96_26 rfl
theorem r96_26n : Rn 96 (26, [x0, x1, x2, x3, x4, some .null], st, a, h) = Rn 96 (28, [x0, x1, x2, x3, x4, some .null], .null :: st, a, h) := Rn_go c96_26 rfl
theorem c96_28 : mcode 96 28 = some (.ifnull 12, 3, 0, 0, 0) := rfl
theorem r96_28n : Rn 96 (28, [x0, x1, x2, x3, x4, x5], .null :: st, a, h) = Rn 96 (40, [x0, x1, x2, x3, x4, x5], st, a, h) := Rn_go c96_28 rfl
theorem r96_28 : Rn 96 (28, [x0, x1, x2, x3, x4, x5], .ref q :: st, a, h) = Rn 96 (31, [x0, x1, x2, x3, x4, x5], st, a, h) := Rn_go c96_28 rfl
theorem c96_31 : mcode 96 31 = some (.aload 5, 2, 0, 0, 0) := rfl
theorem r96_31 : Rn 96 (31, [x0, x1, x2, x3, x4, some (.ref q)], st, a, h) = Rn 96 (33, [x0, x1, x2, x3, x4, some (.ref q)], .ref q :: st, a, h) := Rn_go c96_31 rfl
theorem r96_31n : Rn 96 (31, [x0, x1, x2, x3, x4, some .null], st, a, h) = Rn 96 (33, [x0, x1, x2, x3, x4, some .null], .null :: st, a, h) := Rn_go c96_31 rfl
theorem c96_33 : mcode 96 33 = some (.iload_n 2, 1, 0, 0, 0) := rfl
theorem r96_33 : Rn 96 (33, [x0, x1, some (.int i), x3, x4, x5], st, a, h) = Rn 96 (34, [x0, x1, some (.int i), x3, x4, x5], .int i :: st, a, h) := Rn_go c96_33 rfl
theorem c96_34 : mcode 96 34 = some (.invokevirtual 227, 3, 3, 1, 0) := rfl
theorem r96_34 : Rn 96 (34, [x0, x1, x2, x3, x4, x5], [v0, .ref q], a, h) = if mis h q 0 = true then Bk 96 37 [x0, x1, x2, x3, x4, x5] [] (Ec 3 [.ref q, v0] a h) else none := Rn_call1 c96_34 rfl (Nat.le_of_ble_eq_true rfl) rfl rfl (Nat.le_of_ble_eq_true rfl)
theorem c96_37 : mcode 96 37 = some (.ifCond .ne 10, 3, 0, 0, 0) := rfl
theorem r96_37 : Rn 96 (37, [x0, x1, x2, x3, x4, x5], .int i :: st, a, h) = if i = 0 then Rn 96 (40, [x0, x1, x2, x3, x4, x5], st, a, h) else Rn 96 (47, [x0, x1, x2, x3, x4, x5], st, a, h) := Rn_ifcn c96_37 mc_ne rfl rfl
theorem c96_40 : mcode 96 40 = some (.aload_n 0, 1, 0, 0, 0) := rfl
theorem r96_40 : Rn 96 (40, [some (.ref q), x1, x2, x3, x4, x5], st, a, h) = Rn 96 (41, [some (.ref q), x1, x2, x3, x4, x5], .ref q :: st, a, h) := Rn_go c96_40 rfl
theorem c96_41 : mcode 96 41 = some (.ldc 60, 2, 0, 0, -1000001) := rfl
theorem r96_41 : Rn 96 (41, [x0, x1, x2, x3, x4, x5], st, a, h) = Rn 96 (43, [x0, x1, x2, x3, x4, x5], .int (-1000001 : Int32) :: st, a, h) := Rn_go c96_41 rfl
theorem c96_43 : mcode 96 43 = some (.invokevirtual 61, 3, 105, 1, 5) := rfl
theorem r96_43 : Rn 96 (43, [x0, x1, x2, x3, x4, x5], [v0, .ref q], a, h) = if mis h q 5 = true then Bk 96 46 [x0, x1, x2, x3, x4, x5] [] (Ec 105 [.ref q, v0] a h) else none := Rn_call1 c96_43 rfl (Nat.le_of_ble_eq_true rfl) rfl rfl (Nat.le_of_ble_eq_true rfl)
theorem c96_46 : mcode 96 46 = some (.ireturn, 1, 0, 0, 0) := rfl
theorem r96_46 : Rn 96 (46, [x0, x1, x2, x3, x4, x5], [.int i], a, h) = some (some (.int i), a, h) := Rn_ireti c96_46
theorem c96_47 : mcode 96 47 = some (.aload 5, 2, 0, 0, 0) := rfl
theorem r96_47 : Rn 96 (47, [x0, x1, x2, x3, x4, some (.ref q)], st, a, h) = Rn 96 (49, [x0, x1, x2, x3, x4, some (.ref q)], .ref q :: st, a, h) := Rn_go c96_47 rfl
theorem r96_47n : Rn 96 (47, [x0, x1, x2, x3, x4, some .null], st, a, h) = Rn 96 (49, [x0, x1, x2, x3, x4, some .null], .null :: st, a, h) := Rn_go c96_47 rfl
theorem c96_49 : mcode 96 49 = some (.iload_n 2, 1, 0, 0, 0) := rfl
theorem r96_49 : Rn 96 (49, [x0, x1, some (.int i), x3, x4, x5], st, a, h) = Rn 96 (50, [x0, x1, some (.int i), x3, x4, x5], .int i :: st, a, h) := Rn_go c96_49 rfl
theorem c96_50 : mcode 96 50 = some (.iload_n 3, 1, 0, 0, 0) := rfl
theorem r96_50 : Rn 96 (50, [x0, x1, x2, some (.int i), x4, x5], st, a, h) = Rn 96 (51, [x0, x1, x2, some (.int i), x4, x5], .int i :: st, a, h) := Rn_go c96_50 rfl
theorem c96_51 : mcode 96 51 = some (.invokevirtual 228, 3, 6, 2, 0) := rfl
theorem r96_51 : Rn 96 (51, [x0, x1, x2, x3, x4, x5], [v1, v0, .ref q], a, h) = if mis h q 0 = true then Bk 96 54 [x0, x1, x2, x3, x4, x5] [] (Ec 6 [.ref q, v0, v1] a h) else none := Rn_call1 c96_51 rfl (Nat.le_of_ble_eq_true rfl) rfl rfl (Nat.le_of_ble_eq_true rfl)
theorem c96_54 : mcode 96 54 = some (.iconst 1, 1, 0, 0, 0) := rfl
theorem r96_54 : Rn 96 (54, [x0, x1, x2, x3, x4, x5], st, a, h) = Rn 96 (55, [x0, x1, x2, x3, x4, x5], .int (1 : Int32) :: st, a, h) := Rn_go c96_54 rfl
theorem c96_55 : mcode 96 55 = some (.ireturn, 1, 0, 0, 0) := rfl
theorem r96_55 : Rn 96 (55, [x0, x1, x2, x3, x4, x5], [.int i], a, h) = some (some (.int i), a, h) := Rn_ireti c96_55
theorem c97_0 : mcode 97 0 = some (.aload_n 0, 1, 0, 0, 0) := rfl
theorem r97_0 : Rn 97 (0, [some (.ref q), x1, x2, x3, x4, x5, x6, x7], st, a, h) = Rn 97 (1, [some (.ref q), x1, x2, x3, x4, x5, x6, x7], .ref q :: st, a, h) := Rn_go c97_0 rfl
theorem c97_1 : mcode 97 1 = some (.iload_n 1, 1, 0, 0, 0) := rfl
theorem r97_1 : Rn 97 (1, [x0, some (.int i), x2, x3, x4, x5, x6, x7], st, a, h) = Rn 97 (2, [x0, some (.int i), x2, x3, x4, x5, x6, x7], .int i :: st, a, h) := Rn_go c97_1 rfl
theorem c97_2 : mcode 97 2 = some (.invokevirtual 164, 3, 117, 1, 5) := rfl
theorem r97_2 : Rn 97 (2, [x0, x1, x2, x3, x4, x5, x6, x7], [v0, .ref q], a, h) = if mis h q 5 = true then Bk 97 5 [x0, x1, x2, x3, x4, x5, x6, x7] [] (Ec 117 [.ref q, v0] a h) else none := Rn_call1 c97_2 rfl (Nat.le_of_ble_eq_true rfl) rfl rfl (Nat.le_of_ble_eq_true rfl)
theorem c97_5 : mcode 97 5 = some (.astore 6, 2, 0, 0, 0) := rfl
theorem r97_5 : Rn 97 (5, [x0, x1, x2, x3, x4, x5, x6, x7], .ref q :: st, a, h) = Nl x5 (Rn 97 (7, [x0, x1, x2, x3, x4, x5, some (.ref q), x7], st, a, h)) := Rn_st1 (k := 6) (v := .ref q) x5 c97_5 rfl rfl rfl rfl
theorem r97_5n : Rn 97 (5, [x0, x1, x2, x3, x4, x5, x6, x7], .null :: st, a, h) = Nl x5 (Rn 97 (7, [x0, x1, x2, x3, x4, x5, some (.null), x7], st, a, h)) := Rn_st1 (k := 6) (v := .null) x5 c97_5 rfl rfl rfl rfl
theorem c97_7 : mcode 97 7 = some (.aload_n 0, 1, 0, 0, 0) := rfl
theorem r97_7 : Rn 97 (7, [some (.ref q), x1, x2, x3, x4, x5, x6, x7], st, a, h) = Rn 97 (8, [some (.ref q), x1, x2, x3, x4, x5, x6, x7], .ref q :: st, a, h) := Rn_go c97_7 rfl
theorem c97_8 : mcode 97 8 = some (.iload_n 3, 1, 0, 0, 0) := rfl
theorem r97_8 : Rn 97 (8, [x0, x1, x2, some (.int i), x4, x5, x6, x7], st, a, h) = Rn 97 (9, [x0, x1, x2, some (.int i), x4, x5, x6, x7], .int i :: st, a, h) := Rn_go c97_8 rfl
theorem c97_9 : mcode 97 9 = some (.invokevirtual 164, 3, 117, 1, 5) := rfl
theorem r97_9 : Rn 97 (9, [x0, x1, x2, x3, x4, x5, x6, x7], [v0, .ref q], a, h) = if mis h q 5 = true then Bk 97 12 [x0, x1, x2, x3, x4, x5, x6, x7] [] (Ec 117 [.ref q, v0] a h) else none := Rn_call1 c97_9 rfl (Nat.le_of_ble_eq_true rfl) rfl rfl (Nat.le_of_ble_eq_true rfl)
theorem c97_12 : mcode 97 12 = some (.astore 7, 2, 0, 0, 0) := rfl
theorem r97_12 : Rn 97 (12, [x0, x1, x2, x3, x4, x5, x6, x7], .ref q :: st, a, h) = Nl x6 (Rn 97 (14, [x0, x1, x2, x3, x4, x5, x6, some (.ref q)], st, a, h)) := Rn_st1 (k := 7) (v := .ref q) x6 c97_12 rfl rfl rfl rfl
theorem r97_12n : Rn 97 (12, [x0, x1, x2, x3, x4, x5, x6, x7], .null :: st, a, h) = Nl x6 (Rn 97 (14, [x0, x1, x2, x3, x4, x5, x6, some (.null)], st, a, h)) := Rn_st1 (k := 7) (v := .null) x6 c97_12 rfl rfl rfl rfl
theorem c97_14 : mcode 97 14 = some (.aload 6, 2, 0, 0, 0) := rfl
theorem r97_14 : Rn 97 (14, [x0, x1, x2, x3, x4, x5, some (.ref q), x7], st, a, h) = Rn 97 (16, [x0, x1, x2, x3, x4, x5, some (.ref q), x7], .ref q :: st, a, h) := Rn_go c97_14 rfl
theorem r97_14n : Rn 97 (14, [x0, x1, x2, x3, x4, x5, some .null, x7], st, a, h) = Rn 97 (16, [x0, x1, x2, x3, x4, x5, some .null, x7], .null :: st, a, h) := Rn_go c97_14 rfl
theorem c97_16 : mcode 97 16 = some (.ifnull 8, 3, 0, 0, 0) := rfl
theorem r97_16n : Rn 97 (16, [x0, x1, x2, x3, x4, x5, x6, x7], .null :: st, a, h) = Rn 97 (24, [x0, x1, x2, x3, x4, x5, x6, x7], st, a, h) := Rn_go c97_16 rfl
theorem r97_16 : Rn 97 (16, [x0, x1, x2, x3, x4, x5, x6, x7], .ref q :: st, a, h) = Rn 97 (19, [x0, x1, x2, x3, x4, x5, x6, x7], st, a, h) := Rn_go c97_16 rfl
theorem c97_19 : mcode 97 19 = some (.aload 7, 2, 0, 0, 0) := rfl
theorem r97_19 : Rn 97 (19, [x0, x1, x2, x3, x4, x5, x6, some (.ref q)], st, a, h) = Rn 97 (21, [x0, x1, x2, x3, x4, x5, x6, some (.ref q)], .ref q :: st, a, h) := Rn_go c97_19 rfl
theorem r97_19n : Rn 97 (19, [x0, x1, x2, x3, x4, x5, x6, some .null], st, a, h) = Rn 97 (21, [x0, x1, x2, x3, x4, x5, x6, some .null], .null :: st, a, h) := Rn_go c97_19 rfl
theorem c97_21 : mcode 97 21 = some (.ifnonnull 10, 3, 0, 0, 0) := rfl
theorem r97_21n : Rn 97 (21, [x0, x1, x2, x3, x4, x5, x6, x7], .null :: st, a, h) = Rn 97 (24, [x0, x1, x2, x3, x4, x5, x6, x7], st, a, h) := Rn_go c97_21 rfl
theorem r97_21 : Rn 97 (21, [x0, x1, x2, x3, x4, x5, x6, x7], .ref q :: st, a, h) = Rn 97 (31, [x0, x1, x2, x3, x4, x5, x6, x7], st, a, h) := Rn_go c97_21 rfl
theorem c97_24 : mcode 97 24 = some (.aload_n 0, 1, 0, 0, 0) := rfl
theorem r97_24 : Rn 97 (24, [some (.ref q), x1, x2, x3, x4, x5, x6, x7], st, a, h) = Rn 97 (25, [some (.ref q), x1, x2, x3, x4, x5, x6, x7], .ref q :: st, a, h) := Rn_go c97_24 rfl
theorem c97_25 : mcode 97 25 = some (.ldc 60, 2, 0, 0, -1000001) := rfl
theorem r97_25 : Rn 97 (25, [x0, x1, x2, x3, x4, x5, x6, x7], st, a, h) = Rn 97 (27, [x0, x1, x2, x3, x4, x5, x6, x7], .int (-1000001 : Int32) :: st, a, h) := Rn_go c97_25 rfl
theorem c97_27 : mcode 97 27 = some (.invokevirtual 61, 3, 105, 1, 5) := rfl
theorem r97_27 : Rn 97 (27, [x0, x1, x2, x3, x4, x5, x6, x7], [v0, .ref q], a, h) = if mis h q 5 = true then Bk 97 30 [x0, x1, x2, x3, x4, x5, x6, x7] [] (Ec 105 [.ref q, v0] a h) else none := Rn_call1 c97_27 rfl (Nat.le_of_ble_eq_true rfl) rfl rfl (Nat.le_of_ble_eq_true rfl)
theorem c97_30 : mcode 97 30 = some (.ireturn, 1, 0, 0, 0) := rfl
theorem r97_30 : Rn 97 (30, [x0, x1, x2, x3, x4, x5, x6, x7], [.int i], a, h) = some (some (.int i), a, h) := Rn_ireti c97_30
theorem c97_31 : mcode 97 31 = some (.aload 6, 2, 0, 0, 0) := rfl
theorem r97_31 : Rn 97 (31, [x0, x1, x2, x3, x4, x5, some (.ref q), x7], st, a, h) = Rn 97 (33, [x0, x1, x2, x3, x4, x5, some (.ref q), x7], .ref q :: st, a, h) := Rn_go c97_31 rfl
theorem r97_31n : Rn 97 (31, [x0, x1, x2, x3, x4, x5, some .null, x7], st, a, h) = Rn 97 (33, [x0, x1, x2, x3, x4, x5, some .null, x7], .null :: st, a, h) := Rn_go c97_31 rfl
theorem c97_33 : mcode 97 33 = some (.invokevirtual 231, 3, 1, 0, 0) := rfl
theorem r97_33 : Rn 97 (33, [x0, x1, x2, x3, x4, x5, x6, x7], [.ref q], a, h) = if mis h q 0 = true then Bk 97 36 [x0, x1, x2, x3, x4, x5, x6, x7] [] (Ec 1 [.ref q] a h) else none := Rn_call1 c97_33 rfl (Nat.le_of_ble_eq_true rfl) rfl rfl (Nat.le_of_ble_eq_true rfl)
theorem c97_36 : mcode 97 36 = some (.ifCond .ne 11, 3, 0, 0, 0) := rfl
theorem r97_36 : Rn 97 (36, [x0, x1, x2, x3, x4, x5, x6, x7], .int i :: st, a, h) = if i = 0 then Rn 97 (39, [x0, x1, x2, x3, x4, x5, x6, x7], st, a, h) else Rn 97 (47, [x0, x1, x2, x3, x4, x5, x6, x7], st, a, h) := Rn_ifcn c97_36 mc_ne rfl rfl
theorem c97_39 : mcode 97 39 = some (.aload 7, 2, 0, 0, 0) := rfl
theorem r97_39 : Rn 97 (39, [x0, x1, x2, x3, x4, x5, x6, some (.ref q)], st, a, h) = Rn 97 (41, [x0, x1, x2, x3, x4, x5, x6, some (.ref q)], .ref q :: st, a, h) := Rn_go c97_39 rfl
theorem r97_39n : Rn 97 (39, [x0, x1, x2, x3, x4, x5, x6, some .null], st, a, h) = Rn 97 (41, [x0, x1, x2, x3, x4, x5, x6, some .null], .null :: st, a, h) := Rn_go c97_39 rfl
theorem c97_41 : mcode 97 41 = some (.invokevirtual 231, 3, 1, 0, 0) := rfl
theorem r97_41 : Rn 97 (41, [x0, x1, x2, x3, x4, x5, x6, x7], [.ref q], a, h) = if mis h q 0 = true then Bk 97 44 [x0, x1, x2, x3, x4, x5, x6, x7] [] (Ec 1 [.ref q] a h) else none := Rn_call1 c97_41 rfl (Nat.le_of_ble_eq_true rfl) rfl rfl (Nat.le_of_ble_eq_true rfl)
theorem c97_44 : mcode 97 44 = some (.ifCond .eq 10, 3, 0, 0, 0) := rfl
theorem r97_44 : Rn 97 (44, [x0, x1, x2, x3, x4, x5, x6, x7], .int i :: st, a, h) = if i = 0 then Rn 97 (54, [x0, x1, x2, x3, x4, x5, x6, x7], st, a, h) else Rn 97 (47, [x0, x1, x2, x3, x4, x5, x6, x7], st, a, h) := Rn_ifc c97_44 mc_eq rfl rfl
theorem c97_47 : mcode 97 47 = some (.aload_n 0, 1, 0, 0, 0) := rfl
theorem r97_47 : Rn 97 (47, [some (.ref q), x1, x2, x3, x4, x5, x6, x7], st, a, h) = Rn 97 (48, [some (.ref q), x1, x2, x3, x4, x5, x6, x7], .ref q :: st, a, h) := Rn_go c97_47 rfl
theorem c97_48 : mcode 97 48 = some (.ldc 214, 2, 0, 0, -1000006) := rfl
theorem r97_48 : Rn 97 (48, [x0, x1, x2, x3, x4, x5, x6, x7], st, a, h) = Rn 97 (50, [x0, x1, x2, x3, x4, x5, x6, x7], .int (-1000006 : Int32) :: st, a, h) := Rn_go c97_48 rfl
theorem c97_50 : mcode 97 50 = some (.invokevirtual 61, 3, 105, 1, 5) := rfl
theorem r97_50 : Rn 97 (50, [x0, x1, x2, x3, x4, x5, x6, x7], [v0, .ref q], a, h) = if mis h q 5 = true then Bk 97 53 [x0, x1, x2, x3, x4, x5, x6, x7] [] (Ec 105 [.ref q, v0] a h) else none := Rn_call1 c97_50 rfl (Nat.le_of_ble_eq_true rfl) rfl rfl (Nat.le_of_ble_eq_true rfl)
theorem c97_53 : mcode 97 53 = some (.ireturn, 1, 0, 0, 0) := rfl
theorem r97_53 : Rn 97 (53, [x0, x1, x2, x3, x4, x5, x6, x7], [.int i], a, h) = some (some (.int i), a, h) := Rn_ireti c97_53
theorem c97_54 : mcode 97 54 = some (.aload 6, 2, 0, 0, 0) := rfl
theorem r97_54 : Rn 97 (54, [x0, x1, x2, x3, x4, x5, some (.ref q), x7], st, a, h) = Rn 97 (56, [x0, x1, x2, x3, x4, x5, some (.ref q), x7], .ref q :: st, a, h) := Rn_go c97_54 rfl
theorem r97_54n : Rn 97 (54, [x0, x1, x2, x3, x4, x5, some .null, x7], st, a, h) = Rn 97 (56, [x0, x1, x2, x3, x4, x5, some .null, x7], .null :: st, a, h) := Rn_go c97_54 rfl
theorem c97_56 : mcode 97 56 = some (.getfield 234, 3, 0, 1, 0) := rfl
theorem r97_56 : Rn 97 (56, [x0, x1, x2, x3, x4, x5, x6, x7], .ref q :: st, a, h) = Kv 97 59 [x0, x1, x2, x3, x4, x5, x6, x7] st a h (mgf h q 0 1) := Rn_getf c97_56 rfl
theorem c97_59 : mcode 97 59 = some (.aload 7, 2, 0, 0, 0) := rfl
theorem r97_59 : Rn 97 (59, [x0, x1, x2, x3, x4, x5, x6, some (.ref q)], st, a, h) = Rn 97 (61, [x0, x1, x2, x3, x4, x5, x6, some (.ref q)], .ref q :: st, a, h) := Rn_go c97_59 rfl
theorem r97_59n : Rn 97 (59, [x0, x1, x2, x3, x4, x5, x6, some .null], st, a, h) = Rn 97 (61, [x0, x1, x2, x3, x4, x5, x6, some .null], .null :: st, a, h) := Rn_go c97_59 rfl
theorem c97_61 : mcode 97 61 = some (.getfield 234, 3, 0, 1, 0) := rfl
theorem r97_61 : Rn 97 (61, [x0, x1, x2, x3, x4, x5, x6, x7], .ref q :: st, a, h) = Kv 97 64 [x0, x1, x2, x3, x4, x5, x6, x7] st a h (mgf h q 0 1) := Rn_getf c97_61 rfl
theorem c97_64 : mcode 97 64 = some (.if_icmp .eq 10, 3, 0, 0, 0) := rfl
theorem r97_64 : Rn 97 (64, [x0, x1, x2, x3, x4, x5, x6, x7], .int j :: .int i :: st, a, h) = if i = j then Rn 97 (74, [x0, x1, x2, x3, x4, x5, x6, x7], st, a, h) else Rn 97 (67, [x0, x1, x2, x3, x4, x5, x6, x7], st, a, h) := Rn_icmp c97_64 mc_eq rfl rfl
theorem c97_67 : mcode 97 67 = some (.aload_n 0, 1, 0, 0, 0) := rfl
theorem r97_67 : Rn 97 (67, [some (.ref q), x1, x2, x3, x4, x5, x6, x7], st, a, h) = Rn 97 (68, [some (.ref q), x1, x2, x3, x4, x5, x6, x7], .ref q :: st, a, h) := Rn_go c97_67 rfl
theorem c97_68 : mcode 97 68 = some (.ldc 219, 2, 0, 0, -1000003) := rfl
theorem r97_68 : Rn 97 (68, [x0, x1, x2, x3, x4, x5, x6, x7], st, a, h) = Rn 97 (70, [x0, x1, x2, x3, x4, x5, x6, x7], .int (-1000003 : Int32) :: st, a, h) := Rn_go c97_68 rfl
theorem c97_70 : mcode 97 70 = some (.invokevirtual 61, 3, 105, 1, 5) := rfl
theorem r97_70 : Rn 97 (70, [x0, x1, x2, x3, x4, x5, x6, x7], [v0, .ref q], a, h) = if mis h q 5 = true then Bk 97 73 [x0, x1, x2, x3, x4, x5, x6, x7] [] (Ec 105 [.ref q, v0] a h) else none := Rn_call1 c97_70 rfl (Nat.le_of_ble_eq_true rfl) rfl rfl (Nat.le_of_ble_eq_true rfl)
theorem c97_73 : mcode 97 73 = some (.ireturn, 1, 0, 0, 0) := rfl
theorem r97_73 : Rn 97 (73, [x0, x1, x2, x3, x4, x5, x6, x7], [.int i], a, h) = some (some (.int i), a, h) := Rn_ireti c97_73
theorem c97_74 : mcode 97 74 = some (.aload 6, 2, 0, 0, 0) := rfl
theorem r97_74 : Rn 97 (74, [x0, x1, x2, x3, x4, x5, some (.ref q), x7], st, a, h) = Rn 97 (76, [x0, x1, x2, x3, x4, x5, some (.ref q), x7], .ref q :: st, a, h) := Rn_go c97_74 rfl
theorem r97_74n : Rn 97 (74, [x0, x1, x2, x3, x4, x5, some .null, x7], st, a, h) = Rn 97 (76, [x0, x1, x2, x3, x4, x5, some .null, x7], .null :: st, a, h) := Rn_go c97_74 rfl
theorem c97_76 : mcode 97 76 = some (.iload_n 2, 1, 0, 0, 0) := rfl
theorem r97_76 : Rn 97 (76, [x0, x1, some (.int i), x3, x4, x5, x6, x7], st, a, h) = Rn 97 (77, [x0, x1, some (.int i), x3, x4, x5, x6, x7], .int i :: st, a, h) := Rn_go c97_76 rfl
theorem c97_77 : mcode 97 77 = some (.iload 5, 2, 0, 0, 0) := rfl
theorem r97_77 : Rn 97 (77, [x0, x1, x2, x3, x4, some (.int i), x6, x7], st, a, h) = Rn 97 (79, [x0, x1, x2, x3, x4, some (.int i), x6, x7], .int i :: st, a, h) := Rn_go c97_77 rfl
theorem c97_79 : mcode 97 79 = some (.invokevirtual 237, 3, 4, 2, 0) := rfl
theorem r97_79 : Rn 97 (79, [x0, x1, x2, x3, x4, x5, x6, x7], [v1, v0, .ref q], a, h) = if mis h q 0 = true then Bk 97 82 [x0, x1, x2, x3, x4, x5, x6, x7] [] (Ec 4 [.ref q, v0, v1] a h) else none := Rn_call1 c97_79 rfl (Nat.le_of_ble_eq_true rfl) rfl rfl (Nat.le_of_ble_eq_true rfl)
theorem c97_82 : mcode 97 82 = some (.ifCond .eq 15, 3, 0, 0, 0) := rfl
theorem r97_82 : Rn 97 (82, [x0, x1, x2, x3, x4, x5, x6, x7], .int i :: st, a, h) = if i = 0 then Rn 97 (97, [x0, x1, x2, x3, x4, x5, x6, x7], st, a, h) else Rn 97 (85, [x0, x1, x2, x3, x4, x5, x6, x7], st, a, h) := Rn_ifc c97_82 mc_eq rfl rfl
theorem c97_85 : mcode 97 85 = some (.aload 7, 2, 0, 0, 0) := rfl
theorem r97_85 : Rn 97 (85, [x0, x1, x2, x3, x4, x5, x6, some (.ref q)], st, a, h) = Rn 97 (87, [x0, x1, x2, x3, x4, x5, x6, some (.ref q)], .ref q :: st, a, h) := Rn_go c97_85 rfl
theorem r97_85n : Rn 97 (85, [x0, x1, x2, x3, x4, x5, x6, some .null], st, a, h) = Rn 97 (87, [x0, x1, x2, x3, x4, x5, x6, some .null], .null :: st, a, h) := Rn_go c97_85 rfl
theorem c97_87 : mcode 97 87 = some (.iload 4, 2, 0, 0, 0) := rfl
theorem r97_87 : Rn 97 (87, [x0, x1, x2, x3, some (.int i), x5, x6, x7], st, a, h) = Rn 97 (89, [x0, x1, x2, x3, some (.int i), x5, x6, x7], .int i :: st, a, h) := Rn_go c97_87 rfl
theorem c97_89 : mcode 97 89 = some (.iload 5, 2, 0, 0, 0) := rfl
theorem r97_89 : Rn 97 (89, [x0, x1, x2, x3, x4, some (.int i), x6, x7], st, a, h) = Rn 97 (91, [x0, x1, x2, x3, x4, some (.int i), x6, x7], .int i :: st, a, h) := Rn_go c97_89 rfl
theorem c97_91 : mcode 97 91 = some (.invokevirtual 237, 3, 4, 2, 0) := rfl
theorem r97_91 : Rn 97 (91, [x0, x1, x2, x3, x4, x5, x6, x7], [v1, v0, .ref q], a, h) = if mis h q 0 = true then Bk 97 94 [x0, x1, x2, x3, x4, x5, x6, x7] [] (Ec 4 [.ref q, v0, v1] a h) else none := Rn_call1 c97_91 rfl (Nat.le_of_ble_eq_true rfl) rfl rfl (Nat.le_of_ble_eq_true rfl)
theorem c97_94 : mcode 97 94 = some (.ifCond .ne 10, 3, 0, 0, 0) := rfl
theorem r97_94 : Rn 97 (94, [x0, x1, x2, x3, x4, x5, x6, x7], .int i :: st, a, h) = if i = 0 then Rn 97 (97, [x0, x1, x2, x3, x4, x5, x6, x7], st, a, h) else Rn 97 (104, [x0, x1, x2, x3, x4, x5, x6, x7], st, a, h) := Rn_ifcn c97_94 mc_ne rfl rfl
theorem c97_97 : mcode 97 97 = some (.aload_n 0, 1, 0, 0, 0) := rfl
theorem r97_97 : Rn 97 (97, [some (.ref q), x1, x2, x3, x4, x5, x6, x7], st, a, h) = Rn 97 (98, [some (.ref q), x1, x2, x3, x4, x5, x6, x7], .ref q :: st, a, h) := Rn_go c97_97 rfl
theorem c97_98 : mcode 97 98 = some (.ldc 60, 2, 0, 0, -1000001) := rfl
theorem r97_98 : Rn 97 (98, [x0, x1, x2, x3, x4, x5, x6, x7], st, a, h) = Rn 97 (100, [x0, x1, x2, x3, x4, x5, x6, x7], .int (-1000001 : Int32) :: st, a, h) := Rn_go c97_98 rfl
theorem c97_100 : mcode 97 100 = some (.invokevirtual 61, 3, 105, 1, 5) := rfl
theorem r97_100 : Rn 97 (100, [x0, x1, x2, x3, x4, x5, x6, x7], [v0, .ref q], a, h) = if mis h q 5 = true then Bk 97 103 [x0, x1, x2, x3, x4, x5, x6, x7] [] (Ec 105 [.ref q, v0] a h) else none := Rn_call1 c97_100 rfl (Nat.le_of_ble_eq_true rfl) rfl rfl (Nat.le_of_ble_eq_true rfl)
theorem c97_103 : mcode 97 103 = some (.ireturn, 1, 0, 0, 0) := rfl
theorem r97_103 : Rn 97 (103, [x0, x1, x2, x3, x4, x5, x6, x7], [.int i], a, h) = some (some (.int i), a, h) := Rn_ireti c97_103
theorem c97_104 : mcode 97 104 = some (.aload 6, 2, 0, 0, 0) := rfl
theorem r97_104 : Rn 97 (104, [x0, x1, x2, x3, x4, x5, some (.ref q), x7], st, a, h) = Rn 97 (106, [x0, x1, x2, x3, x4, x5, some (.ref q), x7], .ref q :: st, a, h) := Rn_go c97_104 rfl
theorem r97_104n : Rn 97 (104, [x0, x1, x2, x3, x4, x5, some .null, x7], st, a, h) = Rn 97 (106, [x0, x1, x2, x3, x4, x5, some .null, x7], .null :: st, a, h) := Rn_go c97_104 rfl
theorem c97_106 : mcode 97 106 = some (.getfield 240, 3, 0, 0, 0) := rfl
theorem r97_106 : Rn 97 (106, [x0, x1, x2, x3, x4, x5, x6, x7], .ref q :: st, a, h) = Kv 97 109 [x0, x1, x2, x3, x4, x5, x6, x7] st a h (mgf h q 0 0) := Rn_getf c97_106 rfl
theorem c97_109 : mcode 97 109 = some (.iload_n 2, 1, 0, 0, 0) := rfl
theorem r97_109 : Rn 97 (109, [x0, x1, some (.int i), x3, x4, x5, x6, x7], st, a, h) = Rn 97 (110, [x0, x1, some (.int i), x3, x4, x5, x6, x7], .int i :: st, a, h) := Rn_go c97_109 rfl
theorem c97_110 : mcode 97 110 = some (.aload 7, 2, 0, 0, 0) := rfl
theorem r97_110 : Rn 97 (110, [x0, x1, x2, x3, x4, x5, x6, some (.ref q)], st, a, h) = Rn 97 (112, [x0, x1, x2, x3, x4, x5, x6, some (.ref q)], .ref q :: st, a, h) := Rn_go c97_110 rfl
theorem r97_110n : Rn 97 (110, [x0, x1, x2, x3, x4, x5, x6, some .null], st, a, h) = Rn 97 (112, [x0, x1, x2, x3, x4, x5, x6, some .null], .null :: st, a, h) := Rn_go c97_110 rfl
theorem c97_112 : mcode 97 112 = some (.getfield 240, 3, 0, 0, 0) := rfl
theorem r97_112 : Rn 97 (112, [x0, x1, x2, x3, x4, x5, x6, x7], .ref q :: st, a, h) = Kv 97 115 [x0, x1, x2, x3, x4, x5, x6, x7] st a h (mgf h q 0 0) := Rn_getf c97_112 rfl
theorem c97_115 : mcode 97 115 = some (.iload 4, 2, 0, 0, 0) := rfl
theorem r97_115 : Rn 97 (115, [x0, x1, x2, x3, some (.int i), x5, x6, x7], st, a, h) = Rn 97 (117, [x0, x1, x2, x3, some (.int i), x5, x6, x7], .int i :: st, a, h) := Rn_go c97_115 rfl
theorem c97_117 : mcode 97 117 = some (.iload 5, 2, 0, 0, 0) := rfl
theorem r97_117 : Rn 97 (117, [x0, x1, x2, x3, x4, some (.int i), x6, x7], st, a, h) = Rn 97 (119, [x0, x1, x2, x3, x4, some (.int i), x6, x7], .int i :: st, a, h) := Rn_go c97_117 rfl
theorem c97_119 : mcode 97 119 = some (.invokestatic 243, 3, 9998, 0, 0) := rfl
theorem r97_119 : Rn 97 (119, [x0, x1, x2, x3, x4, x5, x6, x7], [.int i, .int j, .ref p, .int k, .ref q], a, h) = Kh 97 122 [x0, x1, x2, x3, x4, x5, x6, x7] [] a (mcp h q k p j i) := Rn_copy c97_119 rfl (Nat.le_of_ble_eq_true rfl)
theorem c97_122 : mcode 97 122 = some (.iload 5, 2, 0, 0, 0) := rfl
theorem r97_122 : Rn 97 (122, [x0, x1, x2, x3, x4, some (.int i), x6, x7], st, a, h) = Rn 97 (124, [x0, x1, x2, x3, x4, some (.int i), x6, x7], .int i :: st, a, h) := Rn_go c97_122 rfl
theorem c97_124 : mcode 97 124 = some (.ireturn, 1, 0, 0, 0) := rfl
theorem r97_124 : Rn 97 (124, [x0, x1, x2, x3, x4, x5, x6, x7], [.int i], a, h) = some (some (.int i), a, h) := Rn_ireti c97_124
theorem c98_0 : mcode 98 0 = some (.aload_n 0, 1, 0, 0, 0) := rfl
theorem r98_0 : Rn 98 (0, [some (.ref q), x1, x2, x3, x4, x5], st, a, h) = Rn 98 (1, [some (.ref q), x1, x2, x3, x4, x5], .ref q :: st, a, h) := Rn_go c98_0 rfl
theorem c98_1 : mcode 98 1 = some (.iload_n 1, 1, 0, 0, 0) := rfl
theorem r98_1 : Rn 98 (1, [x0, some (.int i), x2, x3, x4, x5], st, a, h) = Rn 98 (2, [x0, some (.int i), x2, x3, x4, x5], .int i :: st, a, h) := Rn_go c98_1 rfl
theorem c98_2 : mcode 98 2 = some (.invokevirtual 172, 3, 118, 1, 5) := rfl
theorem r98_2 : Rn 98 (2, [x0, x1, x2, x3, x4, x5], [v0, .ref q], a, h) = if mis h q 5 = true then Bk 98 5 [x0, x1, x2, x3, x4, x5] [] (Ec 118 [.ref q, v0] a h) else none := Rn_call1 c98_2 rfl (Nat.le_of_ble_eq_true rfl) rfl rfl (Nat.le_of_ble_eq_true rfl)
theorem c98_5 : mcode 98 5 = some (.istore_n 2, 1, 0, 0, 0) := rfl
theorem r98_5 : Rn 98 (5, [x0, x1, x2, x3, x4, x5], .int i :: st, a, h) = Nl x1 (Rn 98 (6, [x0, x1, some (.int i), x3, x4, x5], st, a, h)) := Rn_st1 (k := 2) (v := .int i) x1 c98_5 rfl rfl rfl rfl
theorem c98_6 : mcode 98 6 = some (.iload_n 2, 1, 0, 0, 0) := rfl
theorem r98_6 : Rn 98 (6, [x0, x1, some (.int i), x3, x4, x5], st, a, h) = Rn 98 (7, [x0, x1, some (.int i), x3, x4, x5], .int i :: st, a, h) := Rn_go c98_6 rfl
theorem c98_7 : mcode 98 7 = some (.ifCond .eq 9, 3, 0, 0, 0) := rfl
theorem r98_7 : Rn 98 (7, [x0, x1, x2, x3, x4, x5], .int i :: st, a, h) = if i = 0 then Rn 98 (16, [x0, x1, x2, x3, x4, x5], st, a, h) else Rn 98 (10, [x0, x1, x2, x3, x4, x5], st, a, h) := Rn_ifc c98_7 mc_eq rfl rfl
theorem c98_10 : mcode 98 10 = some (.aload_n 0, 1, 0, 0, 0) := rfl
theorem r98_10 : Rn 98 (10, [some (.ref q), x1, x2, x3, x4, x5], st, a, h) = Rn 98 (11, [some (.ref q), x1, x2, x3, x4, x5], .ref q :: st, a, h) := Rn_go c98_10 rfl
theorem c98_11 : mcode 98 11 = some (.iload_n 2, 1, 0, 0, 0) := rfl
theorem r98_11 : Rn 98 (11, [x0, x1, some (.int i), x3, x4, x5], st, a, h) = Rn 98 (12, [x0, x1, some (.int i), x3, x4, x5], .int i :: st, a, h) := Rn_go c98_11 rfl
theorem c98_12 : mcode 98 12 = some (.invokevirtual 61, 3, 105, 1, 5) := rfl
theorem r98_12 : Rn 98 (12, [x0, x1, x2, x3, x4, x5], [v0, .ref q], a, h) = if mis h q 5 = true then Bk 98 15 [x0, x1, x2, x3, x4, x5] [] (Ec 105 [.ref q, v0] a h) else none := Rn_call1 c98_12 rfl (Nat.le_of_ble_eq_true rfl) rfl rfl (Nat.le_of_ble_eq_true rfl)
theorem c98_15 : mcode 98 15 = some (.ireturn, 1, 0, 0, 0) := rfl
theorem r98_15 : Rn 98 (15, [x0, x1, x2, x3, x4, x5], [.int i], a, h) = some (some (.int i), a, h) := Rn_ireti c98_15
theorem c98_16 : mcode 98 16 = some (.aload_n 0, 1, 0, 0, 0) := rfl
theorem r98_16 : Rn 98 (16, [some (.ref q), x1, x2, x3, x4, x5], st, a, h) = Rn 98 (17, [some (.ref q), x1, x2, x3, x4, x5], .ref q :: st, a, h) := Rn_go c98_16 rfl
theorem c98_17 : mcode 98 17 = some (.iload_n 1, 1, 0, 0, 0) := rfl
theorem r98_17 : Rn 98 (17, [x0, some (.int i), x2, x3, x4, x5], st, a, h) = Rn 98 (18, [x0, some (.int i), x2, x3, x4, x5], .int i :: st, a, h) := Rn_go c98_17 rfl
theorem c98_18 : mcode 98 18 = some (.invokevirtual 164, 3, 117, 1, 5) := rfl
theorem r98_18 : Rn 98 (18, [x0, x1, x2, x3, x4, x5], [v0, .ref q], a, h) = if mis h q 5 = true then Bk 98 21 [x0, x1, x2, x3, x4, x5] [] (Ec 117 [.ref q, v0] a h) else none := Rn_call1 c98_18 rfl (Nat.le_of_ble_eq_true rfl) rfl rfl (Nat.le_of_ble_eq_true rfl)
theorem c98_21 : mcode 98 21 = some (.astore_n 3, 1, 0, 0, 0) := rfl
theorem r98_21 : Rn 98 (21, [x0, x1, x2, x3, x4, x5], .ref q :: st, a, h) = Nl x2 (Rn 98 (22, [x0, x1, x2, some (.ref q), x4, x5], st, a, h)) := Rn_st1 (k := 3) (v := .ref q) x2 c98_21 rfl rfl rfl rfl
theorem r98_21n : Rn 98 (21, [x0, x1, x2, x3, x4, x5], .null :: st, a, h) = Nl x2 (Rn 98 (22, [x0, x1, x2, some (.null), x4, x5], st, a, h)) := Rn_st1 (k := 3) (v := .null) x2 c98_21 rfl rfl rfl rfl
theorem c98_22 : mcode 98 22 = some (.iconst 0, 1, 0, 0, 0) := rfl
theorem r98_22 : Rn 98 (22, [x0, x1, x2, x3, x4, x5], st, a, h) = Rn 98 (23, [x0, x1, x2, x3, x4, x5], .int (0 : Int32) :: st, a, h) := Rn_go c98_22 rfl
theorem c98_23 : mcode 98 23 = some (.istore 4, 2, 0, 0, 0) := rfl
theorem r98_23 : Rn 98 (23, [x0, x1, x2, x3, x4, x5], .int i :: st, a, h) = Nl x3 (Rn 98 (25, [x0, x1, x2, x3, some (.int i), x5], st, a, h)) := Rn_st1 (k := 4) (v := .int i) x3 c98_23 rfl rfl rfl rfl
theorem c98_25 : mcode 98 25 = some (.iconst 0, 1, 0, 0, 0) := rfl
theorem r98_25 : Rn 98 (25, [x0, x1, x2, x3, x4, x5], st, a, h) = Rn 98 (26, [x0, x1, x2, x3, x4, x5], .int (0 : Int32) :: st, a, h) := Rn_go c98_25 rfl
theorem c98_26 : mcode 98 26 = some (.istore 5, 2, 0, 0, 0) := rfl
theorem r98_26 : Rn 98 (26, [x0, x1, x2, x3, x4, x5], .int i :: st, a, h) = Nl x4 (Rn 98 (28, [x0, x1, x2, x3, x4, some (.int i)], st, a, h)) := Rn_st1 (k := 5) (v := .int i) x4 c98_26 rfl rfl rfl rfl
theorem c98_28 : mcode 98 28 = some (.aload_n 3, 1, 0, 0, 0) := rfl
theorem r98_28 : Rn 98 (28, [x0, x1, x2, some (.ref q), x4, x5], st, a, h) = Rn 98 (29, [x0, x1, x2, some (.ref q), x4, x5], .ref q :: st, a, h) := Rn_go c98_28 rfl
theorem r98_28n : Rn 98 (28, [x0, x1, x2, some .null, x4, x5], st, a, h) = Rn 98 (29, [x0, x1, x2, some .null, x4, x5], .null :: st, a, h) := Rn_go c98_28 rfl
theorem c98_29 : mcode 98 29 = some (.ifnull 68, 3, 0, 0, 0) := rfl
theorem r98_29n : Rn 98 (29, [x0, x1, x2, x3, x4, x5], .null :: st, a, h) = Rn 98 (97, [x0, x1, x2, x3, x4, x5], st, a, h) := Rn_go c98_29 rfl
theorem r98_29 : Rn 98 (29, [x0, x1, x2, x3, x4, x5], .ref q :: st, a, h) = Rn 98 (32, [x0, x1, x2, x3, x4, x5], st, a, h) := Rn_go c98_29 rfl
theorem c98_32 : mcode 98 32 = some (.iload 5, 2, 0, 0, 0) := rfl
theorem r98_32 : Rn 98 (32, [x0, x1, x2, x3, x4, some (.int i)], st, a, h) = Rn 98 (34, [x0, x1, x2, x3, x4, some (.int i)], .int i :: st, a, h) := Rn_go c98_32 rfl
theorem c98_34 : mcode 98 34 = some (.aload_n 3, 1, 0, 0, 0) := rfl
theorem r98_34 : Rn 98 (34, [x0, x1, x2, some (.ref q), x4, x5], st, a, h) = Rn 98 (35, [x0, x1, x2, some (.ref q), x4, x5], .ref q :: st, a, h) := Rn_go c98_34 rfl
theorem r98_34n : Rn 98 (34, [x0, x1, x2, some .null, x4, x5], st, a, h) = Rn 98 (35, [x0, x1, x2, some .null, x4, x5], .null :: st, a, h) := Rn_go c98_34 rfl
theorem c98_35 : mcode 98 35 = some (.getfield 224, 3, 0, 2, 0) := rfl
theorem r98_35 : Rn 98 (35, [x0, x1, x2, x3, x4, x5], .ref q :: st, a, h) = Kv 98 38 [x0, x1, x2, x3, x4, x5] st a h (mgf h q 0 2) := Rn_getf c98_35 rfl
theorem c98_38 : mcode 98 38 = some (.if_icmp .ge 59, 3, 0, 0, 0) := rfl
theorem r98_38 : Rn 98 (38, [x0, x1, x2, x3, x4, x5], .int j :: .int i :: st, a, h) = if i < j then Rn 98 (41, [x0, x1, x2, x3, x4, x5], st, a, h) else Rn 98 (97, [x0, x1, x2, x3, x4, x5], st, a, h) := Rn_icmpn c98_38 mc_ge rfl rfl
theorem c98_41 : mcode 98 41 = some (.aload_n 0, 1, 0, 0, 0) := rfl
theorem r98_41 : Rn 98 (41, [some (.ref q), x1, x2, x3, x4, x5], st, a, h) = Rn 98 (42, [some (.ref q), x1, x2, x3, x4, x5], .ref q :: st, a, h) := Rn_go c98_41 rfl
theorem c98_42 : mcode 98 42 = some (.getfield 12, 3, 5, 0, 0) := rfl
theorem r98_42 : Rn 98 (42, [x0, x1, x2, x3, x4, x5], .ref q :: st, a, h) = Kv 98 45 [x0, x1, x2, x3, x4, x5] st a h (mgf h q 5 0) := Rn_getf c98_42 rfl
theorem c98_45 : mcode 98 45 = some (.iload 5, 2, 0, 0, 0) := rfl
theorem r98_45 : Rn 98 (45, [x0, x1, x2, x3, x4, some (.int i)], st, a, h) = Rn 98 (47, [x0, x1, x2, x3, x4, some (.int i)], .int i :: st, a, h) := Rn_go c98_45 rfl
theorem c98_47 : mcode 98 47 = some (.invokevirtual 109, 3, 36, 1, 4) := rfl
theorem r98_47 : Rn 98 (47, [x0, x1, x2, x3, x4, x5], [v0, .ref q], a, h) = if mis h q 4 = true then Bk 98 50 [x0, x1, x2, x3, x4, x5] [] (Ec 36 [.ref q, v0] a h) else none := Rn_call1 c98_47 rfl (Nat.le_of_ble_eq_true rfl) rfl rfl (Nat.le_of_ble_eq_true rfl)
theorem c98_50 : mcode 98 50 = some (.ifCond .eq 47, 3, 0, 0, 0) := rfl
theorem r98_50 : Rn 98 (50, [x0, x1, x2, x3, x4, x5], .int i :: st, a, h) = if i = 0 then Rn 98 (97, [x0, x1, x2, x3, x4, x5], st, a, h) else Rn 98 (53, [x0, x1, x2, x3, x4, x5], st, a, h) := Rn_ifc c98_50 mc_eq rfl rfl
theorem c98_53 : mcode 98 53 = some (.aload_n 3, 1, 0, 0, 0) := rfl
theorem r98_53 : Rn 98 (53, [x0, x1, x2, some (.ref q), x4, x5], st, a, h) = Rn 98 (54, [x0, x1, x2, some (.ref q), x4, x5], .ref q :: st, a, h) := Rn_go c98_53 rfl
theorem r98_53n : Rn 98 (53, [x0, x1, x2, some .null, x4, x5], st, a, h) = Rn 98 (54, [x0, x1, x2, some .null, x4, x5], .null :: st, a, h) := Rn_go c98_53 rfl
theorem c98_54 : mcode 98 54 = some (.iload 5, 2, 0, 0, 0) := rfl
theorem r98_54 : Rn 98 (54, [x0, x1, x2, x3, x4, some (.int i)], st, a, h) = Rn 98 (56, [x0, x1, x2, x3, x4, some (.int i)], .int i :: st, a, h) := Rn_go c98_54 rfl
theorem c98_56 : mcode 98 56 = some (.invokevirtual 249, 3, 5, 1, 0) := rfl
theorem r98_56 : Rn 98 (56, [x0, x1, x2, x3, x4, x5], [v0, .ref q], a, h) = if mis h q 0 = true then Bk 98 59 [x0, x1, x2, x3, x4, x5] [] (Ec 5 [.ref q, v0] a h) else none := Rn_call1 c98_56 rfl (Nat.le_of_ble_eq_true rfl) rfl rfl (Nat.le_of_ble_eq_true rfl)
theorem c98_59 : mcode 98 59 = some (.iconst 0, 1, 0, 0, 0) := rfl
theorem r98_59 : Rn 98 (59, [x0, x1, x2, x3, x4, x5], st, a, h) = Rn 98 (60, [x0, x1, x2, x3, x4, x5], .int (0 : Int32) :: st, a, h) := Rn_go c98_59 rfl
theorem c98_60 : mcode 98 60 = some (.sipush 999, 3, 0, 0, 0) := rfl
theorem r98_60 : Rn 98 (60, [x0, x1, x2, x3, x4, x5], st, a, h) = Rn 98 (63, [x0, x1, x2, x3, x4, x5], .int (999 : Int32) :: st, a, h) := Rn_go c98_60 rfl
theorem c98_63 : mcode 98 63 = some (.invokestatic 56, 3, 106, 3, 0) := rfl
theorem r98_63 : Rn 98 (63, [x0, x1, x2, x3, x4, x5], [v2, v1, v0], a, h) = Bk 98 66 [x0, x1, x2, x3, x4, x5] [] (Ec 106 [v0, v1, v2] a h) := Rn_call0 c98_63 (fun z => nomatch z) rfl (Nat.le_of_ble_eq_true rfl) rfl rfl (Nat.le_of_ble_eq_true rfl)
theorem c98_66 : mcode 98 66 = some (.ifCond .ne 6, 3, 0, 0, 0) := rfl
theorem r98_66 : Rn 98 (66, [x0, x1, x2, x3, x4, x5], .int i :: st, a, h) = if i = 0 then Rn 98 (69, [x0, x1, x2, x3, x4, x5], st, a, h) else Rn 98 (72, [x0, x1, x2, x3, x4, x5], st, a, h) := Rn_ifcn c98_66 mc_ne rfl rfl
theorem c98_69 : mcode 98 69 = some (.goto 28, 3, 0, 0, 0) := rfl
theorem r98_69 : Rn 98 (69, [x0, x1, x2, x3, x4, x5], st, a, h) = Rn 98 (97, [x0, x1, x2, x3, x4, x5], st, a, h) := Rn_goto c98_69 rfl
theorem c98_72 : mcode 98 72 = some (.aload_n 0, 1, 0, 0, 0) := rfl
theorem r98_72 : Rn 98 (72, [some (.ref q), x1, x2, x3, x4, x5], st, a, h) = Rn 98 (73, [some (.ref q), x1, x2, x3, x4, x5], .ref q :: st, a, h) := Rn_go c98_72 rfl
theorem c98_73 : mcode 98 73 = some (.getfield 12, 3, 5, 0, 0) := rfl
theorem r98_73 : Rn 98 (73, [x0, x1, x2, x3, x4, x5], .ref q :: st, a, h) = Kv 98 76 [x0, x1, x2, x3, x4, x5] st a h (mgf h q 5 0) := Rn_getf c98_73 rfl
theorem c98_76 : mcode 98 76 = some (.iload 5, 2, 0, 0, 0) := rfl
theorem r98_76 : Rn 98 (76, [x0, x1, x2, x3, x4, some (.int i)], st, a, h) = Rn 98 (78, [x0, x1, x2, x3, x4, some (.int i)], .int i :: st, a, h) := Rn_go c98_76 rfl
theorem c98_78 : mcode 98 78 = some (.iconst 3, 1, 0, 0, 0) := rfl
theorem r98_78 : Rn 98 (78, [x0, x1, x2, x3, x4, x5], st, a, h) = Rn 98 (79, [x0, x1, x2, x3, x4, x5], .int (3 : Int32) :: st, a, h) := Rn_go c98_78 rfl
theorem c98_79 : mcode 98 79 = some (.aload_n 3, 1, 0, 0, 0) := rfl
theorem r98_79 : Rn 98 (79, [x0, x1, x2, some (.ref q), x4, x5], st, a, h) = Rn 98 (80, [x0, x1, x2, some (.ref q), x4, x5], .ref q :: st, a, h) := Rn_go c98_79 rfl
theorem r98_79n : Rn 98 (79, [x0, x1, x2, some .null, x4, x5], st, a, h) = Rn 98 (80, [x0, x1, x2, some .null, x4, x5], .null :: st, a, h) := Rn_go c98_79 rfl
theorem c98_80 : mcode 98 80 = some (.iload 5, 2, 0, 0, 0) := rfl
theorem r98_80 : Rn 98 (80, [x0, x1, x2, x3, x4, some (.int i)], st, a, h) = Rn 98 (82, [x0, x1, x2, x3, x4, some (.int i)], .int i :: st, a, h) := Rn_go c98_80 rfl
theorem c98_82 : mcode 98 82 = some (.invokevirtual 249, 3, 5, 1, 0) := rfl
theorem r98_82 : Rn 98 (82, [x0, x1, x2, x3, x4, x5], [v0, .ref q, .int i0, .int i1, .ref q2], a, h) = if mis h q 0 = true then Bk 98 85 [x0, x1, x2, x3, x4, x5] [.int i0, .int i1, .ref q2] (Ec 5 [.ref q, v0] a h) else none := Rn_call1 c98_82 rfl (Nat.le_of_ble_eq_true rfl) rfl rfl (Nat.le_of_ble_eq_true rfl)
theorem c98_85 : mcode 98 85 = some (.invokevirtual 118, 3, 40, 3, 4) := rfl
theorem r98_85 : Rn 98 (85, [x0, x1, x2, x3, x4, x5], [v2, v1, v0, .ref q], a, h) = if mis h q 4 = true then Bk 98 88 [x0, x1, x2, x3, x4, x5] [] (Ec 40 [.ref q, v0, v1, v2] a h) else none := Rn_call1 c98_85 rfl (Nat.le_of_ble_eq_true rfl) rfl rfl (Nat.le_of_ble_eq_true rfl)
theorem c98_88 : mcode 98 88 = some (.iinc 4 1, 3, 0, 0, 0) := rfl
theorem r98_88 : Rn 98 (88, [x0, x1, x2, x3, some (.int i), x5], st, a, h) = Nl x3 (Rn 98 (91, [x0, x1, x2, x3, some (.int (i + (1 : Int32))), x5], st, a, h)) := Rn_st1 (k := 4) (v := .int (i + (1 : Int32))) x3 c98_88 rfl rfl rfl rfl
theorem c98_91 : mcode 98 91 = some (.iinc 5 1, 3, 0, 0, 0) := rfl
theorem r98_91 : Rn 98 (91, [x0, x1, x2, x3, x4, some (.int i)], st, a, h) = Nl x4 (Rn 98 (94, [x0, x1, x2, x3, x4, some (.int (i + (1 : Int32)))], st, a, h)) := Rn_st1 (k := 5) (v := .int (i + (1 : Int32))) x4 c98_91 rfl rfl rfl rfl
theorem c98_94 : mcode 98 94 = some (.goto (-66), 3, 0, 0, 0) := rfl
theorem r98_94 : Rn 98 (94, [x0, x1, x2, x3, x4, x5], st, a, h) = Rn 98 (28, [x0, x1, x2, x3, x4, x5], st, a, h) := Rn_goto c98_94 rfl
theorem c98_97 : mcode 98 97 = some (.iload 4, 2, 0, 0, 0) := rfl
theorem r98_97 : Rn 98 (97, [x0, x1, x2, x3, some (.int i), x5], st, a, h) = Rn 98 (99, [x0, x1, x2, x3, some (.int i), x5], .int i :: st, a, h) := Rn_go c98_97 rfl
theorem c98_99 : mcode 98 99 = some (.ireturn, 1, 0, 0, 0) := rfl
theorem r98_99 : Rn 98 (99, [x0, x1, x2, x3, x4, x5], [.int i], a, h) = some (some (.int i), a, h) := Rn_ireti c98_99
theorem c99_0 : mcode 99 0 = some (.aload_n 0, 1, 0, 0, 0) := rfl
theorem r99_0 : Rn 99 (0, [some (.ref q), x1, x2, x3, x4], st, a, h) = Rn 99 (1, [some (.ref q), x1, x2, x3, x4], .ref q :: st, a, h) := Rn_go c99_0 rfl
theorem c99_1 : mcode 99 1 = some (.iload_n 1, 1, 0, 0, 0) := rfl
theorem r99_1 : Rn 99 (1, [x0, some (.int i), x2, x3, x4], st, a, h) = Rn 99 (2, [x0, some (.int i), x2, x3, x4], .int i :: st, a, h) := Rn_go c99_1 rfl
theorem c99_2 : mcode 99 2 = some (.invokevirtual 172, 3, 118, 1, 5) := rfl
theorem r99_2 : Rn 99 (2, [x0, x1, x2, x3, x4], [v0, .ref q], a, h) = if mis h q 5 = true then Bk 99 5 [x0, x1, x2, x3, x4] [] (Ec 118 [.ref q, v0] a h) else none := Rn_call1 c99_2 rfl (Nat.le_of_ble_eq_true rfl) rfl rfl (Nat.le_of_ble_eq_true rfl)
theorem c99_5 : mcode 99 5 = some (.istore_n 2, 1, 0, 0, 0) := rfl
theorem r99_5 : Rn 99 (5, [x0, x1, x2, x3, x4], .int i :: st, a, h) = Nl x1 (Rn 99 (6, [x0, x1, some (.int i), x3, x4], st, a, h)) := Rn_st1 (k := 2) (v := .int i) x1 c99_5 rfl rfl rfl rfl
theorem c99_6 : mcode 99 6 = some (.iload_n 2, 1, 0, 0, 0) := rfl
theorem r99_6 : Rn 99 (6, [x0, x1, some (.int i), x3, x4], st, a, h) = Rn 99 (7, [x0, x1, some (.int i), x3, x4], .int i :: st, a, h) := Rn_go c99_6 rfl
theorem c99_7 : mcode 99 7 = some (.ifCond .eq 9, 3, 0, 0, 0) := rfl
theorem r99_7 : Rn 99 (7, [x0, x1, x2, x3, x4], .int i :: st, a, h) = if i = 0 then Rn 99 (16, [x0, x1, x2, x3, x4], st, a, h) else Rn 99 (10, [x0, x1, x2, x3, x4], st, a, h) := Rn_ifc c99_7 mc_eq rfl rfl
theorem c99_10 : mcode 99 10 = some (.aload_n 0, 1, 0, 0, 0) := rfl
theorem r99_10 : Rn 99 (10, [some (.ref q), x1, x2, x3, x4], st, a, h) = Rn 99 (11, [some (.ref q), x1, x2, x3, x4], .ref q :: st, a, h) := Rn_go c99_10 rfl
theorem c99_11 : mcode 99 11 = some (.iload_n 2, 1, 0, 0, 0) := rfl
theorem r99_11 : Rn 99 (11, [x0, x1, some (.int i), x3, x4], st, a, h) = Rn 99 (12, [x0, x1, some (.int i), x3, x4], .int i :: st, a, h) := Rn_go c99_11 rfl
theorem c99_12 : mcode 99 12 = some (.invokevirtual 61, 3, 105, 1, 5) := rfl
theorem r99_12 : Rn 99 (12, [x0, x1, x2, x3, x4], [v0, .ref q], a, h) = if mis h q 5 = true then Bk 99 15 [x0, x1, x2, x3, x4] [] (Ec 105 [.ref q, v0] a h) else none := Rn_call1 c99_12 rfl (Nat.le_of_ble_eq_true rfl) rfl rfl (Nat.le_of_ble_eq_true rfl)
theorem c99_15 : mcode 99 15 = some (.ireturn, 1, 0, 0, 0) := rfl
theorem r99_15 : Rn 99 (15, [x0, x1, x2, x3, x4], [.int i], a, h) = some (some (.int i), a, h) := Rn_ireti c99_15
theorem c99_16 : mcode 99 16 = some (.aload_n 0, 1, 0, 0, 0) := rfl
theorem r99_16 : Rn 99 (16, [some (.ref q), x1, x2, x3, x4], st, a, h) = Rn 99 (17, [some (.ref q), x1, x2, x3, x4], .ref q :: st, a, h) := Rn_go c99_16 rfl
theorem c99_17 : mcode 99 17 = some (.iload_n 1, 1, 0, 0, 0) := rfl
theorem r99_17 : Rn 99 (17, [x0, some (.int i), x2, x3, x4], st, a, h) = Rn 99 (18, [x0, some (.int i), x2, x3, x4], .int i :: st, a, h) := Rn_go c99_17 rfl
theorem c99_18 : mcode 99 18 = some (.invokevirtual 164, 3, 117, 1, 5) := rfl
theorem r99_18 : Rn 99 (18, [x0, x1, x2, x3, x4], [v0, .ref q], a, h) = if mis h q 5 = true then Bk 99 21 [x0, x1, x2, x3, x4] [] (Ec 117 [.ref q, v0] a h) else none := Rn_call1 c99_18 rfl (Nat.le_of_ble_eq_true rfl) rfl rfl (Nat.le_of_ble_eq_true rfl)
theorem c99_21 : mcode 99 21 = some (.astore_n 3, 1, 0, 0, 0) := rfl
theorem r99_21 : Rn 99 (21, [x0, x1, x2, x3, x4], .ref q :: st, a, h) = Nl x2 (Rn 99 (22, [x0, x1, x2, some (.ref q), x4], st, a, h)) := Rn_st1 (k := 3) (v := .ref q) x2 c99_21 rfl rfl rfl rfl
theorem r99_21n : Rn 99 (21, [x0, x1, x2, x3, x4], .null :: st, a, h) = Nl x2 (Rn 99 (22, [x0, x1, x2, some (.null), x4], st, a, h)) := Rn_st1 (k := 3) (v := .null) x2 c99_21 rfl rfl rfl rfl
theorem c99_22 : mcode 99 22 = some (.iconst 0, 1, 0, 0, 0) := rfl
theorem r99_22 : Rn 99 (22, [x0, x1, x2, x3, x4], st, a, h) = Rn 99 (23, [x0, x1, x2, x3, x4], .int (0 : Int32) :: st, a, h) := Rn_go c99_22 rfl
theorem c99_23 : mcode 99 23 = some (.istore 4, 2, 0, 0, 0) := rfl
theorem r99_23 : Rn 99 (23, [x0, x1, x2, x3, x4], .int i :: st, a, h) = Nl x3 (Rn 99 (25, [x0, x1, x2, x3, some (.int i)], st, a, h)) := Rn_st1 (k := 4) (v := .int i) x3 c99_23 rfl rfl rfl rfl
theorem c99_25 : mcode 99 25 = some (.aload_n 3, 1, 0, 0, 0) := rfl
theorem r99_25 : Rn 99 (25, [x0, x1, x2, some (.ref q), x4], st, a, h) = Rn 99 (26, [x0, x1, x2, some (.ref q), x4], .ref q :: st, a, h) := Rn_go c99_25 rfl
theorem r99_25n : Rn 99 (25, [x0, x1, x2, some .null, x4], st, a, h) = Rn 99 (26, [x0, x1, x2, some .null, x4], .null :: st, a, h) := Rn_go c99_25 rfl
theorem c99_26 : mcode 99 26 = some (.ifnull 49, 3, 0, 0, 0) := rfl
theorem r99_26n : Rn 99 (26, [x0, x1, x2, x3, x4], .null :: st, a, h) = Rn 99 (75, [x0, x1, x2, x3, x4], st, a, h) := Rn_go c99_26 rfl
theorem r99_26 : Rn 99 (26, [x0, x1, x2, x3, x4], .ref q :: st, a, h) = Rn 99 (29, [x0, x1, x2, x3, x4], st, a, h) := Rn_go c99_26 rfl
theorem c99_29 : mcode 99 29 = some (.iload 4, 2, 0, 0, 0) := rfl
theorem r99_29 : Rn 99 (29, [x0, x1, x2, x3, some (.int i)], st, a, h) = Rn 99 (31, [x0, x1, x2, x3, some (.int i)], .int i :: st, a, h) := Rn_go c99_29 rfl
theorem c99_31 : mcode 99 31 = some (.aload_n 3, 1, 0, 0, 0) := rfl
theorem r99_31 : Rn 99 (31, [x0, x1, x2, some (.ref q), x4], st, a, h) = Rn 99 (32, [x0, x1, x2, some (.ref q), x4], .ref q :: st, a, h) := Rn_go c99_31 rfl
theorem r99_31n : Rn 99 (31, [x0, x1, x2, some .null, x4], st, a, h) = Rn 99 (32, [x0, x1, x2, some .null, x4], .null :: st, a, h) := Rn_go c99_31 rfl
theorem c99_32 : mcode 99 32 = some (.getfield 224, 3, 0, 2, 0) := rfl
theorem r99_32 : Rn 99 (32, [x0, x1, x2, x3, x4], .ref q :: st, a, h) = Kv 99 35 [x0, x1, x2, x3, x4] st a h (mgf h q 0 2) := Rn_getf c99_32 rfl
theorem c99_35 : mcode 99 35 = some (.if_icmp .ge 40, 3, 0, 0, 0) := rfl
theorem r99_35 : Rn 99 (35, [x0, x1, x2, x3, x4], .int j :: .int i :: st, a, h) = if i < j then Rn 99 (38, [x0, x1, x2, x3, x4], st, a, h) else Rn 99 (75, [x0, x1, x2, x3, x4], st, a, h) := Rn_icmpn c99_35 mc_ge rfl rfl
theorem c99_38 : mcode 99 38 = some (.iload 4, 2, 0, 0, 0) := rfl
theorem r99_38 : Rn 99 (38, [x0, x1, x2, x3, some (.int i)], st, a, h) = Rn 99 (40, [x0, x1, x2, x3, some (.int i)], .int i :: st, a, h) := Rn_go c99_38 rfl
theorem c99_40 : mcode 99 40 = some (.invokestatic 49, 3, 107, 1, 0) := rfl
theorem r99_40 : Rn 99 (40, [x0, x1, x2, x3, x4], [v0], a, h) = Bk 99 43 [x0, x1, x2, x3, x4] [] (Ec 107 [v0] a h) := Rn_call0 c99_40 (fun z => nomatch z) rfl (Nat.le_of_ble_eq_true rfl) rfl rfl (Nat.le_of_ble_eq_true rfl)
theorem c99_43 : mcode 99 43 = some (.ifCond .eq 21, 3, 0, 0, 0) := rfl
theorem r99_43 : Rn 99 (43, [x0, x1, x2, x3, x4], .int i :: st, a, h) = if i = 0 then Rn 99 (64, [x0, x1, x2, x3, x4], st, a, h) else Rn 99 (46, [x0, x1, x2, x3, x4], st, a, h) := Rn_ifc c99_43 mc_eq rfl rfl
theorem c99_46 : mcode 99 46 = some (.aload_n 3, 1, 0, 0, 0) := rfl
theorem r99_46 : Rn 99 (46, [x0, x1, x2, some (.ref q), x4], st, a, h) = Rn 99 (47, [x0, x1, x2, some (.ref q), x4], .ref q :: st, a, h) := Rn_go c99_46 rfl
theorem r99_46n : Rn 99 (46, [x0, x1, x2, some .null, x4], st, a, h) = Rn 99 (47, [x0, x1, x2, some .null, x4], .null :: st, a, h) := Rn_go c99_46 rfl
theorem c99_47 : mcode 99 47 = some (.iload 4, 2, 0, 0, 0) := rfl
theorem r99_47 : Rn 99 (47, [x0, x1, x2, x3, some (.int i)], st, a, h) = Rn 99 (49, [x0, x1, x2, x3, some (.int i)], .int i :: st, a, h) := Rn_go c99_47 rfl
theorem c99_49 : mcode 99 49 = some (.invokevirtual 249, 3, 5, 1, 0) := rfl
theorem r99_49 : Rn 99 (49, [x0, x1, x2, x3, x4], [v0, .ref q], a, h) = if mis h q 0 = true then Bk 99 52 [x0, x1, x2, x3, x4] [] (Ec 5 [.ref q, v0] a h) else none := Rn_call1 c99_49 rfl (Nat.le_of_ble_eq_true rfl) rfl rfl (Nat.le_of_ble_eq_true rfl)
theorem c99_52 : mcode 99 52 = some (.aload_n 0, 1, 0, 0, 0) := rfl
theorem r99_52 : Rn 99 (52, [some (.ref q), x1, x2, x3, x4], st, a, h) = Rn 99 (53, [some (.ref q), x1, x2, x3, x4], .ref q :: st, a, h) := Rn_go c99_52 rfl
theorem c99_53 : mcode 99 53 = some (.getfield 12, 3, 5, 0, 0) := rfl
theorem r99_53 : Rn 99 (53, [x0, x1, x2, x3, x4], .ref q :: st, a, h) = Kv 99 56 [x0, x1, x2, x3, x4] st a h (mgf h q 5 0) := Rn_getf c99_53 rfl
theorem c99_56 : mcode 99 56 = some (.iload 4, 2, 0, 0, 0) := rfl
theorem r99_56 : Rn 99 (56, [x0, x1, x2, x3, some (.int i)], st, a, h) = Rn 99 (58, [x0, x1, x2, x3, some (.int i)], .int i :: st, a, h) := Rn_go c99_56 rfl
theorem c99_58 : mcode 99 58 = some (.invokevirtual 73, 3, 43, 1, 4) := rfl
theorem r99_58 : Rn 99 (58, [x0, x1, x2, x3, x4], [v0, .ref q, .int i0], a, h) = if mis h q 4 = true then Bk 99 61 [x0, x1, x2, x3, x4] [.int i0] (Ec 43 [.ref q, v0] a h) else none := Rn_call1 c99_58 rfl (Nat.le_of_ble_eq_true rfl) rfl rfl (Nat.le_of_ble_eq_true rfl)
theorem c99_61 : mcode 99 61 = some (.if_icmp .eq 8, 3, 0, 0, 0) := rfl
theorem r99_61 : Rn 99 (61, [x0, x1, x2, x3, x4], .int j :: .int i :: st, a, h) = if i = j then Rn 99 (69, [x0, x1, x2, x3, x4], st, a, h) else Rn 99 (64, [x0, x1, x2, x3, x4], st, a, h) := Rn_icmp c99_61 mc_eq rfl rfl
theorem c99_64 : mcode 99 64 = some (.iconst 1, 1, 0, 0, 0) := rfl
theorem r99_64 : Rn 99 (64, [x0, x1, x2, x3, x4], st, a, h) = Rn 99 (65, [x0, x1, x2, x3, x4], .int (1 : Int32) :: st, a, h) := Rn_go c99_64 rfl
theorem c99_65 : mcode 99 65 = some (.iload 4, 2, 0, 0, 0) := rfl
theorem r99_65 : Rn 99 (65, [x0, x1, x2, x3, some (.int i)], st, a, h) = Rn 99 (67, [x0, x1, x2, x3, some (.int i)], .int i :: st, a, h) := Rn_go c99_65 rfl
theorem c99_67 : mcode 99 67 = some (.iadd, 1, 0, 0, 0) := rfl
theorem r99_67 : Rn 99 (67, [x0, x1, x2, x3, x4], .int j :: .int i :: st, a, h) = Rn 99 (68, [x0, x1, x2, x3, x4], .int (i + j) :: st, a, h) := Rn_go c99_67 rfl
theorem c99_68 : mcode 99 68 = some (.ireturn, 1, 0, 0, 0) := rfl
theorem r99_68 : Rn 99 (68, [x0, x1, x2, x3, x4], [.int i], a, h) = some (some (.int i), a, h) := Rn_ireti c99_68
theorem c99_69 : mcode 99 69 = some (.iinc 4 1, 3, 0, 0, 0) := rfl
theorem r99_69 : Rn 99 (69, [x0, x1, x2, x3, some (.int i)], st, a, h) = Nl x3 (Rn 99 (72, [x0, x1, x2, x3, some (.int (i + (1 : Int32)))], st, a, h)) := Rn_st1 (k := 4) (v := .int (i + (1 : Int32))) x3 c99_69 rfl rfl rfl rfl
theorem c99_72 : mcode 99 72 = some (.goto (-47), 3, 0, 0, 0) := rfl
theorem r99_72 : Rn 99 (72, [x0, x1, x2, x3, x4], st, a, h) = Rn 99 (25, [x0, x1, x2, x3, x4], st, a, h) := Rn_goto c99_72 rfl
theorem c99_75 : mcode 99 75 = some (.iconst 0, 1, 0, 0, 0) := rfl
theorem r99_75 : Rn 99 (75, [x0, x1, x2, x3, x4], st, a, h) = Rn 99 (76, [x0, x1, x2, x3, x4], .int (0 : Int32) :: st, a, h) := Rn_go c99_75 rfl
theorem c99_76 : mcode 99 76 = some (.ireturn, 1, 0, 0, 0) := rfl
theorem r99_76 : Rn 99 (76, [x0, x1, x2, x3, x4], [.int i], a, h) = some (some (.int i), a, h) := Rn_ireti c99_76
theorem c100_0 : mcode 100 0 = some (.aload_n 0, 1, 0, 0, 0) := rfl
theorem r100_0 : Rn 100 (0, [some (.ref q)], st, a, h) = Rn 100 (1, [some (.ref q)], .ref q :: st, a, h) := Rn_go c100_0 rfl
theorem c100_1 : mcode 100 1 = some (.getfield 19, 3, 5, 2, 0) := rfl
theorem r100_1 : Rn 100 (1, [x0], .ref q :: st, a, h) = Kv 100 4 [x0] st a h (mgf h q 5 2) := Rn_getf c100_1 rfl
theorem c100_4 : mcode 100 4 = some (.aload_n 0, 1, 0, 0, 0) := rfl
theorem r100_4 : Rn 100 (4, [some (.ref q)], st, a, h) = Rn 100 (5, [some (.ref q)], .ref q :: st, a, h) := Rn_go c100_4 rfl
theorem c100_5 : mcode 100 5 = some (.getfield 12, 3, 5, 0, 0) := rfl
theorem r100_5 : Rn 100 (5, [x0], .ref q :: st, a, h) = Kv 100 8 [x0] st a h (mgf h q 5 0) := Rn_getf c100_5 rfl
theorem c100_8 : mcode 100 8 = some (.invokevirtual 201, 3, 35, 1, 4) := rfl
theorem r100_8 : Rn 100 (8, [x0], [v0, .ref q], a, h) = if mis h q 4 = true then Bk 100 11 [x0] [] (Ec 35 [.ref q, v0] a h) else none := Rn_call1 c100_8 rfl (Nat.le_of_ble_eq_true rfl) rfl rfl (Nat.le_of_ble_eq_true rfl)
theorem c100_11 : mcode 100 11 = some (.aload_n 0, 1, 0, 0, 0) := rfl
theorem r100_11 : Rn 100 (11, [some (.ref q)], st, a, h) = Rn 100 (12, [some (.ref q)], .ref q :: st, a, h) := Rn_go c100_11 rfl
theorem c100_12 : mcode 100 12 = some (.iconst 1, 1, 0, 0, 0) := rfl
theorem r100_12 : Rn 100 (12, [x0], st, a, h) = Rn 100 (13, [x0], .int (1 : Int32) :: st, a, h) := Rn_go c100_12 rfl
theorem c100_13 : mcode 100 13 = some (.putfield 22, 3, 5, 3, 1) := rfl
theorem r100_13 : Rn 100 (13, [x0], .int i :: .ref q :: st, a, h) = if mok 1 (.int i) = true then Kh 100 16 [x0] st a (mpf h q 5 3 (.int i)) else none := Rn_putf c100_13 rfl rfl
theorem c100_16 : mcode 100 16 = some (.iconst 1, 1, 0, 0, 0) := rfl
theorem r100_16 : Rn 100 (16, [x0], st, a, h) = Rn 100 (17, [x0], .int (1 : Int32) :: st, a, h) := Rn_go c100_16 rfl
theorem c100_17 : mcode 100 17 = some (.ireturn, 1, 0, 0, 0) := rfl
theorem r100_17 : Rn 100 (17, [x0], [.int i], a, h) = some (some (.int i), a, h) := Rn_ireti c100_17
theorem c101_0 : mcode 101 0 = some (.aload_n 0, 1, 0, 0, 0) := rfl
theorem r101_0 : Rn 101 (0, [some (.ref q)], st, a, h) = Rn 101 (1, [some (.ref q)], .ref q :: st, a, h) := Rn_go c101_0 rfl
theorem c101_1 : mcode 101 1 = some (.getfield 22, 3, 5, 3, 0) := rfl
theorem r101_1 : Rn 101 (1, [x0], .ref q :: st, a, h) = Kv 101 4 [x0] st a h (mgf h q 5 3) := Rn_getf c101_1 rfl
theorem c101_4 : mcode 101 4 = some (.ifCond .ne 10, 3, 0, 0, 0) := rfl
theorem r101_4 : Rn 101 (4, [x0], .int i :: st, a, h) = if i = 0 then Rn 101 (7, [x0], st, a, h) else Rn 101 (14, [x0], st, a, h) := Rn_ifcn c101_4 mc_ne rfl rfl
theorem c101_7 : mcode 101 7 = some (.aload_n 0, 1, 0, 0, 0) := rfl
theorem r101_7 : Rn 101 (7, [some (.ref q)], st, a, h) = Rn 101 (8, [some (.ref q)], .ref q :: st, a, h) := Rn_go c101_7 rfl
theorem c101_8 : mcode 101 8 = some (.ldc 146, 2, 0, 0, -1000004) := rfl
theorem r101_8 : Rn 101 (8, [x0], st, a, h) = Rn 101 (10, [x0], .int (-1000004 : Int32) :: st, a, h) := Rn_go c101_8 rfl
theorem c101_10 : mcode 101 10 = some (.invokevirtual 61, 3, 105, 1, 5) := rfl
theorem r101_10 : Rn 101 (10, [x0], [v0, .ref q], a, h) = if mis h q 5 = true then Bk 101 13 [x0] [] (Ec 105 [.ref q, v0] a h) else none := Rn_call1 c101_10 rfl (Nat.le_of_ble_eq_true rfl) rfl rfl (Nat.le_of_ble_eq_true rfl)
theorem c101_13 : mcode 101 13 = some (.ireturn, 1, 0, 0, 0) := rfl
theorem r101_13 : Rn 101 (13, [x0], [.int i], a, h) = some (some (.int i), a, h) := Rn_ireti c101_13
theorem c101_14 : mcode 101 14 = some (.aload_n 0, 1, 0, 0, 0) := rfl
theorem r101_14 : Rn 101 (14, [some (.ref q)], st, a, h) = Rn 101 (15, [some (.ref q)], .ref q :: st, a, h) := Rn_go c101_14 rfl
theorem c101_15 : mcode 101 15 = some (.getfield 12, 3, 5, 0, 0) := rfl
theorem r101_15 : Rn 101 (15, [x0], .ref q :: st, a, h) = Kv 101 18 [x0] st a h (mgf h q 5 0) := Rn_getf c101_15 rfl
theorem c101_18 : mcode 101 18 = some (.aload_n 0, 1, 0, 0, 0) := rfl
theorem r101_18 : Rn 101 (18, [some (.ref q)], st, a, h) = Rn 101 (19, [some (.ref q)], .ref q :: st, a, h) := Rn_go c101_18 rfl
theorem c101_19 : mcode 101 19 = some (.getfield 19, 3, 5, 2, 0) := rfl
theorem r101_19 : Rn 101 (19, [x0], .ref q :: st, a, h) = Kv 101 22 [x0] st a h (mgf h q 5 2) := Rn_getf c101_19 rfl
theorem c101_22 : mcode 101 22 = some (.invokevirtual 201, 3, 35, 1, 4) := rfl
theorem r101_22 : Rn 101 (22, [x0], [v0, .ref q], a, h) = if mis h q 4 = true then Bk 101 25 [x0] [] (Ec 35 [.ref q, v0] a h) else none := Rn_call1 c101_22 rfl (Nat.le_of_ble_eq_true rfl) rfl rfl (Nat.le_of_ble_eq_true rfl)
theorem c101_25 : mcode 101 25 = some (.aload_n 0, 1, 0, 0, 0) := rfl
theorem r101_25 : Rn 101 (25, [some (.ref q)], st, a, h) = Rn 101 (26, [some (.ref q)], .ref q :: st, a, h) := Rn_go c101_25 rfl
theorem c101_26 : mcode 101 26 = some (.getfield 12, 3, 5, 0, 0) := rfl
theorem r101_26 : Rn 101 (26, [x0], .ref q :: st, a, h) = Kv 101 29 [x0] st a h (mgf h q 5 0) := Rn_getf c101_26 rfl
theorem c101_29 : mcode 101 29 = some (.getfield 121, 3, 4, 5, 0) := rfl
theorem r101_29 : Rn 101 (29, [x0], .ref q :: st, a, h) = Kv 101 32 [x0] st a h (mgf h q 4 5) := Rn_getf c101_29 rfl
theorem c101_32 : mcode 101 32 = some (.ireturn, 1, 0, 0, 0) := rfl
theorem r101_32 : Rn 101 (32, [x0], [.int i], a, h) = some (some (.int i), a, h) := Rn_ireti c101_32
theorem c102_0 : mcode 102 0 = some (.aload_n 0, 1, 0, 0, 0) := rfl
theorem r102_0 : Rn 102 (0, [some (.ref q), x1], st, a, h) = Rn 102 (1, [some (.ref q), x1], .ref q :: st, a, h) := Rn_go c102_0 rfl
theorem c102_1 : mcode 102 1 = some (.getfield 22, 3, 5, 3, 0) := rfl
theorem r102_1 : Rn 102 (1, [x0, x1], .ref q :: st, a, h) = Kv 102 4 [x0, x1] st a h (mgf h q 5 3) := Rn_getf c102_1 rfl
theorem c102_4 : mcode 102 4 = some (.ifCond .eq 7, 3, 0, 0, 0) := rfl
theorem r102_4 : Rn 102 (4, [x0, x1], .int i :: st, a, h) = if i = 0 then Rn 102 (11, [x0, x1], st, a, h) else Rn 102 (7, [x0, x1], st, a, h) := Rn_ifc c102_4 mc_eq rfl rfl
theorem c102_7 : mcode 102 7 = some (.iconst 1, 1, 0, 0, 0) := rfl
theorem r102_7 : Rn 102 (7, [x0, x1], st, a, h) = Rn 102 (8, [x0, x1], .int (1 : Int32) :: st, a, h) := Rn_go c102_7 rfl
theorem c102_8 : mcode 102 8 = some (.goto 4, 3, 0, 0, 0) := rfl
theorem r102_8 : Rn 102 (8, [x0, x1], st, a, h) = Rn 102 (12, [x0, x1], st, a, h) := Rn_goto c102_8 rfl
theorem c102_11 : mcode 102 11 = some (.iconst 0, 1, 0, 0, 0) := rfl
theorem r102_11 : Rn 102 (11, [x0, x1], st, a, h) = Rn 102 (12, [x0, x1], .int (0 : Int32) :: st, a, h) := Rn_go c102_11 rfl
theorem c102_12 : mcode 102 12 = some (.istore_n 1, 1, 0, 0, 0) := rfl
theorem r102_12 : Rn 102 (12, [x0, x1], .int i :: st, a, h) = Nl x0 (Rn 102 (13, [x0, some (.int i)], st, a, h)) := Rn_st1 (k := 1) (v := .int i) x0 c102_12 rfl rfl rfl rfl
theorem c102_13 : mcode 102 13 = some (.aload_n 0, 1, 0, 0, 0) := rfl
theorem r102_13 : Rn 102 (13, [some (.ref q), x1], st, a, h) = Rn 102 (14, [some (.ref q), x1], .ref q :: st, a, h) := Rn_go c102_13 rfl
theorem c102_14 : mcode 102 14 = some (.iconst 0, 1, 0, 0, 0) := rfl
theorem r102_14 : Rn 102 (14, [x0, x1], st, a, h) = Rn 102 (15, [x0, x1], .int (0 : Int32) :: st, a, h) := Rn_go c102_14 rfl
theorem c102_15 : mcode 102 15 = some (.putfield 22, 3, 5, 3, 1) := rfl
theorem r102_15 : Rn 102 (15, [x0, x1], .int i :: .ref q :: st, a, h) = if mok 1 (.int i) = true then Kh 102 18 [x0, x1] st a (mpf h q 5 3 (.int i)) else none := Rn_putf c102_15 rfl rfl
theorem c102_18 : mcode 102 18 = some (.iload_n 1, 1, 0, 0, 0) := rfl
theorem r102_18 : Rn 102 (18, [x0, some (.int i)], st, a, h) = Rn 102 (19, [x0, some (.int i)], .int i :: st, a, h) := Rn_go c102_18 rfl
theorem c102_19 : mcode 102 19 = some (.ireturn, 1, 0, 0, 0) := rfl
theorem r102_19 : Rn 102 (19, [x0, x1], [.int i], a, h) = some (some (.int i), a, h) := Rn_ireti c102_19
theorem c103_0 : mcode 103 0 = some (.iload_n 1, 1, 0, 0, 0) := rfl
theorem r103_0 : Rn 103 (0, [x0, some (.int i)], st, a, h) = Rn 103 (1, [x0, some (.int i)], .int i :: st, a, h) := Rn_go c103_0 rfl
theorem c103_1 : mcode 103 1 = some (.tableswitch 113 0 7 #[47, 55, 63, 72, 81, 89, 97, 105], 47, 0, 0, 0) := rfl
theorem r103_1_0 : Rn 103 (1, [x0, x1], .int (0 : Int32) :: st, a, h) = Rn 103 (48, [x0, x1], st, a, h) := Rn_swAt c103_1 rfl rfl
theorem r103_1_1 : Rn 103 (1, [x0, x1], .int (1 : Int32) :: st, a, h) = Rn 103 (56, [x0, x1], st, a, h) := Rn_swAt c103_1 rfl rfl
theorem r103_1_2 : Rn 103 (1, [x0, x1], .int (2 : Int32) :: st, a, h) = Rn 103 (64, [x0, x1], st, a, h) := Rn_swAt c103_1 rfl rfl
theorem r103_1_3 : Rn 103 (1, [x0, x1], .int (3 : Int32) :: st, a, h) = Rn 103 (73, [x0, x1], st, a, h) := Rn_swAt c103_1 rfl rfl
theorem r103_1_4 : Rn 103 (1, [x0, x1], .int (4 : Int32) :: st, a, h) = Rn 103 (82, [x0, x1], st, a, h) := Rn_swAt c103_1 rfl rfl
theorem r103_1_5 : Rn 103 (1, [x0, x1], .int (5 : Int32) :: st, a, h) = Rn 103 (90, [x0, x1], st, a, h) := Rn_swAt c103_1 rfl rfl
theorem r103_1_6 : Rn 103 (1, [x0, x1], .int (6 : Int32) :: st, a, h) = Rn 103 (98, [x0, x1], st, a, h) := Rn_swAt c103_1 rfl rfl
theorem r103_1_7 : Rn 103 (1, [x0, x1], .int (7 : Int32) :: st, a, h) = Rn 103 (106, [x0, x1], st, a, h) := Rn_swAt c103_1 rfl rfl
theorem r103_1_d (hi : i.toInt < 0 ∨ 7 < i.toInt) : Rn 103 (1, [x0, x1], .int i :: st, a, h) = Rn 103 (114, [x0, x1], st, a, h) := Rn_swAt c103_1 (if_pos hi) rfl
theorem c103_48 : mcode 103 48 = some (.aload_n 0, 1, 0, 0, 0) := rfl
theorem r103_48 : Rn 103 (48, [some (.ref q), x1], st, a, h) = Rn 103 (49, [some (.ref q), x1], .ref q :: st, a, h) := Rn_go c103_48 rfl
theorem c103_49 : mcode 103 49 = some (.getfield 12, 3, 5, 0, 0) := rfl
theorem r103_49 : Rn 103 (49, [x0, x1], .ref q :: st, a, h) = Kv 103 52 [x0, x1] st a h (mgf h q 5 0) := Rn_getf c103_49 rfl
theorem c103_52 : mcode 103 52 = some (.getfield 121, 3, 4, 5, 0) := rfl
theorem r103_52 : Rn 103 (52, [x0, x1], .ref q :: st, a, h) = Kv 103 55 [x0, x1] st a h (mgf h q 4 5) := Rn_getf c103_52 rfl
theorem c103_55 : mcode 103 55 = some (.ireturn, 1, 0, 0, 0) := rfl
theorem r103_55 : Rn 103 (55, [x0, x1], [.int i], a, h) = some (some (.int i), a, h) := Rn_ireti c103_55
theorem c103_56 : mcode 103 56 = some (.aload_n 0, 1, 0, 0, 0) := rfl
theorem r103_56 : Rn 103 (56, [some (.ref q), x1], st, a, h) = Rn 103 (57, [some (.ref q), x1], .ref q :: st, a, h) := Rn_go c103_56 rfl
theorem c103_57 : mcode 103 57 = some (.getfield 12, 3, 5, 0, 0) := rfl
theorem r103_57 : Rn 103 (57, [x0, x1], .ref q :: st, a, h) = Kv 103 60 [x0, x1] st a h (mgf h q 5 0) := Rn_getf c103_57 rfl
theorem c103_60 : mcode 103 60 = some (.getfield 106, 3, 4, 3, 0) := rfl
theorem r103_60 : Rn 103 (60, [x0, x1], .ref q :: st, a, h) = Kv 103 63 [x0, x1] st a h (mgf h q 4 3) := Rn_getf c103_60 rfl
theorem c103_63 : mcode 103 63 = some (.ireturn, 1, 0, 0, 0) := rfl
theorem r103_63 : Rn 103 (63, [x0, x1], [.int i], a, h) = some (some (.int i), a, h) := Rn_ireti c103_63
theorem c103_64 : mcode 103 64 = some (.aload_n 0, 1, 0, 0, 0) := rfl
theorem r103_64 : Rn 103 (64, [some (.ref q), x1], st, a, h) = Rn 103 (65, [some (.ref q), x1], .ref q :: st, a, h) := Rn_go c103_64 rfl
theorem c103_65 : mcode 103 65 = some (.getfield 12, 3, 5, 0, 0) := rfl
theorem r103_65 : Rn 103 (65, [x0, x1], .ref q :: st, a, h) = Kv 103 68 [x0, x1] st a h (mgf h q 5 0) := Rn_getf c103_65 rfl
theorem c103_68 : mcode 103 68 = some (.iconst 3, 1, 0, 0, 0) := rfl
theorem r103_68 : Rn 103 (68, [x0, x1], st, a, h) = Rn 103 (69, [x0, x1], .int (3 : Int32) :: st, a, h) := Rn_go c103_68 rfl
theorem c103_69 : mcode 103 69 = some (.invokevirtual 134, 3, 50, 1, 4) := rfl
theorem r103_69 : Rn 103 (69, [x0, x1], [v0, .ref q], a, h) = if mis h q 4 = true then Bk 103 72 [x0, x1] [] (Ec 50 [.ref q, v0] a h) else none := Rn_call1 c103_69 rfl (Nat.le_of_ble_eq_true rfl) rfl rfl (Nat.le_of_ble_eq_true rfl)
theorem c103_72 : mcode 103 72 = some (.ireturn, 1, 0, 0, 0) := rfl
theorem r103_72 : Rn 103 (72, [x0, x1], [.int i], a, h) = some (some (.int i), a, h) := Rn_ireti c103_72
theorem c103_73 : mcode 103 73 = some (.aload_n 0, 1, 0, 0, 0) := rfl
theorem r103_73 : Rn 103 (73, [some (.ref q), x1], st, a, h) = Rn 103 (74, [some (.ref q), x1], .ref q :: st, a, h) := Rn_go c103_73 rfl
theorem c103_74 : mcode 103 74 = some (.getfield 12, 3, 5, 0, 0) := rfl
theorem r103_74 : Rn 103 (74, [x0, x1], .ref q :: st, a, h) = Kv 103 77 [x0, x1] st a h (mgf h q 5 0) := Rn_getf c103_74 rfl
theorem c103_77 : mcode 103 77 = some (.iconst 5, 1, 0, 0, 0) := rfl
theorem r103_77 : Rn 103 (77, [x0, x1], st, a, h) = Rn 103 (78, [x0, x1], .int (5 : Int32) :: st, a, h) := Rn_go c103_77 rfl
theorem c103_78 : mcode 103 78 = some (.invokevirtual 134, 3, 50, 1, 4) := rfl
theorem r103_78 : Rn 103 (78, [x0, x1], [v0, .ref q], a, h) = if mis h q 4 = true then Bk 103 81 [x0, x1] [] (Ec 50 [.ref q, v0] a h) else none := Rn_call1 c103_78 rfl (Nat.le_of_ble_eq_true rfl) rfl rfl (Nat.le_of_ble_eq_true rfl)
theorem c103_81 : mcode 103 81 = some (.ireturn, 1, 0, 0, 0) := rfl
theorem r103_81 : Rn 103 (81, [x0, x1], [.int i], a, h) = some (some (.int i), a, h) := Rn_ireti c103_81
theorem c103_82 : mcode 103 82 = some (.aload_n 0, 1, 0, 0, 0) := rfl
theorem r103_82 : Rn 103 (82, [some (.ref q), x1], st, a, h) = Rn 103 (83, [some (.ref q), x1], .ref q :: st, a, h) := Rn_go c103_82 rfl
theorem c103_83 : mcode 103 83 = some (.getfield 12, 3, 5, 0, 0) := rfl
theorem r103_83 : Rn 103 (83, [x0, x1], .ref q :: st, a, h) = Kv 103 86 [x0, x1] st a h (mgf h q 5 0) := Rn_getf c103_83 rfl
theorem c103_86 : mcode 103 86 = some (.invokevirtual 130, 3, 44, 0, 4) := rfl
theorem r103_86 : Rn 103 (86, [x0, x1], [.ref q], a, h) = if mis h q 4 = true then Bk 103 89 [x0, x1] [] (Ec 44 [.ref q] a h) else none := Rn_call1 c103_86 rfl (Nat.le_of_ble_eq_true rfl) rfl rfl (Nat.le_of_ble_eq_true rfl)
theorem c103_89 : mcode 103 89 = some (.ireturn, 1, 0, 0, 0) := rfl
theorem r103_89 : Rn 103 (89, [x0, x1], [.int i], a, h) = some (some (.int i), a, h) := Rn_ireti c103_89
theorem c103_90 : mcode 103 90 = some (.aload_n 0, 1, 0, 0, 0) := rfl
theorem r103_90 : Rn 103 (90, [some (.ref q), x1], st, a, h) = Rn 103 (91, [some (.ref q), x1], .ref q :: st, a, h) := Rn_go c103_90 rfl
theorem c103_91 : mcode 103 91 = some (.getfield 37, 3, 5, 5, 0) := rfl
theorem r103_91 : Rn 103 (91, [x0, x1], .ref q :: st, a, h) = Kv 103 94 [x0, x1] st a h (mgf h q 5 5) := Rn_getf c103_91 rfl
theorem c103_94 : mcode 103 94 = some (.getfield 189, 3, 1, 1, 0) := rfl
theorem r103_94 : Rn 103 (94, [x0, x1], .ref q :: st, a, h) = Kv 103 97 [x0, x1] st a h (mgf h q 1 1) := Rn_getf c103_94 rfl
theorem c103_97 : mcode 103 97 = some (.ireturn, 1, 0, 0, 0) := rfl
theorem r103_97 : Rn 103 (97, [x0, x1], [.int i], a, h) = some (some (.int i), a, h) := Rn_ireti c103_97
theorem c103_98 : mcode 103 98 = some (.aload_n 0, 1, 0, 0, 0) := rfl
theorem r103_98 : Rn 103 (98, [some (.ref q), x1], st, a, h) = Rn 103 (99, [some (.ref q), x1], .ref q :: st, a, h) := Rn_go c103_98 rfl
theorem c103_99 : mcode 103 99 = some (.getfield 12, 3, 5, 0, 0) := rfl
theorem r103_99 : Rn 103 (99, [x0, x1], .ref q :: st, a, h) = Kv 103 102 [x0, x1] st a h (mgf h q 5 0) := Rn_getf c103_99 rfl
theorem c103_102 : mcode 103 102 = some (.getfield 186, 3, 4, 6, 0) := rfl
theorem r103_102 : Rn 103 (102, [x0, x1], .ref q :: st, a, h) = Kv 103 105 [x0, x1] st a h (mgf h q 4 6) := Rn_getf c103_102 rfl
theorem c103_105 : mcode 103 105 = some (.ireturn, 1, 0, 0, 0) := rfl
theorem r103_105 : Rn 103 (105, [x0, x1], [.int i], a, h) = some (some (.int i), a, h) := Rn_ireti c103_105
theorem c103_106 : mcode 103 106 = some (.aload_n 0, 1, 0, 0, 0) := rfl
theorem r103_106 : Rn 103 (106, [some (.ref q), x1], st, a, h) = Rn 103 (107, [some (.ref q), x1], .ref q :: st, a, h) := Rn_go c103_106 rfl
theorem c103_107 : mcode 103 107 = some (.getfield 12, 3, 5, 0, 0) := rfl
theorem r103_107 : Rn 103 (107, [x0, x1], .ref q :: st, a, h) = Kv 103 110 [x0, x1] st a h (mgf h q 5 0) := Rn_getf c103_107 rfl
theorem c103_110 : mcode 103 110 = some (.invokevirtual 252, 3, 61, 0, 4) := rfl
theorem r103_110 : Rn 103 (110, [x0, x1], [.ref q], a, h) = if mis h q 4 = true then Bk 103 113 [x0, x1] [] (Ec 61 [.ref q] a h) else none := Rn_call1 c103_110 rfl (Nat.le_of_ble_eq_true rfl) rfl rfl (Nat.le_of_ble_eq_true rfl)
theorem c103_113 : mcode 103 113 = some (.ireturn, 1, 0, 0, 0) := rfl
theorem r103_113 : Rn 103 (113, [x0, x1], [.int i], a, h) = some (some (.int i), a, h) := Rn_ireti c103_113
theorem c103_114 : mcode 103 114 = some (.aload_n 0, 1, 0, 0, 0) := rfl
theorem r103_114 : Rn 103 (114, [some (.ref q), x1], st, a, h) = Rn 103 (115, [some (.ref q), x1], .ref q :: st, a, h) := Rn_go c103_114 rfl
theorem c103_115 : mcode 103 115 = some (.ldc 60, 2, 0, 0, -1000001) := rfl
theorem r103_115 : Rn 103 (115, [x0, x1], st, a, h) = Rn 103 (117, [x0, x1], .int (-1000001 : Int32) :: st, a, h) := Rn_go c103_115 rfl
theorem c103_117 : mcode 103 117 = some (.invokevirtual 61, 3, 105, 1, 5) := rfl
theorem r103_117 : Rn 103 (117, [x0, x1], [v0, .ref q], a, h) = if mis h q 5 = true then Bk 103 120 [x0, x1] [] (Ec 105 [.ref q, v0] a h) else none := Rn_call1 c103_117 rfl (Nat.le_of_ble_eq_true rfl) rfl rfl (Nat.le_of_ble_eq_true rfl)
theorem c103_120 : mcode 103 120 = some (.ireturn, 1, 0, 0, 0) := rfl
theorem r103_120 : Rn 103 (120, [x0, x1], [.int i], a, h) = some (some (.int i), a, h) := Rn_ireti c103_120
theorem c104_0 : mcode 104 0 = some (.iload_n 1, 1, 0, 0, 0) := rfl
theorem r104_0 : Rn 104 (0, [x0, some (.int i), x2, x3], st, a, h) = Rn 104 (1, [x0, some (.int i), x2, x3], .int i :: st, a, h) := Rn_go c104_0 rfl
theorem c104_1 : mcode 104 1 = some (.iconst (-1), 1, 0, 0, 0) := rfl
theorem r104_1 : Rn 104 (1, [x0, x1, x2, x3], st, a, h) = Rn 104 (2, [x0, x1, x2, x3], .int (-1 : Int32) :: st, a, h) := Rn_go c104_1 rfl
theorem c104_2 : mcode 104 2 = some (.bipush 6, 2, 0, 0, 0) := rfl
theorem r104_2 : Rn 104 (2, [x0, x1, x2, x3], st, a, h) = Rn 104 (4, [x0, x1, x2, x3], .int (6 : Int32) :: st, a, h) := Rn_go c104_2 rfl
theorem c104_4 : mcode 104 4 = some (.invokestatic 56, 3, 106, 3, 0) := rfl
theorem r104_4 : Rn 104 (4, [x0, x1, x2, x3], [v2, v1, v0], a, h) = Bk 104 7 [x0, x1, x2, x3] [] (Ec 106 [v0, v1, v2] a h) := Rn_call0 c104_4 (fun z => nomatch z) rfl (Nat.le_of_ble_eq_true rfl) rfl rfl (Nat.le_of_ble_eq_true rfl)
theorem c104_7 : mcode 104 7 = some (.ifCond .ne 10, 3, 0, 0, 0) := rfl
theorem r104_7 : Rn 104 (7, [x0, x1, x2, x3], .int i :: st, a, h) = if i = 0 then Rn 104 (10, [x0, x1, x2, x3], st, a, h) else Rn 104 (17, [x0, x1, x2, x3], st, a, h) := Rn_ifcn c104_7 mc_ne rfl rfl
theorem c104_10 : mcode 104 10 = some (.aload_n 0, 1, 0, 0, 0) := rfl
theorem r104_10 : Rn 104 (10, [some (.ref q), x1, x2, x3], st, a, h) = Rn 104 (11, [some (.ref q), x1, x2, x3], .ref q :: st, a, h) := Rn_go c104_10 rfl
theorem c104_11 : mcode 104 11 = some (.ldc 60, 2, 0, 0, -1000001) := rfl
theorem r104_11 : Rn 104 (11, [x0, x1, x2, x3], st, a, h) = Rn 104 (13, [x0, x1, x2, x3], .int (-1000001 : Int32) :: st, a, h) := Rn_go c104_11 rfl
theorem c104_13 : mcode 104 13 = some (.invokevirtual 61, 3, 105, 1, 5) := rfl
theorem r104_13 : Rn 104 (13, [x0, x1, x2, x3], [v0, .ref q], a, h) = if mis h q 5 = true then Bk 104 16 [x0, x1, x2, x3] [] (Ec 105 [.ref q, v0] a h) else none := Rn_call1 c104_13 rfl (Nat.le_of_ble_eq_true rfl) rfl rfl (Nat.le_of_ble_eq_true rfl)
theorem c104_16 : mcode 104 16 = some (.ireturn, 1, 0, 0, 0) := rfl
theorem r104_16 : Rn 104 (16, [x0, x1, x2, x3], [.int i], a, h) = some (some (.int i), a, h) := Rn_ireti c104_16
theorem c104_17 : mcode 104 17 = some (.iconst 0, 1, 0, 0, 0) := rfl
theorem r104_17 : Rn 104 (17, [x0, x1, x2, x3], st, a, h) = Rn 104 (18, [x0, x1, x2, x3], .int (0 : Int32) :: st, a, h) := Rn_go c104_17 rfl
theorem c104_18 : mcode 104 18 = some (.istore_n 2, 1, 0, 0, 0) := rfl
theorem r104_18 : Rn 104 (18, [x0, x1, x2, x3], .int i :: st, a, h) = Nl x1 (Rn 104 (19, [x0, x1, some (.int i), x3], st, a, h)) := Rn_st1 (k := 2) (v := .int i) x1 c104_18 rfl rfl rfl rfl
theorem c104_19 : mcode 104 19 = some (.iconst 0, 1, 0, 0, 0) := rfl
theorem r104_19 : Rn 104 (19, [x0, x1, x2, x3], st, a, h) = Rn 104 (20, [x0, x1, x2, x3], .int (0 : Int32) :: st, a, h) := Rn_go c104_19 rfl
theorem c104_20 : mcode 104 20 = some (.istore_n 3, 1, 0, 0, 0) := rfl
theorem r104_20 : Rn 104 (20, [x0, x1, x2, x3], .int i :: st, a, h) = Nl x2 (Rn 104 (21, [x0, x1, x2, some (.int i)], st, a, h)) := Rn_st1 (k := 3) (v := .int i) x2 c104_20 rfl rfl rfl rfl
theorem c104_21 : mcode 104 21 = some (.iload_n 3, 1, 0, 0, 0) := rfl
theorem r104_21 : Rn 104 (21, [x0, x1, x2, some (.int i)], st, a, h) = Rn 104 (22, [x0, x1, x2, some (.int i)], .int i :: st, a, h) := Rn_go c104_21 rfl
theorem c104_22 : mcode 104 22 = some (.aload_n 0, 1, 0, 0, 0) := rfl
theorem r104_22 : Rn 104 (22, [some (.ref q), x1, x2, x3], st, a, h) = Rn 104 (23, [some (.ref q), x1, x2, x3], .ref q :: st, a, h) := Rn_go c104_22 rfl
theorem c104_23 : mcode 104 23 = some (.getfield 44, 3, 5, 7, 0) := rfl
theorem r104_23 : Rn 104 (23, [x0, x1, x2, x3], .ref q :: st, a, h) = Kv 104 26 [x0, x1, x2, x3] st a h (mgf h q 5 7) := Rn_getf c104_23 rfl
theorem c104_26 : mcode 104 26 = some (.arraylength, 1, 0, 0, 0) := rfl
theorem r104_26 : Rn 104 (26, [x0, x1, x2, x3], .ref q :: st, a, h) = Ki 104 27 [x0, x1, x2, x3] st a h (mlen h q) := Rn_alen c104_26 rfl
theorem c104_27 : mcode 104 27 = some (.if_icmp .ge 28, 3, 0, 0, 0) := rfl
theorem r104_27 : Rn 104 (27, [x0, x1, x2, x3], .int j :: .int i :: st, a, h) = if i < j then Rn 104 (30, [x0, x1, x2, x3], st, a, h) else Rn 104 (55, [x0, x1, x2, x3], st, a, h) := Rn_icmpn c104_27 mc_ge rfl rfl
theorem c104_30 : mcode 104 30 = some (.iload_n 1, 1, 0, 0, 0) := rfl
theorem r104_30 : Rn 104 (30, [x0, some (.int i), x2, x3], st, a, h) = Rn 104 (31, [x0, some (.int i), x2, x3], .int i :: st, a, h) := Rn_go c104_30 rfl
theorem c104_31 : mcode 104 31 = some (.iconst (-1), 1, 0, 0, 0) := rfl
theorem r104_31 : Rn 104 (31, [x0, x1, x2, x3], st, a, h) = Rn 104 (32, [x0, x1, x2, x3], .int (-1 : Int32) :: st, a, h) := Rn_go c104_31 rfl
theorem c104_32 : mcode 104 32 = some (.if_icmp .eq 8, 3, 0, 0, 0) := rfl
theorem r104_32 : Rn 104 (32, [x0, x1, x2, x3], .int j :: .int i :: st, a, h) = if i = j then Rn 104 (40, [x0, x1, x2, x3], st, a, h) else Rn 104 (35, [x0, x1, x2, x3], st, a, h) := Rn_icmp c104_32 mc_eq rfl rfl
theorem c104_35 : mcode 104 35 = some (.iload_n 1, 1, 0, 0, 0) := rfl
theorem r104_35 : Rn 104 (35, [x0, some (.int i), x2, x3], st, a, h) = Rn 104 (36, [x0, some (.int i), x2, x3], .int i :: st, a, h) := Rn_go c104_35 rfl
theorem c104_36 : mcode 104 36 = some (.iload_n 3, 1, 0, 0, 0) := rfl
theorem r104_36 : Rn 104 (36, [x0, x1, x2, some (.int i)], st, a, h) = Rn 104 (37, [x0, x1, x2, some (.int i)], .int i :: st, a, h) := Rn_go c104_36 rfl
theorem c104_37 : mcode 104 37 = some (.if_icmp .ne 12, 3, 0, 0, 0) := rfl
theorem r104_37 : Rn 104 (37, [x0, x1, x2, x3], .int j :: .int i :: st, a, h) = if i = j then Rn 104 (40, [x0, x1, x2, x3], st, a, h) else Rn 104 (49, [x0, x1, x2, x3], st, a, h) := Rn_icmpn c104_37 mc_ne rfl rfl
theorem c104_40 : mcode 104 40 = some (.iload_n 2, 1, 0, 0, 0) := rfl
theorem r104_40 : Rn 104 (40, [x0, x1, some (.int i), x3], st, a, h) = Rn 104 (41, [x0, x1, some (.int i), x3], .int i :: st, a, h) := Rn_go c104_40 rfl
theorem c104_41 : mcode 104 41 = some (.aload_n 0, 1, 0, 0, 0) := rfl
theorem r104_41 : Rn 104 (41, [some (.ref q), x1, x2, x3], st, a, h) = Rn 104 (42, [some (.ref q), x1, x2, x3], .ref q :: st, a, h) := Rn_go c104_41 rfl
theorem c104_42 : mcode 104 42 = some (.getfield 44, 3, 5, 7, 0) := rfl
theorem r104_42 : Rn 104 (42, [x0, x1, x2, x3], .ref q :: st, a, h) = Kv 104 45 [x0, x1, x2, x3] st a h (mgf h q 5 7) := Rn_getf c104_42 rfl
theorem c104_45 : mcode 104 45 = some (.iload_n 3, 1, 0, 0, 0) := rfl
theorem r104_45 : Rn 104 (45, [x0, x1, x2, some (.int i)], st, a, h) = Rn 104 (46, [x0, x1, x2, some (.int i)], .int i :: st, a, h) := Rn_go c104_45 rfl
theorem c104_46 : mcode 104 46 = some (.iaload, 1, 0, 0, 0) := rfl
theorem r104_46 : Rn 104 (46, [x0, x1, x2, x3], .int i :: .ref q :: st, a, h) = Ki 104 47 [x0, x1, x2, x3] st a h (mld h q i false) := Rn_iald c104_46 rfl
theorem c104_47 : mcode 104 47 = some (.iadd, 1, 0, 0, 0) := rfl
theorem r104_47 : Rn 104 (47, [x0, x1, x2, x3], .int j :: .int i :: st, a, h) = Rn 104 (48, [x0, x1, x2, x3], .int (i + j) :: st, a, h) := Rn_go c104_47 rfl
theorem c104_48 : mcode 104 48 = some (.istore_n 2, 1, 0, 0, 0) := rfl
theorem r104_48 : Rn 104 (48, [x0, x1, x2, x3], .int i :: st, a, h) = Nl x1 (Rn 104 (49, [x0, x1, some (.int i), x3], st, a, h)) := Rn_st1 (k := 2) (v := .int i) x1 c104_48 rfl rfl rfl rfl
theorem c104_49 : mcode 104 49 = some (.iinc 3 1, 3, 0, 0, 0) := rfl
theorem r104_49 : Rn 104 (49, [x0, x1, x2, some (.int i)], st, a, h) = Nl x2 (Rn 104 (52, [x0, x1, x2, some (.int (i + (1 : Int32)))], st, a, h)) := Rn_st1 (k := 3) (v := .int (i + (1 : Int32))) x2 c104_49 rfl rfl rfl rfl
theorem c104_52 : mcode 104 52 = some (.goto (-31), 3, 0, 0, 0) := rfl
theorem r104_52 : Rn 104 (52, [x0, x1, x2, x3], st, a, h) = Rn 104 (21, [x0, x1, x2, x3], st, a, h) := Rn_goto c104_52 rfl
theorem c104_55 : mcode 104 55 = some (.iload_n 2, 1, 0, 0, 0) := rfl
theorem r104_55 : Rn 104 (55, [x0, x1, some (.int i), x3], st, a, h) = Rn 104 (56, [x0, x1, some (.int i), x3], .int i :: st, a, h) := Rn_go c104_55 rfl
theorem c104_56 : mcode 104 56 = some (.ireturn, 1, 0, 0, 0) := rfl
theorem r104_56 : Rn 104 (56, [x0, x1, x2, x3], [.int i], a, h) = some (some (.int i), a, h) := Rn_ireti c104_56
theorem c105_0 : mcode 105 0 = some (.ldc 60, 2, 0, 0, -1000001) := rfl
theorem r105_0 : Rn 105 (0, [x0, x1, x2], st, a, h) = Rn 105 (2, [x0, x1, x2], .int (-1000001 : Int32) :: st, a, h) := Rn_go c105_0 rfl
theorem c105_2 : mcode 105 2 = some (.iload_n 1, 1, 0, 0, 0) := rfl
theorem r105_2 : Rn 105 (2, [x0, some (.int i), x2], st, a, h) = Rn 105 (3, [x0, some (.int i), x2], .int i :: st, a, h) := Rn_go c105_2 rfl
theorem c105_3 : mcode 105 3 = some (.isub, 1, 0, 0, 0) := rfl
theorem r105_3 : Rn 105 (3, [x0, x1, x2], .int j :: .int i :: st, a, h) = Rn 105 (4, [x0, x1, x2], .int (i - j) :: st, a, h) := Rn_go c105_3 rfl
theorem c105_4 : mcode 105 4 = some (.istore_n 2, 1, 0, 0, 0) := rfl
theorem r105_4 : Rn 105 (4, [x0, x1, x2], .int i :: st, a, h) = Nl x1 (Rn 105 (5, [x0, x1, some (.int i)], st, a, h)) := Rn_st1 (k := 2) (v := .int i) x1 c105_4 rfl rfl rfl rfl
theorem c105_5 : mcode 105 5 = some (.iload_n 2, 1, 0, 0, 0) := rfl
theorem r105_5 : Rn 105 (5, [x0, x1, some (.int i)], st, a, h) = Rn 105 (6, [x0, x1, some (.int i)], .int i :: st, a, h) := Rn_go c105_5 rfl
theorem c105_6 : mcode 105 6 = some (.ifCond .lt 22, 3, 0, 0, 0) := rfl
theorem r105_6 : Rn 105 (6, [x0, x1, x2], .int i :: st, a, h) = if i < 0 then Rn 105 (28, [x0, x1, x2], st, a, h) else Rn 105 (9, [x0, x1, x2], st, a, h) := Rn_ifc c105_6 mc_lt rfl rfl
theorem c105_9 : mcode 105 9 = some (.iload_n 2, 1, 0, 0, 0) := rfl
theorem r105_9 : Rn 105 (9, [x0, x1, some (.int i)], st, a, h) = Rn 105 (10, [x0, x1, some (.int i)], .int i :: st, a, h) := Rn_go c105_9 rfl
theorem c105_10 : mcode 105 10 = some (.aload_n 0, 1, 0, 0, 0) := rfl
theorem r105_10 : Rn 105 (10, [some (.ref q), x1, x2], st, a, h) = Rn 105 (11, [some (.ref q), x1, x2], .ref q :: st, a, h) := Rn_go c105_10 rfl
theorem c105_11 : mcode 105 11 = some (.getfield 44, 3, 5, 7, 0) := rfl
theorem r105_11 : Rn 105 (11, [x0, x1, x2], .ref q :: st, a, h) = Kv 105 14 [x0, x1, x2] st a h (mgf h q 5 7) := Rn_getf c105_11 rfl
theorem c105_14 : mcode 105 14 = some (.arraylength, 1, 0, 0, 0) := rfl
theorem r105_14 : Rn 105 (14, [x0, x1, x2], .ref q :: st, a, h) = Ki 105 15 [x0, x1, x2] st a h (mlen h q) := Rn_alen c105_14 rfl
theorem c105_15 : mcode 105 15 = some (.if_icmp .ge 13, 3, 0, 0, 0) := rfl
theorem r105_15 : Rn 105 (15, [x0, x1, x2], .int j :: .int i :: st, a, h) = if i < j then Rn 105 (18, [x0, x1, x2], st, a, h) else Rn 105 (28, [x0, x1, x2], st, a, h) := Rn_icmpn c105_15 mc_ge rfl rfl
theorem c105_18 : mcode 105 18 = some (.aload_n 0, 1, 0, 0, 0) := rfl
theorem r105_18 : Rn 105 (18, [some (.ref q), x1, x2], st, a, h) = Rn 105 (19, [some (.ref q), x1, x2], .ref q :: st, a, h) := Rn_go c105_18 rfl
theorem c105_19 : mcode 105 19 = some (.getfield 44, 3, 5, 7, 0) := rfl
theorem r105_19 : Rn 105 (19, [x0, x1, x2], .ref q :: st, a, h) = Kv 105 22 [x0, x1, x2] st a h (mgf h q 5 7) := Rn_getf c105_19 rfl
theorem c105_22 : mcode 105 22 = some (.iload_n 2, 1, 0, 0, 0) := rfl
theorem r105_22 : Rn 105 (22, [x0, x1, some (.int i)], st, a, h) = Rn 105 (23, [x0, x1, some (.int i)], .int i :: st, a, h) := Rn_go c105_22 rfl
theorem c105_23 : mcode 105 23 = some (.dup2, 1, 0, 0, 0) := rfl
theorem r105_23 : Rn 105 (23, [x0, x1, x2], .int i :: .ref p :: st, a, h) = Rn 105 (24, [x0, x1, x2], .int i :: .ref p :: .int i :: .ref p :: st, a, h) := Rn_go c105_23 rfl
theorem c105_24 : mcode 105 24 = some (.iaload, 1, 0, 0, 0) := rfl
theorem r105_24 : Rn 105 (24, [x0, x1, x2], .int i :: .ref q :: st, a, h) = Ki 105 25 [x0, x1, x2] st a h (mld h q i false) := Rn_iald c105_24 rfl
theorem c105_25 : mcode 105 25 = some (.iconst 1, 1, 0, 0, 0) := rfl
theorem r105_25 : Rn 105 (25, [x0, x1, x2], st, a, h) = Rn 105 (26, [x0, x1, x2], .int (1 : Int32) :: st, a, h) := Rn_go c105_25 rfl
theorem c105_26 : mcode 105 26 = some (.iadd, 1, 0, 0, 0) := rfl
theorem r105_26 : Rn 105 (26, [x0, x1, x2], .int j :: .int i :: st, a, h) = Rn 105 (27, [x0, x1, x2], .int (i + j) :: st, a, h) := Rn_go c105_26 rfl
theorem c105_27 : mcode 105 27 = some (.iastore, 1, 0, 0, 0) := rfl
theorem r105_27 : Rn 105 (27, [x0, x1, x2], .int j :: .int i :: .ref q :: st, a, h) = Kh 105 28 [x0, x1, x2] st a (mias h q i j) := Rn_iast c105_27 rfl
theorem c105_28 : mcode 105 28 = some (.iload_n 1, 1, 0, 0, 0) := rfl
theorem r105_28 : Rn 105 (28, [x0, some (.int i), x2], st, a, h) = Rn 105 (29, [x0, some (.int i), x2], .int i :: st, a, h) := Rn_go c105_28 rfl
theorem c105_29 : mcode 105 29 = some (.ireturn, 1, 0, 0, 0) := rfl
theorem r105_29 : Rn 105 (29, [x0, x1, x2], [.int i], a, h) = some (some (.int i), a, h) := Rn_ireti c105_29
theorem c106_0 : mcode 106 0 = some (.iload_n 1, 1, 0, 0, 0) := rfl
theorem r106_0 : Rn 106 (0, [x0, some (.int i), x2], st, a, h) = Rn 106 (1, [x0, some (.int i), x2], .int i :: st, a, h) := Rn_go c106_0 rfl
theorem c106_1 : mcode 106 1 = some (.iload_n 0, 1, 0, 0, 0) := rfl
theorem r106_1 : Rn 106 (1, [some (.int i), x1, x2], st, a, h) = Rn 106 (2, [some (.int i), x1, x2], .int i :: st, a, h) := Rn_go c106_1 rfl
theorem c106_2 : mcode 106 2 = some (.if_icmp .gt 12, 3, 0, 0, 0) := rfl
theorem r106_2 : Rn 106 (2, [x0, x1, x2], .int j :: .int i :: st, a, h) = if j < i then Rn 106 (14, [x0, x1, x2], st, a, h) else Rn 106 (5, [x0, x1, x2], st, a, h) := Rn_icmp c106_2 mc_gt rfl rfl
theorem c106_5 : mcode 106 5 = some (.iload_n 0, 1, 0, 0, 0) := rfl
theorem r106_5 : Rn 106 (5, [some (.int i), x1, x2], st, a, h) = Rn 106 (6, [some (.int i), x1, x2], .int i :: st, a, h) := Rn_go c106_5 rfl
theorem c106_6 : mcode 106 6 = some (.iload_n 2, 1, 0, 0, 0) := rfl
theorem r106_6 : Rn 106 (6, [x0, x1, some (.int i)], st, a, h) = Rn 106 (7, [x0, x1, some (.int i)], .int i :: st, a, h) := Rn_go c106_6 rfl
theorem c106_7 : mcode 106 7 = some (.if_icmp .gt 7, 3, 0, 0, 0) := rfl
theorem r106_7 : Rn 106 (7, [x0, x1, x2], .int j :: .int i :: st, a, h) = if j < i then Rn 106 (14, [x0, x1, x2], st, a, h) else Rn 106 (10, [x0, x1, x2], st, a, h) := Rn_icmp c106_7 mc_gt rfl rfl
theorem c106_10 : mcode 106 10 = some (.iconst 1, 1, 0, 0, 0) := rfl
theorem r106_10 : Rn 106 (10, [x0, x1, x2], st, a, h) = Rn 106 (11, [x0, x1, x2], .int (1 : Int32) :: st, a, h) := Rn_go c106_10 rfl
theorem c106_11 : mcode 106 11 = some (.goto 4, 3, 0, 0, 0) := rfl
theorem r106_11 : Rn 106 (11, [x0, x1, x2], st, a, h) = Rn 106 (15, [x0, x1, x2], st, a, h) := Rn_goto c106_11 rfl
theorem c106_14 : mcode 106 14 = some (.iconst 0, 1, 0, 0, 0) := rfl
theorem r106_14 : Rn 106 (14, [x0, x1, x2], st, a, h) = Rn 106 (15, [x0, x1, x2], .int (0 : Int32) :: st, a, h) := Rn_go c106_14 rfl
theorem c106_15 : mcode 106 15 = some (.ireturn, 1, 1, 0, 0) := rfl
theorem r106_15 : Rn 106 (15, [x0, x1, x2], [.int i], a, h) = if mrt 1 i = true then some (some (.int i), a, h) else none := Rn_iretz c106_15
theorem c107_0 : mcode 107 0 = some (.iconst 0, 1, 0, 0, 0) := rfl
theorem r107_0 : Rn 107 (0, [x0], st, a, h) = Rn 107 (1, [x0], .int (0 : Int32) :: st, a, h) := Rn_go c107_0 rfl
theorem c107_1 : mcode 107 1 = some (.iload_n 0, 1, 0, 0, 0) := rfl
theorem r107_1 : Rn 107 (1, [some (.int i)], st, a, h) = Rn 107 (2, [some (.int i)], .int i :: st, a, h) := Rn_go c107_1 rfl
theorem c107_2 : mcode 107 2 = some (.if_icmp .gt 13, 3, 0, 0, 0) := rfl
theorem r107_2 : Rn 107 (2, [x0], .int j :: .int i :: st, a, h) = if j < i then Rn 107 (15, [x0], st, a, h) else Rn 107 (5, [x0], st, a, h) := Rn_icmp c107_2 mc_gt rfl rfl
theorem c107_5 : mcode 107 5 = some (.iload_n 0, 1, 0, 0, 0) := rfl
theorem r107_5 : Rn 107 (5, [some (.int i)], st, a, h) = Rn 107 (6, [some (.int i)], .int i :: st, a, h) := Rn_go c107_5 rfl
theorem c107_6 : mcode 107 6 = some (.bipush 8, 2, 0, 0, 0) := rfl
theorem r107_6 : Rn 107 (6, [x0], st, a, h) = Rn 107 (8, [x0], .int (8 : Int32) :: st, a, h) := Rn_go c107_6 rfl
theorem c107_8 : mcode 107 8 = some (.if_icmp .ge 7, 3, 0, 0, 0) := rfl
theorem r107_8 : Rn 107 (8, [x0], .int j :: .int i :: st, a, h) = if i < j then Rn 107 (11, [x0], st, a, h) else Rn 107 (15, [x0], st, a, h) := Rn_icmpn c107_8 mc_ge rfl rfl
theorem c107_11 : mcode 107 11 = some (.iconst 1, 1, 0, 0, 0) := rfl
theorem r107_11 : Rn 107 (11, [x0], st, a, h) = Rn 107 (12, [x0], .int (1 : Int32) :: st, a, h) := Rn_go c107_11 rfl
theorem c107_12 : mcode 107 12 = some (.goto 4, 3, 0, 0, 0) := rfl
theorem r107_12 : Rn 107 (12, [x0], st, a, h) = Rn 107 (16, [x0], st, a, h) := Rn_goto c107_12 rfl
theorem c107_15 : mcode 107 15 = some (.iconst 0, 1, 0, 0, 0) := rfl
theorem r107_15 : Rn 107 (15, [x0], st, a, h) = Rn 107 (16, [x0], .int (0 : Int32) :: st, a, h) := Rn_go c107_15 rfl
theorem c107_16 : mcode 107 16 = some (.ireturn, 1, 1, 0, 0) := rfl
theorem r107_16 : Rn 107 (16, [x0], [.int i], a, h) = if mrt 1 i = true then some (some (.int i), a, h) else none := Rn_iretz c107_16
theorem c108_0 : mcode 108 0 = some (.iconst 0, 1, 0, 0, 0) := rfl
theorem r108_0 : Rn 108 (0, [x0], st, a, h) = Rn 108 (1, [x0], .int (0 : Int32) :: st, a, h) := Rn_go c108_0 rfl
theorem c108_1 : mcode 108 1 = some (.iload_n 0, 1, 0, 0, 0) := rfl
theorem r108_1 : Rn 108 (1, [some (.int i)], st, a, h) = Rn 108 (2, [some (.int i)], .int i :: st, a, h) := Rn_go c108_1 rfl
theorem c108_2 : mcode 108 2 = some (.if_icmp .gt 12, 3, 0, 0, 0) := rfl
theorem r108_2 : Rn 108 (2, [x0], .int j :: .int i :: st, a, h) = if j < i then Rn 108 (14, [x0], st, a, h) else Rn 108 (5, [x0], st, a, h) := Rn_icmp c108_2 mc_gt rfl rfl
theorem c108_5 : mcode 108 5 = some (.iload_n 0, 1, 0, 0, 0) := rfl
theorem r108_5 : Rn 108 (5, [some (.int i)], st, a, h) = Rn 108 (6, [some (.int i)], .int i :: st, a, h) := Rn_go c108_5 rfl
theorem c108_6 : mcode 108 6 = some (.iconst 3, 1, 0, 0, 0) := rfl
theorem r108_6 : Rn 108 (6, [x0], st, a, h) = Rn 108 (7, [x0], .int (3 : Int32) :: st, a, h) := Rn_go c108_6 rfl
theorem c108_7 : mcode 108 7 = some (.if_icmp .ge 7, 3, 0, 0, 0) := rfl
theorem r108_7 : Rn 108 (7, [x0], .int j :: .int i :: st, a, h) = if i < j then Rn 108 (10, [x0], st, a, h) else Rn 108 (14, [x0], st, a, h) := Rn_icmpn c108_7 mc_ge rfl rfl
theorem c108_10 : mcode 108 10 = some (.iconst 1, 1, 0, 0, 0) := rfl
theorem r108_10 : Rn 108 (10, [x0], st, a, h) = Rn 108 (11, [x0], .int (1 : Int32) :: st, a, h) := Rn_go c108_10 rfl
theorem c108_11 : mcode 108 11 = some (.goto 4, 3, 0, 0, 0) := rfl
theorem r108_11 : Rn 108 (11, [x0], st, a, h) = Rn 108 (15, [x0], st, a, h) := Rn_goto c108_11 rfl
theorem c108_14 : mcode 108 14 = some (.iconst 0, 1, 0, 0, 0) := rfl
theorem r108_14 : Rn 108 (14, [x0], st, a, h) = Rn 108 (15, [x0], .int (0 : Int32) :: st, a, h) := Rn_go c108_14 rfl
theorem c108_15 : mcode 108 15 = some (.ireturn, 1, 1, 0, 0) := rfl
theorem r108_15 : Rn 108 (15, [x0], [.int i], a, h) = if mrt 1 i = true then some (some (.int i), a, h) else none := Rn_iretz c108_15
theorem c109_0 : mcode 109 0 = some (.iconst 0, 1, 0, 0, 0) := rfl
theorem r109_0 : Rn 109 (0, [x0], st, a, h) = Rn 109 (1, [x0], .int (0 : Int32) :: st, a, h) := Rn_go c109_0 rfl
theorem c109_1 : mcode 109 1 = some (.iload_n 0, 1, 0, 0, 0) := rfl
theorem r109_1 : Rn 109 (1, [some (.int i)], st, a, h) = Rn 109 (2, [some (.int i)], .int i :: st, a, h) := Rn_go c109_1 rfl
theorem c109_2 : mcode 109 2 = some (.if_icmp .gt 13, 3, 0, 0, 0) := rfl
theorem r109_2 : Rn 109 (2, [x0], .int j :: .int i :: st, a, h) = if j < i then Rn 109 (15, [x0], st, a, h) else Rn 109 (5, [x0], st, a, h) := Rn_icmp c109_2 mc_gt rfl rfl
theorem c109_5 : mcode 109 5 = some (.iload_n 0, 1, 0, 0, 0) := rfl
theorem r109_5 : Rn 109 (5, [some (.int i)], st, a, h) = Rn 109 (6, [some (.int i)], .int i :: st, a, h) := Rn_go c109_5 rfl
theorem c109_6 : mcode 109 6 = some (.bipush 7, 2, 0, 0, 0) := rfl
theorem r109_6 : Rn 109 (6, [x0], st, a, h) = Rn 109 (8, [x0], .int (7 : Int32) :: st, a, h) := Rn_go c109_6 rfl
theorem c109_8 : mcode 109 8 = some (.if_icmp .ge 7, 3, 0, 0, 0) := rfl
theorem r109_8 : Rn 109 (8, [x0], .int j :: .int i :: st, a, h) = if i < j then Rn 109 (11, [x0], st, a, h) else Rn 109 (15, [x0], st, a, h) := Rn_icmpn c109_8 mc_ge rfl rfl
theorem c109_11 : mcode 109 11 = some (.iconst 1, 1, 0, 0, 0) := rfl
theorem r109_11 : Rn 109 (11, [x0], st, a, h) = Rn 109 (12, [x0], .int (1 : Int32) :: st, a, h) := Rn_go c109_11 rfl
theorem c109_12 : mcode 109 12 = some (.goto 4, 3, 0, 0, 0) := rfl
theorem r109_12 : Rn 109 (12, [x0], st, a, h) = Rn 109 (16, [x0], st, a, h) := Rn_goto c109_12 rfl
theorem c109_15 : mcode 109 15 = some (.iconst 0, 1, 0, 0, 0) := rfl
theorem r109_15 : Rn 109 (15, [x0], st, a, h) = Rn 109 (16, [x0], .int (0 : Int32) :: st, a, h) := Rn_go c109_15 rfl
theorem c109_16 : mcode 109 16 = some (.ireturn, 1, 1, 0, 0) := rfl
theorem r109_16 : Rn 109 (16, [x0], [.int i], a, h) = if mrt 1 i = true then some (some (.int i), a, h) else none := Rn_iretz c109_16
theorem c110_0 : mcode 110 0 = some (.iconst 0, 1, 0, 0, 0) := rfl
theorem r110_0 : Rn 110 (0, [x0], st, a, h) = Rn 110 (1, [x0], .int (0 : Int32) :: st, a, h) := Rn_go c110_0 rfl
theorem c110_1 : mcode 110 1 = some (.iload_n 0, 1, 0, 0, 0) := rfl
theorem r110_1 : Rn 110 (1, [some (.int i)], st, a, h) = Rn 110 (2, [some (.int i)], .int i :: st, a, h) := Rn_go c110_1 rfl
theorem c110_2 : mcode 110 2 = some (.if_icmp .gt 13, 3, 0, 0, 0) := rfl
theorem r110_2 : Rn 110 (2, [x0], .int j :: .int i :: st, a, h) = if j < i then Rn 110 (15, [x0], st, a, h) else Rn 110 (5, [x0], st, a, h) := Rn_icmp c110_2 mc_gt rfl rfl
theorem c110_5 : mcode 110 5 = some (.iload_n 0, 1, 0, 0, 0) := rfl
theorem r110_5 : Rn 110 (5, [some (.int i)], st, a, h) = Rn 110 (6, [some (.int i)], .int i :: st, a, h) := Rn_go c110_5 rfl
theorem c110_6 : mcode 110 6 = some (.bipush 10, 2, 0, 0, 0) := rfl
theorem r110_6 : Rn 110 (6, [x0], st, a, h) = Rn 110 (8, [x0], .int (10 : Int32) :: st, a, h) := Rn_go c110_6 rfl
theorem c110_8 : mcode 110 8 = some (.if_icmp .ge 7, 3, 0, 0, 0) := rfl
theorem r110_8 : Rn 110 (8, [x0], .int j :: .int i :: st, a, h) = if i < j then Rn 110 (11, [x0], st, a, h) else Rn 110 (15, [x0], st, a, h) := Rn_icmpn c110_8 mc_ge rfl rfl
theorem c110_11 : mcode 110 11 = some (.iconst 1, 1, 0, 0, 0) := rfl
theorem r110_11 : Rn 110 (11, [x0], st, a, h) = Rn 110 (12, [x0], .int (1 : Int32) :: st, a, h) := Rn_go c110_11 rfl
theorem c110_12 : mcode 110 12 = some (.goto 4, 3, 0, 0, 0) := rfl
theorem r110_12 : Rn 110 (12, [x0], st, a, h) = Rn 110 (16, [x0], st, a, h) := Rn_goto c110_12 rfl
theorem c110_15 : mcode 110 15 = some (.iconst 0, 1, 0, 0, 0) := rfl
theorem r110_15 : Rn 110 (15, [x0], st, a, h) = Rn 110 (16, [x0], .int (0 : Int32) :: st, a, h) := Rn_go c110_15 rfl
theorem c110_16 : mcode 110 16 = some (.ireturn, 1, 1, 0, 0) := rfl
theorem r110_16 : Rn 110 (16, [x0], [.int i], a, h) = if mrt 1 i = true then some (some (.int i), a, h) else none := Rn_iretz c110_16
theorem c111_0 : mcode 111 0 = some (.iload_n 0, 1, 0, 0, 0) := rfl
theorem r111_0 : Rn 111 (0, [some (.int i)], st, a, h) = Rn 111 (1, [some (.int i)], .int i :: st, a, h) := Rn_go c111_0 rfl
theorem c111_1 : mcode 111 1 = some (.tableswitch 35 0 2 #[27, 30, 33], 27, 0, 0, 0) := rfl
theorem r111_1_0 : Rn 111 (1, [x0], .int (0 : Int32) :: st, a, h) = Rn 111 (28, [x0], st, a, h) := Rn_swAt c111_1 rfl rfl
theorem r111_1_1 : Rn 111 (1, [x0], .int (1 : Int32) :: st, a, h) = Rn 111 (31, [x0], st, a, h) := Rn_swAt c111_1 rfl rfl
theorem r111_1_2 : Rn 111 (1, [x0], .int (2 : Int32) :: st, a, h) = Rn 111 (34, [x0], st, a, h) := Rn_swAt c111_1 rfl rfl
theorem r111_1_d (hi : i.toInt < 0 ∨ 2 < i.toInt) : Rn 111 (1, [x0], .int i :: st, a, h) = Rn 111 (36, [x0], st, a, h) := Rn_swAt c111_1 (if_pos hi) rfl
theorem c111_28 : mcode 111 28 = some (.bipush 6, 2, 0, 0, 0) := rfl
theorem r111_28 : Rn 111 (28, [x0], st, a, h) = Rn 111 (30, [x0], .int (6 : Int32) :: st, a, h) := Rn_go c111_28 rfl
theorem c111_30 : mcode 111 30 = some (.ireturn, 1, 0, 0, 0) := rfl
theorem r111_30 : Rn 111 (30, [x0], [.int i], a, h) = some (some (.int i), a, h) := Rn_ireti c111_30
theorem c111_31 : mcode 111 31 = some (.bipush 7, 2, 0, 0, 0) := rfl
theorem r111_31 : Rn 111 (31, [x0], st, a, h) = Rn 111 (33, [x0], .int (7 : Int32) :: st, a, h) := Rn_go c111_31 rfl
theorem c111_33 : mcode 111 33 = some (.ireturn, 1, 0, 0, 0) := rfl
theorem r111_33 : Rn 111 (33, [x0], [.int i], a, h) = some (some (.int i), a, h) := Rn_ireti c111_33
theorem c111_34 : mcode 111 34 = some (.iconst 2, 1, 0, 0, 0) := rfl
theorem r111_34 : Rn 111 (34, [x0], st, a, h) = Rn 111 (35, [x0], .int (2 : Int32) :: st, a, h) := Rn_go c111_34 rfl
theorem c111_35 : mcode 111 35 = some (.ireturn, 1, 0, 0, 0) := rfl
theorem r111_35 : Rn 111 (35, [x0], [.int i], a, h) = some (some (.int i), a, h) := Rn_ireti c111_35
theorem c111_36 : mcode 111 36 = some (.sipush 999, 3, 0, 0, 0) := rfl
theorem r111_36 : Rn 111 (36, [x0], st, a, h) = Rn 111 (39, [x0], .int (999 : Int32) :: st, a, h) := Rn_go c111_36 rfl
theorem c111_39 : mcode 111 39 = some (.ireturn, 1, 0, 0, 0) := rfl
theorem r111_39 : Rn 111 (39, [x0], [.int i], a, h) = some (some (.int i), a, h) := Rn_ireti c111_39
theorem c112_0 : mcode 112 0 = some (.iload_n 0, 1, 0, 0, 0) := rfl
theorem r112_0 : Rn 112 (0, [some (.int i), x1, x2, x3], st, a, h) = Rn 112 (1, [some (.int i), x1, x2, x3], .int i :: st, a, h) := Rn_go c112_0 rfl
theorem c112_1 : mcode 112 1 = some (.istore_n 2, 1, 0, 0, 0) := rfl
theorem r112_1 : Rn 112 (1, [x0, x1, x2, x3], .int i :: st, a, h) = Nl x1 (Rn 112 (2, [x0, x1, some (.int i), x3], st, a, h)) := Rn_st1 (k := 2) (v := .int i) x1 c112_1 rfl rfl rfl rfl
theorem c112_2 : mcode 112 2 = some (.iconst 0, 1, 0, 0, 0) := rfl
theorem r112_2 : Rn 112 (2, [x0, x1, x2, x3], st, a, h) = Rn 112 (3, [x0, x1, x2, x3], .int (0 : Int32) :: st, a, h) := Rn_go c112_2 rfl
theorem c112_3 : mcode 112 3 = some (.istore_n 3, 1, 0, 0, 0) := rfl
theorem r112_3 : Rn 112 (3, [x0, x1, x2, x3], .int i :: st, a, h) = Nl x2 (Rn 112 (4, [x0, x1, x2, some (.int i)], st, a, h)) := Rn_st1 (k := 3) (v := .int i) x2 c112_3 rfl rfl rfl rfl
theorem c112_4 : mcode 112 4 = some (.iload_n 3, 1, 0, 0, 0) := rfl
theorem r112_4 : Rn 112 (4, [x0, x1, x2, some (.int i)], st, a, h) = Rn 112 (5, [x0, x1, x2, some (.int i)], .int i :: st, a, h) := Rn_go c112_4 rfl
theorem c112_5 : mcode 112 5 = some (.bipush 7, 2, 0, 0, 0) := rfl
theorem r112_5 : Rn 112 (5, [x0, x1, x2, x3], st, a, h) = Rn 112 (7, [x0, x1, x2, x3], .int (7 : Int32) :: st, a, h) := Rn_go c112_5 rfl
theorem c112_7 : mcode 112 7 = some (.if_icmp .ge 34, 3, 0, 0, 0) := rfl
theorem r112_7 : Rn 112 (7, [x0, x1, x2, x3], .int j :: .int i :: st, a, h) = if i < j then Rn 112 (10, [x0, x1, x2, x3], st, a, h) else Rn 112 (41, [x0, x1, x2, x3], st, a, h) := Rn_icmpn c112_7 mc_ge rfl rfl
theorem c112_10 : mcode 112 10 = some (.iload_n 2, 1, 0, 0, 0) := rfl
theorem r112_10 : Rn 112 (10, [x0, x1, some (.int i), x3], st, a, h) = Rn 112 (11, [x0, x1, some (.int i), x3], .int i :: st, a, h) := Rn_go c112_10 rfl
theorem c112_11 : mcode 112 11 = some (.ifCond .lt 30, 3, 0, 0, 0) := rfl
theorem r112_11 : Rn 112 (11, [x0, x1, x2, x3], .int i :: st, a, h) = if i < 0 then Rn 112 (41, [x0, x1, x2, x3], st, a, h) else Rn 112 (14, [x0, x1, x2, x3], st, a, h) := Rn_ifc c112_11 mc_lt rfl rfl
theorem c112_14 : mcode 112 14 = some (.iload_n 2, 1, 0, 0, 0) := rfl
theorem r112_14 : Rn 112 (14, [x0, x1, some (.int i), x3], st, a, h) = Rn 112 (15, [x0, x1, some (.int i), x3], .int i :: st, a, h) := Rn_go c112_14 rfl
theorem c112_15 : mcode 112 15 = some (.getstatic 255, 3, 0, 0, 0) := rfl
theorem r112_15 : Rn 112 (15, [x0, x1, x2, x3], st, a, h) = Rn 112 (18, [x0, x1, x2, x3], .ref 1300 :: st, a, h) := Rn_go c112_15 rfl
theorem c112_18 : mcode 112 18 = some (.arraylength, 1, 0, 0, 0) := rfl
theorem r112_18 : Rn 112 (18, [x0, x1, x2, x3], .ref q :: st, a, h) = Ki 112 19 [x0, x1, x2, x3] st a h (mlen h q) := Rn_alen c112_18 rfl
theorem c112_19 : mcode 112 19 = some (.if_icmp .ge 22, 3, 0, 0, 0) := rfl
theorem r112_19 : Rn 112 (19, [x0, x1, x2, x3], .int j :: .int i :: st, a, h) = if i < j then Rn 112 (22, [x0, x1, x2, x3], st, a, h) else Rn 112 (41, [x0, x1, x2, x3], st, a, h) := Rn_icmpn c112_19 mc_ge rfl rfl
theorem c112_22 : mcode 112 22 = some (.iload_n 2, 1, 0, 0, 0) := rfl
theorem r112_22 : Rn 112 (22, [x0, x1, some (.int i), x3], st, a, h) = Rn 112 (23, [x0, x1, some (.int i), x3], .int i :: st, a, h) := Rn_go c112_22 rfl
theorem c112_23 : mcode 112 23 = some (.iload_n 1, 1, 0, 0, 0) := rfl
theorem r112_23 : Rn 112 (23, [x0, some (.int i), x2, x3], st, a, h) = Rn 112 (24, [x0, some (.int i), x2, x3], .int i :: st, a, h) := Rn_go c112_23 rfl
theorem c112_24 : mcode 112 24 = some (.if_icmp .ne 5, 3, 0, 0, 0) := rfl
theorem r112_24 : Rn 112 (24, [x0, x1, x2, x3], .int j :: .int i :: st, a, h) = if i = j then Rn 112 (27, [x0, x1, x2, x3], st, a, h) else Rn 112 (29, [x0, x1, x2, x3], st, a, h) := Rn_icmpn c112_24 mc_ne rfl rfl
theorem c112_27 : mcode 112 27 = some (.iconst 1, 1, 0, 0, 0) := rfl
theorem r112_27 : Rn 112 (27, [x0, x1, x2, x3], st, a, h) = Rn 112 (28, [x0, x1, x2, x3], .int (1 : Int32) :: st, a, h) := Rn_go c112_27 rfl
theorem c112_28 : mcode 112 28 = some (.ireturn, 1, 1, 0, 0) := rfl
theorem r112_28 : Rn 112 (28, [x0, x1, x2, x3], [.int i], a, h) = if mrt 1 i = true then some (some (.int i), a, h) else none := Rn_iretz c112_28
theorem c112_29 : mcode 112 29 = some (.getstatic 255, 3, 0, 0, 0) := rfl
theorem r112_29 : Rn 112 (29, [x0, x1, x2, x3], st, a, h) = Rn 112 (32, [x0, x1, x2, x3], .ref 1300 :: st, a, h) := Rn_go c112_29 rfl
theorem c112_32 : mcode 112 32 = some (.iload_n 2, 1, 0, 0, 0) := rfl
theorem r112_32 : Rn 112 (32, [x0, x1, some (.int i), x3], st, a, h) = Rn 112 (33, [x0, x1, some (.int i), x3], .int i :: st, a, h) := Rn_go c112_32 rfl
theorem c112_33 : mcode 112 33 = some (.iaload, 1, 0, 0, 0) := rfl
theorem r112_33 : Rn 112 (33, [x0, x1, x2, x3], .int i :: .ref q :: st, a, h) = Ki 112 34 [x0, x1, x2, x3] st a h (mld h q i false) := Rn_iald c112_33 rfl
theorem c112_34 : mcode 112 34 = some (.istore_n 2, 1, 0, 0, 0) := rfl
theorem r112_34 : Rn 112 (34, [x0, x1, x2, x3], .int i :: st, a, h) = Nl x1 (Rn 112 (35, [x0, x1, some (.int i), x3], st, a, h)) := Rn_st1 (k := 2) (v := .int i) x1 c112_34 rfl rfl rfl rfl
theorem c112_35 : mcode 112 35 = some (.iinc 3 1, 3, 0, 0, 0) := rfl
theorem r112_35 : Rn 112 (35, [x0, x1, x2, some (.int i)], st, a, h) = Nl x2 (Rn 112 (38, [x0, x1, x2, some (.int (i + (1 : Int32)))], st, a, h)) := Rn_st1 (k := 3) (v := .int (i + (1 : Int32))) x2 c112_35 rfl rfl rfl rfl
theorem c112_38 : mcode 112 38 = some (.goto (-34), 3, 0, 0, 0) := rfl
theorem r112_38 : Rn 112 (38, [x0, x1, x2, x3], st, a, h) = Rn 112 (4, [x0, x1, x2, x3], st, a, h) := Rn_goto c112_38 rfl
theorem c112_41 : mcode 112 41 = some (.iconst 0, 1, 0, 0, 0) := rfl
theorem r112_41 : Rn 112 (41, [x0, x1, x2, x3], st, a, h) = Rn 112 (42, [x0, x1, x2, x3], .int (0 : Int32) :: st, a, h) := Rn_go c112_41 rfl
theorem c112_42 : mcode 112 42 = some (.ireturn, 1, 1, 0, 0) := rfl
theorem r112_42 : Rn 112 (42, [x0, x1, x2, x3], [.int i], a, h) = if mrt 1 i = true then some (some (.int i), a, h) else none := Rn_iretz c112_42
theorem c113_0 : mcode 113 0 = some (.lconst 1, 1, 0, 0, 0) := rfl
theorem r113_0 : Rn 113 (0, [x0, x1, x2, x3, x4, x5], st, a, h) = Rn 113 (1, [x0, x1, x2, x3, x4, x5], .long (1 : Int64) :: st, a, h) := Rn_go c113_0 rfl
theorem c113_1 : mcode 113 1 = some (.lstore_n 3, 1, 0, 0, 0) := rfl
theorem r113_1 : Rn 113 (1, [x0, x1, x2, x3, x4, x5], .long l :: st, a, h) = Nl x2 (Rn 113 (2, [x0, x1, x2, some (.long l), none, x5], st, a, h)) := Rn_st2 (k := 3) (v := .long l) x2 c113_1 rfl rfl rfl rfl
theorem c113_2 : mcode 113 2 = some (.iconst 0, 1, 0, 0, 0) := rfl
theorem r113_2 : Rn 113 (2, [x0, x1, x2, x3, x4, x5], st, a, h) = Rn 113 (3, [x0, x1, x2, x3, x4, x5], .int (0 : Int32) :: st, a, h) := Rn_go c113_2 rfl
theorem c113_3 : mcode 113 3 = some (.istore 5, 2, 0, 0, 0) := rfl
theorem r113_3 : Rn 113 (3, [x0, x1, x2, x3, x4, x5], .int i :: st, a, h) = Nl x4 (Rn 113 (5, [x0, x1, x2, x3, x4, some (.int i)], st, a, h)) := Rn_st1 (k := 5) (v := .int i) x4 c113_3 rfl rfl rfl rfl
theorem c113_5 : mcode 113 5 = some (.iload 5, 2, 0, 0, 0) := rfl
theorem r113_5 : Rn 113 (5, [x0, x1, x2, x3, x4, some (.int i)], st, a, h) = Rn 113 (7, [x0, x1, x2, x3, x4, some (.int i)], .int i :: st, a, h) := Rn_go c113_5 rfl
theorem c113_7 : mcode 113 7 = some (.iload_n 2, 1, 0, 0, 0) := rfl
theorem r113_7 : Rn 113 (7, [x0, x1, some (.int i), x3, x4, x5], st, a, h) = Rn 113 (8, [x0, x1, some (.int i), x3, x4, x5], .int i :: st, a, h) := Rn_go c113_7 rfl
theorem c113_8 : mcode 113 8 = some (.if_icmp .ge 13, 3, 0, 0, 0) := rfl
theorem r113_8 : Rn 113 (8, [x0, x1, x2, x3, x4, x5], .int j :: .int i :: st, a, h) = if i < j then Rn 113 (11, [x0, x1, x2, x3, x4, x5], st, a, h) else Rn 113 (21, [x0, x1, x2, x3, x4, x5], st, a, h) := Rn_icmpn c113_8 mc_ge rfl rfl
theorem c113_11 : mcode 113 11 = some (.lload_n 3, 1, 0, 0, 0) := rfl
theorem r113_11 : Rn 113 (11, [x0, x1, x2, some (.long l), x4, x5], st, a, h) = Rn 113 (12, [x0, x1, x2, some (.long l), x4, x5], .long l :: st, a, h) := Rn_go c113_11 rfl
theorem c113_12 : mcode 113 12 = some (.lload_n 0, 1, 0, 0, 0) := rfl
theorem r113_12 : Rn 113 (12, [some (.long l), x1, x2, x3, x4, x5], st, a, h) = Rn 113 (13, [some (.long l), x1, x2, x3, x4, x5], .long l :: st, a, h) := Rn_go c113_12 rfl
theorem c113_13 : mcode 113 13 = some (.lmul, 1, 0, 0, 0) := rfl
theorem r113_13 : Rn 113 (13, [x0, x1, x2, x3, x4, x5], .long m :: .long l :: st, a, h) = Rn 113 (14, [x0, x1, x2, x3, x4, x5], .long (l * m) :: st, a, h) := Rn_go c113_13 rfl
theorem c113_14 : mcode 113 14 = some (.lstore_n 3, 1, 0, 0, 0) := rfl
theorem r113_14 : Rn 113 (14, [x0, x1, x2, x3, x4, x5], .long l :: st, a, h) = Nl x2 (Rn 113 (15, [x0, x1, x2, some (.long l), none, x5], st, a, h)) := Rn_st2 (k := 3) (v := .long l) x2 c113_14 rfl rfl rfl rfl
theorem c113_15 : mcode 113 15 = some (.iinc 5 1, 3, 0, 0, 0) := rfl
theorem r113_15 : Rn 113 (15, [x0, x1, x2, x3, x4, some (.int i)], st, a, h) = Nl x4 (Rn 113 (18, [x0, x1, x2, x3, x4, some (.int (i + (1 : Int32)))], st, a, h)) := Rn_st1 (k := 5) (v := .int (i + (1 : Int32))) x4 c113_15 rfl rfl rfl rfl
theorem c113_18 : mcode 113 18 = some (.goto (-13), 3, 0, 0, 0) := rfl
theorem r113_18 : Rn 113 (18, [x0, x1, x2, x3, x4, x5], st, a, h) = Rn 113 (5, [x0, x1, x2, x3, x4, x5], st, a, h) := Rn_goto c113_18 rfl
theorem c113_21 : mcode 113 21 = some (.lload_n 3, 1, 0, 0, 0) := rfl
theorem r113_21 : Rn 113 (21, [x0, x1, x2, some (.long l), x4, x5], st, a, h) = Rn 113 (22, [x0, x1, x2, some (.long l), x4, x5], .long l :: st, a, h) := Rn_go c113_21 rfl
theorem c113_22 : mcode 113 22 = some (.lreturn, 1, 0, 0, 0) := rfl
theorem r113_22 : Rn 113 (22, [x0, x1, x2, x3, x4, x5], [.long l], a, h) = some (some (.long l), a, h) := Rn_act c113_22
theorem c114_0 : mcode 114 0 = some (.aload_n 0, 1, 0, 0, 0) := rfl
theorem r114_0 : Rn 114 (0, [some (.ref q)], st, a, h) = Rn 114 (1, [some (.ref q)], .ref q :: st, a, h) := Rn_go c114_0 rfl
theorem c114_1 : mcode 114 1 = some (.getfield 16, 3, 5, 1, 0) := rfl
theorem r114_1 : Rn 114 (1, [x0], .ref q :: st, a, h) = Kv 114 4 [x0] st a h (mgf h q 5 1) := Rn_getf c114_1 rfl
theorem c114_4 : mcode 114 4 = some (.aload_n 0, 1, 0, 0, 0) := rfl
theorem r114_4 : Rn 114 (4, [some (.ref q)], st, a, h) = Rn 114 (5, [some (.ref q)], .ref q :: st, a, h) := Rn_go c114_4 rfl
theorem c114_5 : mcode 114 5 = some (.getfield 12, 3, 5, 0, 0) := rfl
theorem r114_5 : Rn 114 (5, [x0], .ref q :: st, a, h) = Kv 114 8 [x0] st a h (mgf h q 5 0) := Rn_getf c114_5 rfl
theorem c114_8 : mcode 114 8 = some (.invokevirtual 201, 3, 35, 1, 4) := rfl
theorem r114_8 : Rn 114 (8, [x0], [v0, .ref q], a, h) = if mis h q 4 = true then Bk 114 11 [x0] [] (Ec 35 [.ref q, v0] a h) else none := Rn_call1 c114_8 rfl (Nat.le_of_ble_eq_true rfl) rfl rfl (Nat.le_of_ble_eq_true rfl)
theorem c114_11 : mcode 114 11 = some (.return_, 1, 0, 0, 0) := rfl
theorem r114_11 : Rn 114 (11, [x0], [], a, h) = some (none, a, h) := Rn_act c114_11
theorem c115_0 : mcode 115 0 = some (.iconst (-1), 1, 0, 0, 0) := rfl
theorem r115_0 : Rn 115 (0, [x0, x1, x2, x3, x4, x5, x6, x7, x8], st, a, h) = Rn 115 (1, [x0, x1, x2, x3, x4, x5, x6, x7, x8], .int (-1 : Int32) :: st, a, h) := Rn_go c115_0 rfl
theorem c115_1 : mcode 115 1 = some (.istore 5, 2, 0, 0, 0) := rfl
theorem r115_1 : Rn 115 (1, [x0, x1, x2, x3, x4, x5, x6, x7, x8], .int i :: st, a, h) = Nl x4 (Rn 115 (3, [x0, x1, x2, x3, x4, some (.int i), x6, x7, x8], st, a, h)) := Rn_st1 (k := 5) (v := .int i) x4 c115_1 rfl rfl rfl rfl
theorem c115_3 : mcode 115 3 = some (.iconst (-1), 1, 0, 0, 0) := rfl
theorem r115_3 : Rn 115 (3, [x0, x1, x2, x3, x4, x5, x6, x7, x8], st, a, h) = Rn 115 (4, [x0, x1, x2, x3, x4, x5, x6, x7, x8], .int (-1 : Int32) :: st, a, h) := Rn_go c115_3 rfl
theorem c115_4 : mcode 115 4 = some (.istore 6, 2, 0, 0, 0) := rfl
theorem r115_4 : Rn 115 (4, [x0, x1, x2, x3, x4, x5, x6, x7, x8], .int i :: st, a, h) = Nl x5 (Rn 115 (6, [x0, x1, x2, x3, x4, x5, some (.int i), x7, x8], st, a, h)) := Rn_st1 (k := 6) (v := .int i) x5 c115_4 rfl rfl rfl rfl
theorem c115_6 : mcode 115 6 = some (.iload_n 2, 1, 0, 0, 0) := rfl
theorem r115_6 : Rn 115 (6, [x0, x1, some (.int i), x3, x4, x5, x6, x7, x8], st, a, h) = Rn 115 (7, [x0, x1, some (.int i), x3, x4, x5, x6, x7, x8], .int i :: st, a, h) := Rn_go c115_6 rfl
theorem c115_7 : mcode 115 7 = some (.invokestatic 115, 3, 111, 1, 0) := rfl
theorem r115_7 : Rn 115 (7, [x0, x1, x2, x3, x4, x5, x6, x7, x8], [v0], a, h) = Bk 115 10 [x0, x1, x2, x3, x4, x5, x6, x7, x8] [] (Ec 111 [v0] a h) := Rn_call0 c115_7 (fun z => nomatch z) rfl (Nat.le_of_ble_eq_true rfl) rfl rfl (Nat.le_of_ble_eq_true rfl)
theorem c115_10 : mcode 115 10 = some (.istore 7, 2, 0, 0, 0) := rfl
theorem r115_10 : Rn 115 (10, [x0, x1, x2, x3, x4, x5, x6, x7, x8], .int i :: st, a, h) = Nl x6 (Rn 115 (12, [x0, x1, x2, x3, x4, x5, x6, some (.int i), x8], st, a, h)) := Rn_st1 (k := 7) (v := .int i) x6 c115_10 rfl rfl rfl rfl
theorem c115_12 : mcode 115 12 = some (.iconst 0, 1, 0, 0, 0) := rfl
theorem r115_12 : Rn 115 (12, [x0, x1, x2, x3, x4, x5, x6, x7, x8], st, a, h) = Rn 115 (13, [x0, x1, x2, x3, x4, x5, x6, x7, x8], .int (0 : Int32) :: st, a, h) := Rn_go c115_12 rfl
theorem c115_13 : mcode 115 13 = some (.istore 8, 2, 0, 0, 0) := rfl
theorem r115_13 : Rn 115 (13, [x0, x1, x2, x3, x4, x5, x6, x7, x8], .int i :: st, a, h) = Nl x7 (Rn 115 (15, [x0, x1, x2, x3, x4, x5, x6, x7, some (.int i)], st, a, h)) := Rn_st1 (k := 8) (v := .int i) x7 c115_13 rfl rfl rfl rfl
theorem c115_15 : mcode 115 15 = some (.iload 8, 2, 0, 0, 0) := rfl
theorem r115_15 : Rn 115 (15, [x0, x1, x2, x3, x4, x5, x6, x7, some (.int i)], st, a, h) = Rn 115 (17, [x0, x1, x2, x3, x4, x5, x6, x7, some (.int i)], .int i :: st, a, h) := Rn_go c115_15 rfl
theorem c115_17 : mcode 115 17 = some (.iload 7, 2, 0, 0, 0) := rfl
theorem r115_17 : Rn 115 (17, [x0, x1, x2, x3, x4, x5, x6, some (.int i), x8], st, a, h) = Rn 115 (19, [x0, x1, x2, x3, x4, x5, x6, some (.int i), x8], .int i :: st, a, h) := Rn_go c115_17 rfl
theorem c115_19 : mcode 115 19 = some (.if_icmp .gt 62, 3, 0, 0, 0) := rfl
theorem r115_19 : Rn 115 (19, [x0, x1, x2, x3, x4, x5, x6, x7, x8], .int j :: .int i :: st, a, h) = if j < i then Rn 115 (81, [x0, x1, x2, x3, x4, x5, x6, x7, x8], st, a, h) else Rn 115 (22, [x0, x1, x2, x3, x4, x5, x6, x7, x8], st, a, h) := Rn_icmp c115_19 mc_gt rfl rfl
theorem c115_22 : mcode 115 22 = some (.aload_n 0, 1, 0, 0, 0) := rfl
theorem r115_22 : Rn 115 (22, [some (.ref q), x1, x2, x3, x4, x5, x6, x7, x8], st, a, h) = Rn 115 (23, [some (.ref q), x1, x2, x3, x4, x5, x6, x7, x8], .ref q :: st, a, h) := Rn_go c115_22 rfl
theorem c115_23 : mcode 115 23 = some (.invokevirtual 143, 3, 114, 0, 5) := rfl
theorem r115_23 : Rn 115 (23, [x0, x1, x2, x3, x4, x5, x6, x7, x8], [.ref q], a, h) = if mis h q 5 = true then Bk 115 26 [x0, x1, x2, x3, x4, x5, x6, x7, x8] [] (Ec 114 [.ref q] a h) else none := Rn_call1 c115_23 rfl (Nat.le_of_ble_eq_true rfl) rfl rfl (Nat.le_of_ble_eq_true rfl)
theorem c115_26 : mcode 115 26 = some (.aload_n 0, 1, 0, 0, 0) := rfl
theorem r115_26 : Rn 115 (26, [some (.ref q), x1, x2, x3, x4, x5, x6, x7, x8], st, a, h) = Rn 115 (27, [some (.ref q), x1, x2, x3, x4, x5, x6, x7, x8], .ref q :: st, a, h) := Rn_go c115_26 rfl
theorem c115_27 : mcode 115 27 = some (.getfield 16, 3, 5, 1, 0) := rfl
theorem r115_27 : Rn 115 (27, [x0, x1, x2, x3, x4, x5, x6, x7, x8], .ref q :: st, a, h) = Kv 115 30 [x0, x1, x2, x3, x4, x5, x6, x7, x8] st a h (mgf h q 5 1) := Rn_getf c115_27 rfl
theorem c115_30 : mcode 115 30 = some (.iload_n 1, 1, 0, 0, 0) := rfl
theorem r115_30 : Rn 115 (30, [x0, some (.int i), x2, x3, x4, x5, x6, x7, x8], st, a, h) = Rn 115 (31, [x0, some (.int i), x2, x3, x4, x5, x6, x7, x8], .int i :: st, a, h) := Rn_go c115_30 rfl
theorem c115_31 : mcode 115 31 = some (.iload_n 2, 1, 0, 0, 0) := rfl
theorem r115_31 : Rn 115 (31, [x0, x1, some (.int i), x3, x4, x5, x6, x7, x8], st, a, h) = Rn 115 (32, [x0, x1, some (.int i), x3, x4, x5, x6, x7, x8], .int i :: st, a, h) := Rn_go c115_31 rfl
theorem c115_32 : mcode 115 32 = some (.iload 8, 2, 0, 0, 0) := rfl
theorem r115_32 : Rn 115 (32, [x0, x1, x2, x3, x4, x5, x6, x7, some (.int i)], st, a, h) = Rn 115 (34, [x0, x1, x2, x3, x4, x5, x6, x7, some (.int i)], .int i :: st, a, h) := Rn_go c115_32 rfl
theorem c115_34 : mcode 115 34 = some (.invokevirtual 118, 3, 40, 3, 4) := rfl
theorem r115_34 : Rn 115 (34, [x0, x1, x2, x3, x4, x5, x6, x7, x8], [v2, v1, v0, .ref q], a, h) = if mis h q 4 = true then Bk 115 37 [x0, x1, x2, x3, x4, x5, x6, x7, x8] [] (Ec 40 [.ref q, v0, v1, v2] a h) else none := Rn_call1 c115_34 rfl (Nat.le_of_ble_eq_true rfl) rfl rfl (Nat.le_of_ble_eq_true rfl)
theorem c115_37 : mcode 115 37 = some (.aload_n 0, 1, 0, 0, 0) := rfl
theorem r115_37 : Rn 115 (37, [some (.ref q), x1, x2, x3, x4, x5, x6, x7, x8], st, a, h) = Rn 115 (38, [some (.ref q), x1, x2, x3, x4, x5, x6, x7, x8], .ref q :: st, a, h) := Rn_go c115_37 rfl
theorem c115_38 : mcode 115 38 = some (.getfield 16, 3, 5, 1, 0) := rfl
theorem r115_38 : Rn 115 (38, [x0, x1, x2, x3, x4, x5, x6, x7, x8], .ref q :: st, a, h) = Kv 115 41 [x0, x1, x2, x3, x4, x5, x6, x7, x8] st a h (mgf h q 5 1) := Rn_getf c115_38 rfl
theorem c115_41 : mcode 115 41 = some (.iload 4, 2, 0, 0, 0) := rfl
theorem r115_41 : Rn 115 (41, [x0, x1, x2, x3, some (.int i), x5, x6, x7, x8], st, a, h) = Rn 115 (43, [x0, x1, x2, x3, some (.int i), x5, x6, x7, x8], .int i :: st, a, h) := Rn_go c115_41 rfl
theorem c115_43 : mcode 115 43 = some (.invokevirtual 126, 3, 53, 1, 4) := rfl
theorem r115_43 : Rn 115 (43, [x0, x1, x2, x3, x4, x5, x6, x7, x8], [v0, .ref q], a, h) = if mis h q 4 = true then Bk 115 46 [x0, x1, x2, x3, x4, x5, x6, x7, x8] [] (Ec 53 [.ref q, v0] a h) else none := Rn_call1 c115_43 rfl (Nat.le_of_ble_eq_true rfl) rfl rfl (Nat.le_of_ble_eq_true rfl)
theorem c115_46 : mcode 115 46 = some (.aload_n 0, 1, 0, 0, 0) := rfl
theorem r115_46 : Rn 115 (46, [some (.ref q), x1, x2, x3, x4, x5, x6, x7, x8], st, a, h) = Rn 115 (47, [some (.ref q), x1, x2, x3, x4, x5, x6, x7, x8], .ref q :: st, a, h) := Rn_go c115_46 rfl
theorem c115_47 : mcode 115 47 = some (.getfield 16, 3, 5, 1, 0) := rfl
theorem r115_47 : Rn 115 (47, [x0, x1, x2, x3, x4, x5, x6, x7, x8], .ref q :: st, a, h) = Kv 115 50 [x0, x1, x2, x3, x4, x5, x6, x7, x8] st a h (mgf h q 5 1) := Rn_getf c115_47 rfl
theorem c115_50 : mcode 115 50 = some (.iload_n 1, 1, 0, 0, 0) := rfl
theorem r115_50 : Rn 115 (50, [x0, some (.int i), x2, x3, x4, x5, x6, x7, x8], st, a, h) = Rn 115 (51, [x0, some (.int i), x2, x3, x4, x5, x6, x7, x8], .int i :: st, a, h) := Rn_go c115_50 rfl
theorem c115_51 : mcode 115 51 = some (.iload_n 3, 1, 0, 0, 0) := rfl
theorem r115_51 : Rn 115 (51, [x0, x1, x2, some (.int i), x4, x5, x6, x7, x8], st, a, h) = Rn 115 (52, [x0, x1, x2, some (.int i), x4, x5, x6, x7, x8], .int i :: st, a, h) := Rn_go c115_51 rfl
theorem c115_52 : mcode 115 52 = some (.invokevirtual 112, 3, 39, 2, 4) := rfl
theorem r115_52 : Rn 115 (52, [x0, x1, x2, x3, x4, x5, x6, x7, x8], [v1, v0, .ref q], a, h) = if mis h q 4 = true then Bk 115 55 [x0, x1, x2, x3, x4, x5, x6, x7, x8] [] (Ec 39 [.ref q, v0, v1] a h) else none := Rn_call1 c115_52 rfl (Nat.le_of_ble_eq_true rfl) rfl rfl (Nat.le_of_ble_eq_true rfl)
theorem c115_55 : mcode 115 55 = some (.iload 6, 2, 0, 0, 0) := rfl
theorem r115_55 : Rn 115 (55, [x0, x1, x2, x3, x4, x5, some (.int i), x7, x8], st, a, h) = Rn 115 (57, [x0, x1, x2, x3, x4, x5, some (.int i), x7, x8], .int i :: st, a, h) := Rn_go c115_55 rfl
theorem c115_57 : mcode 115 57 = some (.if_icmp .le 18, 3, 0, 0, 0) := rfl
theorem r115_57 : Rn 115 (57, [x0, x1, x2, x3, x4, x5, x6, x7, x8], .int j :: .int i :: st, a, h) = if j < i then Rn 115 (60, [x0, x1, x2, x3, x4, x5, x6, x7, x8], st, a, h) else Rn 115 (75, [x0, x1, x2, x3, x4, x5, x6, x7, x8], st, a, h) := Rn_icmpn c115_57 mc_le rfl rfl
theorem c115_60 : mcode 115 60 = some (.aload_n 0, 1, 0, 0, 0) := rfl
theorem r115_60 : Rn 115 (60, [some (.ref q), x1, x2, x3, x4, x5, x6, x7, x8], st, a, h) = Rn 115 (61, [some (.ref q), x1, x2, x3, x4, x5, x6, x7, x8], .ref q :: st, a, h) := Rn_go c115_60 rfl
theorem c115_61 : mcode 115 61 = some (.getfield 16, 3, 5, 1, 0) := rfl
theorem r115_61 : Rn 115 (61, [x0, x1, x2, x3, x4, x5, x6, x7, x8], .ref q :: st, a, h) = Kv 115 64 [x0, x1, x2, x3, x4, x5, x6, x7, x8] st a h (mgf h q 5 1) := Rn_getf c115_61 rfl
theorem c115_64 : mcode 115 64 = some (.iload_n 1, 1, 0, 0, 0) := rfl
theorem r115_64 : Rn 115 (64, [x0, some (.int i), x2, x3, x4, x5, x6, x7, x8], st, a, h) = Rn 115 (65, [x0, some (.int i), x2, x3, x4, x5, x6, x7, x8], .int i :: st, a, h) := Rn_go c115_64 rfl
theorem c115_65 : mcode 115 65 = some (.iload_n 3, 1, 0, 0, 0) := rfl
theorem r115_65 : Rn 115 (65, [x0, x1, x2, some (.int i), x4, x5, x6, x7, x8], st, a, h) = Rn 115 (66, [x0, x1, x2, some (.int i), x4, x5, x6, x7, x8], .int i :: st, a, h) := Rn_go c115_65 rfl
theorem c115_66 : mcode 115 66 = some (.invokevirtual 112, 3, 39, 2, 4) := rfl
theorem r115_66 : Rn 115 (66, [x0, x1, x2, x3, x4, x5, x6, x7, x8], [v1, v0, .ref q], a, h) = if mis h q 4 = true then Bk 115 69 [x0, x1, x2, x3, x4, x5, x6, x7, x8] [] (Ec 39 [.ref q, v0, v1] a h) else none := Rn_call1 c115_66 rfl (Nat.le_of_ble_eq_true rfl) rfl rfl (Nat.le_of_ble_eq_true rfl)
theorem c115_69 : mcode 115 69 = some (.istore 6, 2, 0, 0, 0) := rfl
theorem r115_69 : Rn 115 (69, [x0, x1, x2, x3, x4, x5, x6, x7, x8], .int i :: st, a, h) = Nl x5 (Rn 115 (71, [x0, x1, x2, x3, x4, x5, some (.int i), x7, x8], st, a, h)) := Rn_st1 (k := 6) (v := .int i) x5 c115_69 rfl rfl rfl rfl
theorem c115_71 : mcode 115 71 = some (.iload 8, 2, 0, 0, 0) := rfl
theorem r115_71 : Rn 115 (71, [x0, x1, x2, x3, x4, x5, x6, x7, some (.int i)], st, a, h) = Rn 115 (73, [x0, x1, x2, x3, x4, x5, x6, x7, some (.int i)], .int i :: st, a, h) := Rn_go c115_71 rfl
theorem c115_73 : mcode 115 73 = some (.istore 5, 2, 0, 0, 0) := rfl
theorem r115_73 : Rn 115 (73, [x0, x1, x2, x3, x4, x5, x6, x7, x8], .int i :: st, a, h) = Nl x4 (Rn 115 (75, [x0, x1, x2, x3, x4, some (.int i), x6, x7, x8], st, a, h)) := Rn_st1 (k := 5) (v := .int i) x4 c115_73 rfl rfl rfl rfl
theorem c115_75 : mcode 115 75 = some (.iinc 8 1, 3, 0, 0, 0) := rfl
theorem r115_75 : Rn 115 (75, [x0, x1, x2, x3, x4, x5, x6, x7, some (.int i)], st, a, h) = Nl x7 (Rn 115 (78, [x0, x1, x2, x3, x4, x5, x6, x7, some (.int (i + (1 : Int32)))], st, a, h)) := Rn_st1 (k := 8) (v := .int (i + (1 : Int32))) x7 c115_75 rfl rfl rfl rfl
theorem c115_78 : mcode 115 78 = some (.goto (-63), 3, 0, 0, 0) := rfl
theorem r115_78 : Rn 115 (78, [x0, x1, x2, x3, x4, x5, x6, x7, x8], st, a, h) = Rn 115 (15, [x0, x1, x2, x3, x4, x5, x6, x7, x8], st, a, h) := Rn_goto c115_78 rfl
theorem c115_81 : mcode 115 81 = some (.iload 5, 2, 0, 0, 0) := rfl
theorem r115_81 : Rn 115 (81, [x0, x1, x2, x3, x4, some (.int i), x6, x7, x8], st, a, h) = Rn 115 (83, [x0, x1, x2, x3, x4, some (.int i), x6, x7, x8], .int i :: st, a, h) := Rn_go c115_81 rfl
theorem c115_83 : mcode 115 83 = some (.ireturn, 1, 0, 0, 0) := rfl
theorem r115_83 : Rn 115 (83, [x0, x1, x2, x3, x4, x5, x6, x7, x8], [.int i], a, h) = some (some (.int i), a, h) := Rn_ireti c115_83
theorem c116_0 : mcode 116 0 = some (.aload_n 0, 1, 0, 0, 0) := rfl
theorem r116_0 : Rn 116 (0, [some (.ref q), x1, x2, x3], st, a, h) = Rn 116 (1, [some (.ref q), x1, x2, x3], .ref q :: st, a, h) := Rn_go c116_0 rfl
theorem c116_1 : mcode 116 1 = some (.invokevirtual 143, 3, 114, 0, 5) := rfl
theorem r116_1 : Rn 116 (1, [x0, x1, x2, x3], [.ref q], a, h) = if mis h q 5 = true then Bk 116 4 [x0, x1, x2, x3] [] (Ec 114 [.ref q] a h) else none := Rn_call1 c116_1 rfl (Nat.le_of_ble_eq_true rfl) rfl rfl (Nat.le_of_ble_eq_true rfl)
theorem c116_4 : mcode 116 4 = some (.aload_n 0, 1, 0, 0, 0) := rfl
theorem r116_4 : Rn 116 (4, [some (.ref q), x1, x2, x3], st, a, h) = Rn 116 (5, [some (.ref q), x1, x2, x3], .ref q :: st, a, h) := Rn_go c116_4 rfl
theorem c116_5 : mcode 116 5 = some (.getfield 16, 3, 5, 1, 0) := rfl
theorem r116_5 : Rn 116 (5, [x0, x1, x2, x3], .ref q :: st, a, h) = Kv 116 8 [x0, x1, x2, x3] st a h (mgf h q 5 1) := Rn_getf c116_5 rfl
theorem c116_8 : mcode 116 8 = some (.iload_n 1, 1, 0, 0, 0) := rfl
theorem r116_8 : Rn 116 (8, [x0, some (.int i), x2, x3], st, a, h) = Rn 116 (9, [x0, some (.int i), x2, x3], .int i :: st, a, h) := Rn_go c116_8 rfl
theorem c116_9 : mcode 116 9 = some (.putfield 258, 3, 4, 7, 0) := rfl
theorem r116_9 : Rn 116 (9, [x0, x1, x2, x3], .int i :: .ref q :: st, a, h) = Kh 116 12 [x0, x1, x2, x3] st a (mpf h q 4 7 (.int i)) := Rn_putfi c116_9 rfl rfl
theorem c116_12 : mcode 116 12 = some (.aload_n 0, 1, 0, 0, 0) := rfl
theorem r116_12 : Rn 116 (12, [some (.ref q), x1, x2, x3], st, a, h) = Rn 116 (13, [some (.ref q), x1, x2, x3], .ref q :: st, a, h) := Rn_go c116_12 rfl
theorem c116_13 : mcode 116 13 = some (.getfield 16, 3, 5, 1, 0) := rfl
theorem r116_13 : Rn 116 (13, [x0, x1, x2, x3], .ref q :: st, a, h) = Kv 116 16 [x0, x1, x2, x3] st a h (mgf h q 5 1) := Rn_getf c116_13 rfl
theorem c116_16 : mcode 116 16 = some (.iload_n 3, 1, 0, 0, 0) := rfl
theorem r116_16 : Rn 116 (16, [x0, x1, x2, some (.int i)], st, a, h) = Rn 116 (17, [x0, x1, x2, some (.int i)], .int i :: st, a, h) := Rn_go c116_16 rfl
theorem c116_17 : mcode 116 17 = some (.invokevirtual 126, 3, 53, 1, 4) := rfl
theorem r116_17 : Rn 116 (17, [x0, x1, x2, x3], [v0, .ref q], a, h) = if mis h q 4 = true then Bk 116 20 [x0, x1, x2, x3] [] (Ec 53 [.ref q, v0] a h) else none := Rn_call1 c116_17 rfl (Nat.le_of_ble_eq_true rfl) rfl rfl (Nat.le_of_ble_eq_true rfl)
theorem c116_20 : mcode 116 20 = some (.aload_n 0, 1, 0, 0, 0) := rfl
theorem r116_20 : Rn 116 (20, [some (.ref q), x1, x2, x3], st, a, h) = Rn 116 (21, [some (.ref q), x1, x2, x3], .ref q :: st, a, h) := Rn_go c116_20 rfl
theorem c116_21 : mcode 116 21 = some (.getfield 16, 3, 5, 1, 0) := rfl
theorem r116_21 : Rn 116 (21, [x0, x1, x2, x3], .ref q :: st, a, h) = Kv 116 24 [x0, x1, x2, x3] st a h (mgf h q 5 1) := Rn_getf c116_21 rfl
theorem c116_24 : mcode 116 24 = some (.iload_n 2, 1, 0, 0, 0) := rfl
theorem r116_24 : Rn 116 (24, [x0, x1, some (.int i), x3], st, a, h) = Rn 116 (25, [x0, x1, some (.int i), x3], .int i :: st, a, h) := Rn_go c116_24 rfl
theorem c116_25 : mcode 116 25 = some (.invokevirtual 147, 3, 45, 1, 4) := rfl
theorem r116_25 : Rn 116 (25, [x0, x1, x2, x3], [v0, .ref q], a, h) = if mis h q 4 = true then Bk 116 28 [x0, x1, x2, x3] [] (Ec 45 [.ref q, v0] a h) else none := Rn_call1 c116_25 rfl (Nat.le_of_ble_eq_true rfl) rfl rfl (Nat.le_of_ble_eq_true rfl)
theorem c116_28 : mcode 116 28 = some (.ireturn, 1, 1, 0, 0) := rfl
theorem r116_28 : Rn 116 (28, [x0, x1, x2, x3], [.int i], a, h) = if mrt 1 i = true then some (some (.int i), a, h) else none := Rn_iretz c116_28
theorem c117_0 : mcode 117 0 = some (.iload_n 1, 1, 0, 0, 0) := rfl
theorem r117_0 : Rn 117 (0, [x0, some (.int i)], st, a, h) = Rn 117 (1, [x0, some (.int i)], .int i :: st, a, h) := Rn_go c117_0 rfl
theorem c117_1 : mcode 117 1 = some (.ifCond .lt 21, 3, 0, 0, 0) := rfl
theorem r117_1 : Rn 117 (1, [x0, x1], .int i :: st, a, h) = if i < 0 then Rn 117 (22, [x0, x1], st, a, h) else Rn 117 (4, [x0, x1], st, a, h) := Rn_ifc c117_1 mc_lt rfl rfl
theorem c117_4 : mcode 117 4 = some (.iload_n 1, 1, 0, 0, 0) := rfl
theorem r117_4 : Rn 117 (4, [x0, some (.int i)], st, a, h) = Rn 117 (5, [x0, some (.int i)], .int i :: st, a, h) := Rn_go c117_4 rfl
theorem c117_5 : mcode 117 5 = some (.aload_n 0, 1, 0, 0, 0) := rfl
theorem r117_5 : Rn 117 (5, [some (.ref q), x1], st, a, h) = Rn 117 (6, [some (.ref q), x1], .ref q :: st, a, h) := Rn_go c117_5 rfl
theorem c117_6 : mcode 117 6 = some (.getfield 40, 3, 5, 6, 0) := rfl
theorem r117_6 : Rn 117 (6, [x0, x1], .ref q :: st, a, h) = Kv 117 9 [x0, x1] st a h (mgf h q 5 6) := Rn_getf c117_6 rfl
theorem c117_9 : mcode 117 9 = some (.arraylength, 1, 0, 0, 0) := rfl
theorem r117_9 : Rn 117 (9, [x0, x1], .ref q :: st, a, h) = Ki 117 10 [x0, x1] st a h (mlen h q) := Rn_alen c117_9 rfl
theorem c117_10 : mcode 117 10 = some (.if_icmp .ge 12, 3, 0, 0, 0) := rfl
theorem r117_10 : Rn 117 (10, [x0, x1], .int j :: .int i :: st, a, h) = if i < j then Rn 117 (13, [x0, x1], st, a, h) else Rn 117 (22, [x0, x1], st, a, h) := Rn_icmpn c117_10 mc_ge rfl rfl
theorem c117_13 : mcode 117 13 = some (.aload_n 0, 1, 0, 0, 0) := rfl
theorem r117_13 : Rn 117 (13, [some (.ref q), x1], st, a, h) = Rn 117 (14, [some (.ref q), x1], .ref q :: st, a, h) := Rn_go c117_13 rfl
theorem c117_14 : mcode 117 14 = some (.getfield 40, 3, 5, 6, 0) := rfl
theorem r117_14 : Rn 117 (14, [x0, x1], .ref q :: st, a, h) = Kv 117 17 [x0, x1] st a h (mgf h q 5 6) := Rn_getf c117_14 rfl
theorem c117_17 : mcode 117 17 = some (.iload_n 1, 1, 0, 0, 0) := rfl
theorem r117_17 : Rn 117 (17, [x0, some (.int i)], st, a, h) = Rn 117 (18, [x0, some (.int i)], .int i :: st, a, h) := Rn_go c117_17 rfl
theorem c117_18 : mcode 117 18 = some (.aaload, 1, 0, 0, 0) := rfl
theorem r117_18 : Rn 117 (18, [x0, x1], .int i :: .ref q :: st, a, h) = Kv 117 19 [x0, x1] st a h (mald h q i) := Rn_aald c117_18 rfl
theorem c117_19 : mcode 117 19 = some (.goto 4, 3, 0, 0, 0) := rfl
theorem r117_19 : Rn 117 (19, [x0, x1], st, a, h) = Rn 117 (23, [x0, x1], st, a, h) := Rn_goto c117_19 rfl
theorem c117_22 : mcode 117 22 = some (.aconst_null, 1, 0, 0, 0) := rfl
theorem r117_22 : Rn 117 (22, [x0, x1], st, a, h) = Rn 117 (23, [x0, x1], .null :: st, a, h) := Rn_go c117_22 rfl
theorem c117_23 : mcode 117 23 = some (.areturn, 1, 0, 0, 0) := rfl
theorem r117_23 : Rn 117 (23, [x0, x1], [.ref q], a, h) = some (some (.ref q), a, h) := Rn_act c117_23
theorem r117_23n : Rn 117 (23, [x0, x1], [.null], a, h) = some (some .null, a, h) := Rn_act c117_23
theorem c118_0 : mcode 118 0 = some (.aload_n 0, 1, 0, 0, 0) := rfl
theorem r118_0 : Rn 118 (0, [some (.ref q), x1, x2], st, a, h) = Rn 118 (1, [some (.ref q), x1, x2], .ref q :: st, a, h) := Rn_go c118_0 rfl
theorem c118_1 : mcode 118 1 = some (.iload_n 1, 1, 0, 0, 0) := rfl
theorem r118_1 : Rn 118 (1, [x0, some (.int i), x2], st, a, h) = Rn 118 (2, [x0, some (.int i), x2], .int i :: st, a, h) := Rn_go c118_1 rfl
theorem c118_2 : mcode 118 2 = some (.invokevirtual 164, 3, 117, 1, 5) := rfl
theorem r118_2 : Rn 118 (2, [x0, x1, x2], [v0, .ref q], a, h) = if mis h q 5 = true then Bk 118 5 [x0, x1, x2] [] (Ec 117 [.ref q, v0] a h) else none := Rn_call1 c118_2 rfl (Nat.le_of_ble_eq_true rfl) rfl rfl (Nat.le_of_ble_eq_true rfl)
theorem c118_5 : mcode 118 5 = some (.astore_n 2, 1, 0, 0, 0) := rfl
theorem r118_5 : Rn 118 (5, [x0, x1, x2], .ref q :: st, a, h) = Nl x1 (Rn 118 (6, [x0, x1, some (.ref q)], st, a, h)) := Rn_st1 (k := 2) (v := .ref q) x1 c118_5 rfl rfl rfl rfl
theorem r118_5n : Rn 118 (5, [x0, x1, x2], .null :: st, a, h) = Nl x1 (Rn 118 (6, [x0, x1, some (.null)], st, a, h)) := Rn_st1 (k := 2) (v := .null) x1 c118_5 rfl rfl rfl rfl
theorem c118_6 : mcode 118 6 = some (.aload_n 2, 1, 0, 0, 0) := rfl
theorem r118_6 : Rn 118 (6, [x0, x1, some (.ref q)], st, a, h) = Rn 118 (7, [x0, x1, some (.ref q)], .ref q :: st, a, h) := Rn_go c118_6 rfl
theorem r118_6n : Rn 118 (6, [x0, x1, some .null], st, a, h) = Rn 118 (7, [x0, x1, some .null], .null :: st, a, h) := Rn_go c118_6 rfl
theorem c118_7 : mcode 118 7 = some (.ifnonnull 6, 3, 0, 0, 0) := rfl
theorem r118_7n : Rn 118 (7, [x0, x1, x2], .null :: st, a, h) = Rn 118 (10, [x0, x1, x2], st, a, h) := Rn_go c118_7 rfl
theorem r118_7 : Rn 118 (7, [x0, x1, x2], .ref q :: st, a, h) = Rn 118 (13, [x0, x1, x2], st, a, h) := Rn_go c118_7 rfl
theorem c118_10 : mcode 118 10 = some (.ldc 60, 2, 0, 0, -1000001) := rfl
theorem r118_10 : Rn 118 (10, [x0, x1, x2], st, a, h) = Rn 118 (12, [x0, x1, x2], .int (-1000001 : Int32) :: st, a, h) := Rn_go c118_10 rfl
theorem c118_12 : mcode 118 12 = some (.ireturn, 1, 0, 0, 0) := rfl
theorem r118_12 : Rn 118 (12, [x0, x1, x2], [.int i], a, h) = some (some (.int i), a, h) := Rn_ireti c118_12
theorem c118_13 : mcode 118 13 = some (.aload_n 2, 1, 0, 0, 0) := rfl
theorem r118_13 : Rn 118 (13, [x0, x1, some (.ref q)], st, a, h) = Rn 118 (14, [x0, x1, some (.ref q)], .ref q :: st, a, h) := Rn_go c118_13 rfl
theorem r118_13n : Rn 118 (13, [x0, x1, some .null], st, a, h) = Rn 118 (14, [x0, x1, some .null], .null :: st, a, h) := Rn_go c118_13 rfl
theorem c118_14 : mcode 118 14 = some (.invokevirtual 231, 3, 1, 0, 0) := rfl
theorem r118_14 : Rn 118 (14, [x0, x1, x2], [.ref q], a, h) = if mis h q 0 = true then Bk 118 17 [x0, x1, x2] [] (Ec 1 [.ref q] a h) else none := Rn_call1 c118_14 rfl (Nat.le_of_ble_eq_true rfl) rfl rfl (Nat.le_of_ble_eq_true rfl)
theorem c118_17 : mcode 118 17 = some (.ifCond .eq 8, 3, 0, 0, 0) := rfl
theorem r118_17 : Rn 118 (17, [x0, x1, x2], .int i :: st, a, h) = if i = 0 then Rn 118 (25, [x0, x1, x2], st, a, h) else Rn 118 (20, [x0, x1, x2], st, a, h) := Rn_ifc c118_17 mc_eq rfl rfl
theorem c118_20 : mcode 118 20 = some (.ldc 214, 2, 0, 0, -1000006) := rfl
theorem r118_20 : Rn 118 (20, [x0, x1, x2], st, a, h) = Rn 118 (22, [x0, x1, x2], .int (-1000006 : Int32) :: st, a, h) := Rn_go c118_20 rfl
theorem c118_22 : mcode 118 22 = some (.goto 4, 3, 0, 0, 0) := rfl
theorem r118_22 : Rn 118 (22, [x0, x1, x2], st, a, h) = Rn 118 (26, [x0, x1, x2], st, a, h) := Rn_goto c118_22 rfl
theorem c118_25 : mcode 118 25 = some (.iconst 0, 1, 0, 0, 0) := rfl
theorem r118_25 : Rn 118 (25, [x0, x1, x2], st, a, h) = Rn 118 (26, [x0, x1, x2], .int (0 : Int32) :: st, a, h) := Rn_go c118_25 rfl
theorem c118_26 : mcode 118 26 = some (.ireturn, 1, 0, 0, 0) := rfl
theorem r118_26 : Rn 118 (26, [x0, x1, x2], [.int i], a, h) = some (some (.int i), a, h) := Rn_ireti c118_26
theorem c119_0 : mcode 119 0 = some (.aload_n 0, 1, 0, 0, 0) := rfl
theorem r119_0 : Rn 119 (0, [some (.ref q), x1, x2, x3, x4], st, a, h) = Rn 119 (1, [some (.ref q), x1, x2, x3, x4], .ref q :: st, a, h) := Rn_go c119_0 rfl
theorem c119_1 : mcode 119 1 = some (.iload_n 1, 1, 0, 0, 0) := rfl
theorem r119_1 : Rn 119 (1, [x0, some (.int i), x2, x3, x4], st, a, h) = Rn 119 (2, [x0, some (.int i), x2, x3, x4], .int i :: st, a, h) := Rn_go c119_1 rfl
theorem c119_2 : mcode 119 2 = some (.invokevirtual 172, 3, 118, 1, 5) := rfl
theorem r119_2 : Rn 119 (2, [x0, x1, x2, x3, x4], [v0, .ref q], a, h) = if mis h q 5 = true then Bk 119 5 [x0, x1, x2, x3, x4] [] (Ec 118 [.ref q, v0] a h) else none := Rn_call1 c119_2 rfl (Nat.le_of_ble_eq_true rfl) rfl rfl (Nat.le_of_ble_eq_true rfl)
theorem c119_5 : mcode 119 5 = some (.istore 4, 2, 0, 0, 0) := rfl
theorem r119_5 : Rn 119 (5, [x0, x1, x2, x3, x4], .int i :: st, a, h) = Nl x3 (Rn 119 (7, [x0, x1, x2, x3, some (.int i)], st, a, h)) := Rn_st1 (k := 4) (v := .int i) x3 c119_5 rfl rfl rfl rfl
theorem c119_7 : mcode 119 7 = some (.iload 4, 2, 0, 0, 0) := rfl
theorem r119_7 : Rn 119 (7, [x0, x1, x2, x3, some (.int i)], st, a, h) = Rn 119 (9, [x0, x1, x2, x3, some (.int i)], .int i :: st, a, h) := Rn_go c119_7 rfl
theorem c119_9 : mcode 119 9 = some (.ifCond .eq 6, 3, 0, 0, 0) := rfl
theorem r119_9 : Rn 119 (9, [x0, x1, x2, x3, x4], .int i :: st, a, h) = if i = 0 then Rn 119 (15, [x0, x1, x2, x3, x4], st, a, h) else Rn 119 (12, [x0, x1, x2, x3, x4], st, a, h) := Rn_ifc c119_9 mc_eq rfl rfl
theorem c119_12 : mcode 119 12 = some (.iload 4, 2, 0, 0, 0) := rfl
theorem r119_12 : Rn 119 (12, [x0, x1, x2, x3, some (.int i)], st, a, h) = Rn 119 (14, [x0, x1, x2, x3, some (.int i)], .int i :: st, a, h) := Rn_go c119_12 rfl
theorem c119_14 : mcode 119 14 = some (.ireturn, 1, 0, 0, 0) := rfl
theorem r119_14 : Rn 119 (14, [x0, x1, x2, x3, x4], [.int i], a, h) = some (some (.int i), a, h) := Rn_ireti c119_14
theorem c119_15 : mcode 119 15 = some (.aload_n 0, 1, 0, 0, 0) := rfl
theorem r119_15 : Rn 119 (15, [some (.ref q), x1, x2, x3, x4], st, a, h) = Rn 119 (16, [some (.ref q), x1, x2, x3, x4], .ref q :: st, a, h) := Rn_go c119_15 rfl
theorem c119_16 : mcode 119 16 = some (.getfield 12, 3, 5, 0, 0) := rfl
theorem r119_16 : Rn 119 (16, [x0, x1, x2, x3, x4], .ref q :: st, a, h) = Kv 119 19 [x0, x1, x2, x3, x4] st a h (mgf h q 5 0) := Rn_getf c119_16 rfl
theorem c119_19 : mcode 119 19 = some (.iload_n 2, 1, 0, 0, 0) := rfl
theorem r119_19 : Rn 119 (19, [x0, x1, some (.int i), x3, x4], st, a, h) = Rn 119 (20, [x0, x1, some (.int i), x3, x4], .int i :: st, a, h) := Rn_go c119_19 rfl
theorem c119_20 : mcode 119 20 = some (.invokevirtual 109, 3, 36, 1, 4) := rfl
theorem r119_20 : Rn 119 (20, [x0, x1, x2, x3, x4], [v0, .ref q], a, h) = if mis h q 4 = true then Bk 119 23 [x0, x1, x2, x3, x4] [] (Ec 36 [.ref q, v0] a h) else none := Rn_call1 c119_20 rfl (Nat.le_of_ble_eq_true rfl) rfl rfl (Nat.le_of_ble_eq_true rfl)
theorem c119_23 : mcode 119 23 = some (.ifCond .eq 14, 3, 0, 0, 0) := rfl
theorem r119_23 : Rn 119 (23, [x0, x1, x2, x3, x4], .int i :: st, a, h) = if i = 0 then Rn 119 (37, [x0, x1, x2, x3, x4], st, a, h) else Rn 119 (26, [x0, x1, x2, x3, x4], st, a, h) := Rn_ifc c119_23 mc_eq rfl rfl
theorem c119_26 : mcode 119 26 = some (.iload_n 3, 1, 0, 0, 0) := rfl
theorem r119_26 : Rn 119 (26, [x0, x1, x2, some (.int i), x4], st, a, h) = Rn 119 (27, [x0, x1, x2, some (.int i), x4], .int i :: st, a, h) := Rn_go c119_26 rfl
theorem c119_27 : mcode 119 27 = some (.invokestatic 53, 3, 108, 1, 0) := rfl
theorem r119_27 : Rn 119 (27, [x0, x1, x2, x3, x4], [v0], a, h) = Bk 119 30 [x0, x1, x2, x3, x4] [] (Ec 108 [v0] a h) := Rn_call0 c119_27 (fun z => nomatch z) rfl (Nat.le_of_ble_eq_true rfl) rfl rfl (Nat.le_of_ble_eq_true rfl)
theorem c119_30 : mcode 119 30 = some (.ifCond .eq 7, 3, 0, 0, 0) := rfl
theorem r119_30 : Rn 119 (30, [x0, x1, x2, x3, x4], .int i :: st, a, h) = if i = 0 then Rn 119 (37, [x0, x1, x2, x3, x4], st, a, h) else Rn 119 (33, [x0, x1, x2, x3, x4], st, a, h) := Rn_ifc c119_30 mc_eq rfl rfl
theorem c119_33 : mcode 119 33 = some (.iconst 0, 1, 0, 0, 0) := rfl
theorem r119_33 : Rn 119 (33, [x0, x1, x2, x3, x4], st, a, h) = Rn 119 (34, [x0, x1, x2, x3, x4], .int (0 : Int32) :: st, a, h) := Rn_go c119_33 rfl
theorem c119_34 : mcode 119 34 = some (.goto 5, 3, 0, 0, 0) := rfl
theorem r119_34 : Rn 119 (34, [x0, x1, x2, x3, x4], st, a, h) = Rn 119 (39, [x0, x1, x2, x3, x4], st, a, h) := Rn_goto c119_34 rfl
theorem c119_37 : mcode 119 37 = some (.ldc 60, 2, 0, 0, -1000001) := rfl
theorem r119_37 : Rn 119 (37, [x0, x1, x2, x3, x4], st, a, h) = Rn 119 (39, [x0, x1, x2, x3, x4], .int (-1000001 : Int32) :: st, a, h) := Rn_go c119_37 rfl
theorem c119_39 : mcode 119 39 = some (.ireturn, 1, 0, 0, 0) := rfl
theorem r119_39 : Rn 119 (39, [x0, x1, x2, x3, x4], [.int i], a, h) = some (some (.int i), a, h) := Rn_ireti c119_39
theorem c120_0 : mcode 120 0 = some (.aload_n 0, 1, 0, 0, 0) := rfl
theorem r120_0 : Rn 120 (0, [some (.ref q), x1, x2, x3, x4, x5, x6], st, a, h) = Rn 120 (1, [some (.ref q), x1, x2, x3, x4, x5, x6], .ref q :: st, a, h) := Rn_go c120_0 rfl
theorem c120_1 : mcode 120 1 = some (.getfield 12, 3, 5, 0, 0) := rfl
theorem r120_1 : Rn 120 (1, [x0, x1, x2, x3, x4, x5, x6], .ref q :: st, a, h) = Kv 120 4 [x0, x1, x2, x3, x4, x5, x6] st a h (mgf h q 5 0) := Rn_getf c120_1 rfl
theorem c120_4 : mcode 120 4 = some (.iload_n 2, 1, 0, 0, 0) := rfl
theorem r120_4 : Rn 120 (4, [x0, x1, some (.int i), x3, x4, x5, x6], st, a, h) = Rn 120 (5, [x0, x1, some (.int i), x3, x4, x5, x6], .int i :: st, a, h) := Rn_go c120_4 rfl
theorem c120_5 : mcode 120 5 = some (.iconst 1, 1, 0, 0, 0) := rfl
theorem r120_5 : Rn 120 (5, [x0, x1, x2, x3, x4, x5, x6], st, a, h) = Rn 120 (6, [x0, x1, x2, x3, x4, x5, x6], .int (1 : Int32) :: st, a, h) := Rn_go c120_5 rfl
theorem c120_6 : mcode 120 6 = some (.invokevirtual 112, 3, 39, 2, 4) := rfl
theorem r120_6 : Rn 120 (6, [x0, x1, x2, x3, x4, x5, x6], [v1, v0, .ref q], a, h) = if mis h q 4 = true then Bk 120 9 [x0, x1, x2, x3, x4, x5, x6] [] (Ec 39 [.ref q, v0, v1] a h) else none := Rn_call1 c120_6 rfl (Nat.le_of_ble_eq_true rfl) rfl rfl (Nat.le_of_ble_eq_true rfl)
theorem c120_9 : mcode 120 9 = some (.istore 5, 2, 0, 0, 0) := rfl
theorem r120_9 : Rn 120 (9, [x0, x1, x2, x3, x4, x5, x6], .int i :: st, a, h) = Nl x4 (Rn 120 (11, [x0, x1, x2, x3, x4, some (.int i), x6], st, a, h)) := Rn_st1 (k := 5) (v := .int i) x4 c120_9 rfl rfl rfl rfl
theorem c120_11 : mcode 120 11 = some (.aload_n 0, 1, 0, 0, 0) := rfl
theorem r120_11 : Rn 120 (11, [some (.ref q), x1, x2, x3, x4, x5, x6], st, a, h) = Rn 120 (12, [some (.ref q), x1, x2, x3, x4, x5, x6], .ref q :: st, a, h) := Rn_go c120_11 rfl
theorem c120_12 : mcode 120 12 = some (.invokevirtual 143, 3, 114, 0, 5) := rfl
theorem r120_12 : Rn 120 (12, [x0, x1, x2, x3, x4, x5, x6], [.ref q], a, h) = if mis h q 5 = true then Bk 120 15 [x0, x1, x2, x3, x4, x5, x6] [] (Ec 114 [.ref q] a h) else none := Rn_call1 c120_12 rfl (Nat.le_of_ble_eq_true rfl) rfl rfl (Nat.le_of_ble_eq_true rfl)
theorem c120_15 : mcode 120 15 = some (.aload_n 0, 1, 0, 0, 0) := rfl
theorem r120_15 : Rn 120 (15, [some (.ref q), x1, x2, x3, x4, x5, x6], st, a, h) = Rn 120 (16, [some (.ref q), x1, x2, x3, x4, x5, x6], .ref q :: st, a, h) := Rn_go c120_15 rfl
theorem c120_16 : mcode 120 16 = some (.getfield 16, 3, 5, 1, 0) := rfl
theorem r120_16 : Rn 120 (16, [x0, x1, x2, x3, x4, x5, x6], .ref q :: st, a, h) = Kv 120 19 [x0, x1, x2, x3, x4, x5, x6] st a h (mgf h q 5 1) := Rn_getf c120_16 rfl
theorem c120_19 : mcode 120 19 = some (.iload_n 2, 1, 0, 0, 0) := rfl
theorem r120_19 : Rn 120 (19, [x0, x1, some (.int i), x3, x4, x5, x6], st, a, h) = Rn 120 (20, [x0, x1, some (.int i), x3, x4, x5, x6], .int i :: st, a, h) := Rn_go c120_19 rfl
theorem c120_20 : mcode 120 20 = some (.iconst 3, 1, 0, 0, 0) := rfl
theorem r120_20 : Rn 120 (20, [x0, x1, x2, x3, x4, x5, x6], st, a, h) = Rn 120 (21, [x0, x1, x2, x3, x4, x5, x6], .int (3 : Int32) :: st, a, h) := Rn_go c120_20 rfl
theorem c120_21 : mcode 120 21 = some (.iload 4, 2, 0, 0, 0) := rfl
theorem r120_21 : Rn 120 (21, [x0, x1, x2, x3, some (.int i), x5, x6], st, a, h) = Rn 120 (23, [x0, x1, x2, x3, some (.int i), x5, x6], .int i :: st, a, h) := Rn_go c120_21 rfl
theorem c120_23 : mcode 120 23 = some (.invokevirtual 118, 3, 40, 3, 4) := rfl
theorem r120_23 : Rn 120 (23, [x0, x1, x2, x3, x4, x5, x6], [v2, v1, v0, .ref q], a, h) = if mis h q 4 = true then Bk 120 26 [x0, x1, x2, x3, x4, x5, x6] [] (Ec 40 [.ref q, v0, v1, v2] a h) else none := Rn_call1 c120_23 rfl (Nat.le_of_ble_eq_true rfl) rfl rfl (Nat.le_of_ble_eq_true rfl)
theorem c120_26 : mcode 120 26 = some (.iconst 0, 1, 0, 0, 0) := rfl
theorem r120_26 : Rn 120 (26, [x0, x1, x2, x3, x4, x5, x6], st, a, h) = Rn 120 (27, [x0, x1, x2, x3, x4, x5, x6], .int (0 : Int32) :: st, a, h) := Rn_go c120_26 rfl
theorem c120_27 : mcode 120 27 = some (.istore 6, 2, 0, 0, 0) := rfl
theorem r120_27 : Rn 120 (27, [x0, x1, x2, x3, x4, x5, x6], .int i :: st, a, h) = Nl x5 (Rn 120 (29, [x0, x1, x2, x3, x4, x5, some (.int i)], st, a, h)) := Rn_st1 (k := 6) (v := .int i) x5 c120_27 rfl rfl rfl rfl
theorem c120_29 : mcode 120 29 = some (.aload_n 1, 1, 0, 0, 0) := rfl
theorem r120_29 : Rn 120 (29, [x0, some (.ref q), x2, x3, x4, x5, x6], st, a, h) = Rn 120 (30, [x0, some (.ref q), x2, x3, x4, x5, x6], .ref q :: st, a, h) := Rn_go c120_29 rfl
theorem r120_29n : Rn 120 (29, [x0, some .null, x2, x3, x4, x5, x6], st, a, h) = Rn 120 (30, [x0, some .null, x2, x3, x4, x5, x6], .null :: st, a, h) := Rn_go c120_29 rfl
theorem c120_30 : mcode 120 30 = some (.ifnull 52, 3, 0, 0, 0) := rfl
theorem r120_30n : Rn 120 (30, [x0, x1, x2, x3, x4, x5, x6], .null :: st, a, h) = Rn 120 (82, [x0, x1, x2, x3, x4, x5, x6], st, a, h) := Rn_go c120_30 rfl
theorem r120_30 : Rn 120 (30, [x0, x1, x2, x3, x4, x5, x6], .ref q :: st, a, h) = Rn 120 (33, [x0, x1, x2, x3, x4, x5, x6], st, a, h) := Rn_go c120_30 rfl
theorem c120_33 : mcode 120 33 = some (.iload 6, 2, 0, 0, 0) := rfl
theorem r120_33 : Rn 120 (33, [x0, x1, x2, x3, x4, x5, some (.int i)], st, a, h) = Rn 120 (35, [x0, x1, x2, x3, x4, x5, some (.int i)], .int i :: st, a, h) := Rn_go c120_33 rfl
theorem c120_35 : mcode 120 35 = some (.aload_n 1, 1, 0, 0, 0) := rfl
theorem r120_35 : Rn 120 (35, [x0, some (.ref q), x2, x3, x4, x5, x6], st, a, h) = Rn 120 (36, [x0, some (.ref q), x2, x3, x4, x5, x6], .ref q :: st, a, h) := Rn_go c120_35 rfl
theorem r120_35n : Rn 120 (35, [x0, some .null, x2, x3, x4, x5, x6], st, a, h) = Rn 120 (36, [x0, some .null, x2, x3, x4, x5, x6], .null :: st, a, h) := Rn_go c120_35 rfl
theorem c120_36 : mcode 120 36 = some (.getfield 224, 3, 0, 2, 0) := rfl
theorem r120_36 : Rn 120 (36, [x0, x1, x2, x3, x4, x5, x6], .ref q :: st, a, h) = Kv 120 39 [x0, x1, x2, x3, x4, x5, x6] st a h (mgf h q 0 2) := Rn_getf c120_36 rfl
theorem c120_39 : mcode 120 39 = some (.if_icmp .ge 43, 3, 0, 0, 0) := rfl
theorem r120_39 : Rn 120 (39, [x0, x1, x2, x3, x4, x5, x6], .int j :: .int i :: st, a, h) = if i < j then Rn 120 (42, [x0, x1, x2, x3, x4, x5, x6], st, a, h) else Rn 120 (82, [x0, x1, x2, x3, x4, x5, x6], st, a, h) := Rn_icmpn c120_39 mc_ge rfl rfl
theorem c120_42 : mcode 120 42 = some (.iload 6, 2, 0, 0, 0) := rfl
theorem r120_42 : Rn 120 (42, [x0, x1, x2, x3, x4, x5, some (.int i)], st, a, h) = Rn 120 (44, [x0, x1, x2, x3, x4, x5, some (.int i)], .int i :: st, a, h) := Rn_go c120_42 rfl
theorem c120_44 : mcode 120 44 = some (.ifCond .le 11, 3, 0, 0, 0) := rfl
theorem r120_44 : Rn 120 (44, [x0, x1, x2, x3, x4, x5, x6], .int i :: st, a, h) = if 0 < i then Rn 120 (47, [x0, x1, x2, x3, x4, x5, x6], st, a, h) else Rn 120 (55, [x0, x1, x2, x3, x4, x5, x6], st, a, h) := Rn_ifcn c120_44 mc_le rfl rfl
theorem c120_47 : mcode 120 47 = some (.aload_n 0, 1, 0, 0, 0) := rfl
theorem r120_47 : Rn 120 (47, [some (.ref q), x1, x2, x3, x4, x5, x6], st, a, h) = Rn 120 (48, [some (.ref q), x1, x2, x3, x4, x5, x6], .ref q :: st, a, h) := Rn_go c120_47 rfl
theorem c120_48 : mcode 120 48 = some (.getfield 16, 3, 5, 1, 0) := rfl
theorem r120_48 : Rn 120 (48, [x0, x1, x2, x3, x4, x5, x6], .ref q :: st, a, h) = Kv 120 51 [x0, x1, x2, x3, x4, x5, x6] st a h (mgf h q 5 1) := Rn_getf c120_48 rfl
theorem c120_51 : mcode 120 51 = some (.iconst 1, 1, 0, 0, 0) := rfl
theorem r120_51 : Rn 120 (51, [x0, x1, x2, x3, x4, x5, x6], st, a, h) = Rn 120 (52, [x0, x1, x2, x3, x4, x5, x6], .int (1 : Int32) :: st, a, h) := Rn_go c120_51 rfl
theorem c120_52 : mcode 120 52 = some (.invokevirtual 126, 3, 53, 1, 4) := rfl
theorem r120_52 : Rn 120 (52, [x0, x1, x2, x3, x4, x5, x6], [v0, .ref q], a, h) = if mis h q 4 = true then Bk 120 55 [x0, x1, x2, x3, x4, x5, x6] [] (Ec 53 [.ref q, v0] a h) else none := Rn_call1 c120_52 rfl (Nat.le_of_ble_eq_true rfl) rfl rfl (Nat.le_of_ble_eq_true rfl)
theorem c120_55 : mcode 120 55 = some (.aload_n 1, 1, 0, 0, 0) := rfl
theorem r120_55 : Rn 120 (55, [x0, some (.ref q), x2, x3, x4, x5, x6], st, a, h) = Rn 120 (56, [x0, some (.ref q), x2, x3, x4, x5, x6], .ref q :: st, a, h) := Rn_go c120_55 rfl
theorem r120_55n : Rn 120 (55, [x0, some .null, x2, x3, x4, x5, x6], st, a, h) = Rn 120 (56, [x0, some .null, x2, x3, x4, x5, x6], .null :: st, a, h) := Rn_go c120_55 rfl
theorem c120_56 : mcode 120 56 = some (.iload 6, 2, 0, 0, 0) := rfl
theorem r120_56 : Rn 120 (56, [x0, x1, x2, x3, x4, x5, some (.int i)], st, a, h) = Rn 120 (58, [x0, x1, x2, x3, x4, x5, some (.int i)], .int i :: st, a, h) := Rn_go c120_56 rfl
theorem c120_58 : mcode 120 58 = some (.aload_n 0, 1, 0, 0, 0) := rfl
theorem r120_58 : Rn 120 (58, [some (.ref q), x1, x2, x3, x4, x5, x6], st, a, h) = Rn 120 (59, [some (.ref q), x1, x2, x3, x4, x5, x6], .ref q :: st, a, h) := Rn_go c120_58 rfl
theorem c120_59 : mcode 120 59 = some (.getfield 16, 3, 5, 1, 0) := rfl
theorem r120_59 : Rn 120 (59, [x0, x1, x2, x3, x4, x5, x6], .ref q :: st, a, h) = Kv 120 62 [x0, x1, x2, x3, x4, x5, x6] st a h (mgf h q 5 1) := Rn_getf c120_59 rfl
theorem c120_62 : mcode 120 62 = some (.iload 5, 2, 0, 0, 0) := rfl
theorem r120_62 : Rn 120 (62, [x0, x1, x2, x3, x4, some (.int i), x6], st, a, h) = Rn 120 (64, [x0, x1, x2, x3, x4, some (.int i), x6], .int i :: st, a, h) := Rn_go c120_62 rfl
theorem c120_64 : mcode 120 64 = some (.iload_n 3, 1, 0, 0, 0) := rfl
theorem r120_64 : Rn 120 (64, [x0, x1, x2, some (.int i), x4, x5, x6], st, a, h) = Rn 120 (65, [x0, x1, x2, some (.int i), x4, x5, x6], .int i :: st, a, h) := Rn_go c120_64 rfl
theorem c120_65 : mcode 120 65 = some (.invokevirtual 65, 3, 41, 2, 4) := rfl
theorem r120_65 : Rn 120 (65, [x0, x1, x2, x3, x4, x5, x6], [v1, v0, .ref q, .int i0, .ref q1], a, h) = if mis h q 4 = true then Bk 120 68 [x0, x1, x2, x3, x4, x5, x6] [.int i0, .ref q1] (Ec 41 [.ref q, v0, v1] a h) else none := Rn_call1 c120_65 rfl (Nat.le_of_ble_eq_true rfl) rfl rfl (Nat.le_of_ble_eq_true rfl)
theorem c120_68 : mcode 120 68 = some (.invokevirtual 261, 3, 7, 2, 0) := rfl
theorem r120_68 : Rn 120 (68, [x0, x1, x2, x3, x4, x5, x6], [v1, v0, .ref q], a, h) = if mis h q 0 = true then Bk 120 71 [x0, x1, x2, x3, x4, x5, x6] [] (Ec 7 [.ref q, v0, v1] a h) else none := Rn_call1 c120_68 rfl (Nat.le_of_ble_eq_true rfl) rfl rfl (Nat.le_of_ble_eq_true rfl)
theorem c120_71 : mcode 120 71 = some (.ifCond .ne 5, 3, 0, 0, 0) := rfl
theorem r120_71 : Rn 120 (71, [x0, x1, x2, x3, x4, x5, x6], .int i :: st, a, h) = if i = 0 then Rn 120 (74, [x0, x1, x2, x3, x4, x5, x6], st, a, h) else Rn 120 (76, [x0, x1, x2, x3, x4, x5, x6], st, a, h) := Rn_ifcn c120_71 mc_ne rfl rfl
theorem c120_74 : mcode 120 74 = some (.iconst 0, 1, 0, 0, 0) := rfl
theorem r120_74 : Rn 120 (74, [x0, x1, x2, x3, x4, x5, x6], st, a, h) = Rn 120 (75, [x0, x1, x2, x3, x4, x5, x6], .int (0 : Int32) :: st, a, h) := Rn_go c120_74 rfl
theorem c120_75 : mcode 120 75 = some (.ireturn, 1, 1, 0, 0) := rfl
theorem r120_75 : Rn 120 (75, [x0, x1, x2, x3, x4, x5, x6], [.int i], a, h) = if mrt 1 i = true then some (some (.int i), a, h) else none := Rn_iretz c120_75
theorem c120_76 : mcode 120 76 = some (.iinc 6 1, 3, 0, 0, 0) := rfl
theorem r120_76 : Rn 120 (76, [x0, x1, x2, x3, x4, x5, some (.int i)], st, a, h) = Nl x5 (Rn 120 (79, [x0, x1, x2, x3, x4, x5, some (.int (i + (1 : Int32)))], st, a, h)) := Rn_st1 (k := 6) (v := .int (i + (1 : Int32))) x5 c120_76 rfl rfl rfl rfl
theorem c120_79 : mcode 120 79 = some (.goto (-50), 3, 0, 0, 0) := rfl
theorem r120_79 : Rn 120 (79, [x0, x1, x2, x3, x4, x5, x6], st, a, h) = Rn 120 (29, [x0, x1, x2, x3, x4, x5, x6], st, a, h) := Rn_goto c120_79 rfl
theorem c120_82 : mcode 120 82 = some (.iconst 1, 1, 0, 0, 0) := rfl
theorem r120_82 : Rn 120 (82, [x0, x1, x2, x3, x4, x5, x6], st, a, h) = Rn 120 (83, [x0, x1, x2, x3, x4, x5, x6], .int (1 : Int32) :: st, a, h) := Rn_go c120_82 rfl
theorem c120_83 : mcode 120 83 = some (.ireturn, 1, 1, 0, 0) := rfl
theorem r120_83 : Rn 120 (83, [x0, x1, x2, x3, x4, x5, x6], [.int i], a, h) = if mrt 1 i = true then some (some (.int i), a, h) else none := Rn_iretz c120_83
theorem c121_0 : mcode 121 0 = some (.aload_n 0, 1, 0, 0, 0) := rfl
theorem r121_0 : Rn 121 (0, [some (.ref q), x1, x2, x3, x4], st, a, h) = Rn 121 (1, [some (.ref q), x1, x2, x3, x4], .ref q :: st, a, h) := Rn_go c121_0 rfl
theorem c121_1 : mcode 121 1 = some (.invokevirtual 143, 3, 114, 0, 5) := rfl
theorem r121_1 : Rn 121 (1, [x0, x1, x2, x3, x4], [.ref q], a, h) = if mis h q 5 = true then Bk 121 4 [x0, x1, x2, x3, x4] [] (Ec 114 [.ref q] a h) else none := Rn_call1 c121_1 rfl (Nat.le_of_ble_eq_true rfl) rfl rfl (Nat.le_of_ble_eq_true rfl)
theorem c121_4 : mcode 121 4 = some (.aload_n 0, 1, 0, 0, 0) := rfl
theorem r121_4 : Rn 121 (4, [some (.ref q), x1, x2, x3, x4], st, a, h) = Rn 121 (5, [some (.ref q), x1, x2, x3, x4], .ref q :: st, a, h) := Rn_go c121_4 rfl
theorem c121_5 : mcode 121 5 = some (.getfield 16, 3, 5, 1, 0) := rfl
theorem r121_5 : Rn 121 (5, [x0, x1, x2, x3, x4], .ref q :: st, a, h) = Kv 121 8 [x0, x1, x2, x3, x4] st a h (mgf h q 5 1) := Rn_getf c121_5 rfl
theorem c121_8 : mcode 121 8 = some (.iload_n 2, 1, 0, 0, 0) := rfl
theorem r121_8 : Rn 121 (8, [x0, x1, some (.int i), x3, x4], st, a, h) = Rn 121 (9, [x0, x1, some (.int i), x3, x4], .int i :: st, a, h) := Rn_go c121_8 rfl
theorem c121_9 : mcode 121 9 = some (.iconst 0, 1, 0, 0, 0) := rfl
theorem r121_9 : Rn 121 (9, [x0, x1, x2, x3, x4], st, a, h) = Rn 121 (10, [x0, x1, x2, x3, x4], .int (0 : Int32) :: st, a, h) := Rn_go c121_9 rfl
theorem c121_10 : mcode 121 10 = some (.iload_n 3, 1, 0, 0, 0) := rfl
theorem r121_10 : Rn 121 (10, [x0, x1, x2, some (.int i), x4], st, a, h) = Rn 121 (11, [x0, x1, x2, some (.int i), x4], .int i :: st, a, h) := Rn_go c121_10 rfl
theorem c121_11 : mcode 121 11 = some (.invokevirtual 118, 3, 40, 3, 4) := rfl
theorem r121_11 : Rn 121 (11, [x0, x1, x2, x3, x4], [v2, v1, v0, .ref q], a, h) = if mis h q 4 = true then Bk 121 14 [x0, x1, x2, x3, x4] [] (Ec 40 [.ref q, v0, v1, v2] a h) else none := Rn_call1 c121_11 rfl (Nat.le_of_ble_eq_true rfl) rfl rfl (Nat.le_of_ble_eq_true rfl)
theorem c121_14 : mcode 121 14 = some (.iconst 0, 1, 0, 0, 0) := rfl
theorem r121_14 : Rn 121 (14, [x0, x1, x2, x3, x4], st, a, h) = Rn 121 (15, [x0, x1, x2, x3, x4], .int (0 : Int32) :: st, a, h) := Rn_go c121_14 rfl
theorem c121_15 : mcode 121 15 = some (.istore 4, 2, 0, 0, 0) := rfl
theorem r121_15 : Rn 121 (15, [x0, x1, x2, x3, x4], .int i :: st, a, h) = Nl x3 (Rn 121 (17, [x0, x1, x2, x3, some (.int i)], st, a, h)) := Rn_st1 (k := 4) (v := .int i) x3 c121_15 rfl rfl rfl rfl
theorem c121_17 : mcode 121 17 = some (.aload_n 1, 1, 0, 0, 0) := rfl
theorem r121_17 : Rn 121 (17, [x0, some (.ref q), x2, x3, x4], st, a, h) = Rn 121 (18, [x0, some (.ref q), x2, x3, x4], .ref q :: st, a, h) := Rn_go c121_17 rfl
theorem r121_17n : Rn 121 (17, [x0, some .null, x2, x3, x4], st, a, h) = Rn 121 (18, [x0, some .null, x2, x3, x4], .null :: st, a, h) := Rn_go c121_17 rfl
theorem c121_18 : mcode 121 18 = some (.ifnull 51, 3, 0, 0, 0) := rfl
theorem r121_18n : Rn 121 (18, [x0, x1, x2, x3, x4], .null :: st, a, h) = Rn 121 (69, [x0, x1, x2, x3, x4], st, a, h) := Rn_go c121_18 rfl
theorem r121_18 : Rn 121 (18, [x0, x1, x2, x3, x4], .ref q :: st, a, h) = Rn 121 (21, [x0, x1, x2, x3, x4], st, a, h) := Rn_go c121_18 rfl
theorem c121_21 : mcode 121 21 = some (.iload 4, 2, 0, 0, 0) := rfl
theorem r121_21 : Rn 121 (21, [x0, x1, x2, x3, some (.int i)], st, a, h) = Rn 121 (23, [x0, x1, x2, x3, some (.int i)], .int i :: st, a, h) := Rn_go c121_21 rfl
theorem c121_23 : mcode 121 23 = some (.aload_n 1, 1, 0, 0, 0) := rfl
theorem r121_23 : Rn 121 (23, [x0, some (.ref q), x2, x3, x4], st, a, h) = Rn 121 (24, [x0, some (.ref q), x2, x3, x4], .ref q :: st, a, h) := Rn_go c121_23 rfl
theorem r121_23n : Rn 121 (23, [x0, some .null, x2, x3, x4], st, a, h) = Rn 121 (24, [x0, some .null, x2, x3, x4], .null :: st, a, h) := Rn_go c121_23 rfl
theorem c121_24 : mcode 121 24 = some (.getfield 224, 3, 0, 2, 0) := rfl
theorem r121_24 : Rn 121 (24, [x0, x1, x2, x3, x4], .ref q :: st, a, h) = Kv 121 27 [x0, x1, x2, x3, x4] st a h (mgf h q 0 2) := Rn_getf c121_24 rfl
theorem c121_27 : mcode 121 27 = some (.if_icmp .ge 42, 3, 0, 0, 0) := rfl
theorem r121_27 : Rn 121 (27, [x0, x1, x2, x3, x4], .int j :: .int i :: st, a, h) = if i < j then Rn 121 (30, [x0, x1, x2, x3, x4], st, a, h) else Rn 121 (69, [x0, x1, x2, x3, x4], st, a, h) := Rn_icmpn c121_27 mc_ge rfl rfl
theorem c121_30 : mcode 121 30 = some (.iload 4, 2, 0, 0, 0) := rfl
theorem r121_30 : Rn 121 (30, [x0, x1, x2, x3, some (.int i)], st, a, h) = Rn 121 (32, [x0, x1, x2, x3, some (.int i)], .int i :: st, a, h) := Rn_go c121_30 rfl
theorem c121_32 : mcode 121 32 = some (.ifCond .le 11, 3, 0, 0, 0) := rfl
theorem r121_32 : Rn 121 (32, [x0, x1, x2, x3, x4], .int i :: st, a, h) = if 0 < i then Rn 121 (35, [x0, x1, x2, x3, x4], st, a, h) else Rn 121 (43, [x0, x1, x2, x3, x4], st, a, h) := Rn_ifcn c121_32 mc_le rfl rfl
theorem c121_35 : mcode 121 35 = some (.aload_n 0, 1, 0, 0, 0) := rfl
theorem r121_35 : Rn 121 (35, [some (.ref q), x1, x2, x3, x4], st, a, h) = Rn 121 (36, [some (.ref q), x1, x2, x3, x4], .ref q :: st, a, h) := Rn_go c121_35 rfl
theorem c121_36 : mcode 121 36 = some (.getfield 16, 3, 5, 1, 0) := rfl
theorem r121_36 : Rn 121 (36, [x0, x1, x2, x3, x4], .ref q :: st, a, h) = Kv 121 39 [x0, x1, x2, x3, x4] st a h (mgf h q 5 1) := Rn_getf c121_36 rfl
theorem c121_39 : mcode 121 39 = some (.iconst 1, 1, 0, 0, 0) := rfl
theorem r121_39 : Rn 121 (39, [x0, x1, x2, x3, x4], st, a, h) = Rn 121 (40, [x0, x1, x2, x3, x4], .int (1 : Int32) :: st, a, h) := Rn_go c121_39 rfl
theorem c121_40 : mcode 121 40 = some (.invokevirtual 126, 3, 53, 1, 4) := rfl
theorem r121_40 : Rn 121 (40, [x0, x1, x2, x3, x4], [v0, .ref q], a, h) = if mis h q 4 = true then Bk 121 43 [x0, x1, x2, x3, x4] [] (Ec 53 [.ref q, v0] a h) else none := Rn_call1 c121_40 rfl (Nat.le_of_ble_eq_true rfl) rfl rfl (Nat.le_of_ble_eq_true rfl)
theorem c121_43 : mcode 121 43 = some (.aload_n 1, 1, 0, 0, 0) := rfl
theorem r121_43 : Rn 121 (43, [x0, some (.ref q), x2, x3, x4], st, a, h) = Rn 121 (44, [x0, some (.ref q), x2, x3, x4], .ref q :: st, a, h) := Rn_go c121_43 rfl
theorem r121_43n : Rn 121 (43, [x0, some .null, x2, x3, x4], st, a, h) = Rn 121 (44, [x0, some .null, x2, x3, x4], .null :: st, a, h) := Rn_go c121_43 rfl
theorem c121_44 : mcode 121 44 = some (.iload 4, 2, 0, 0, 0) := rfl
theorem r121_44 : Rn 121 (44, [x0, x1, x2, x3, some (.int i)], st, a, h) = Rn 121 (46, [x0, x1, x2, x3, some (.int i)], .int i :: st, a, h) := Rn_go c121_44 rfl
theorem c121_46 : mcode 121 46 = some (.aload_n 0, 1, 0, 0, 0) := rfl
theorem r121_46 : Rn 121 (46, [some (.ref q), x1, x2, x3, x4], st, a, h) = Rn 121 (47, [some (.ref q), x1, x2, x3, x4], .ref q :: st, a, h) := Rn_go c121_46 rfl
theorem c121_47 : mcode 121 47 = some (.getfield 16, 3, 5, 1, 0) := rfl
theorem r121_47 : Rn 121 (47, [x0, x1, x2, x3, x4], .ref q :: st, a, h) = Kv 121 50 [x0, x1, x2, x3, x4] st a h (mgf h q 5 1) := Rn_getf c121_47 rfl
theorem c121_50 : mcode 121 50 = some (.iload_n 2, 1, 0, 0, 0) := rfl
theorem r121_50 : Rn 121 (50, [x0, x1, some (.int i), x3, x4], st, a, h) = Rn 121 (51, [x0, x1, some (.int i), x3, x4], .int i :: st, a, h) := Rn_go c121_50 rfl
theorem c121_51 : mcode 121 51 = some (.iconst 1, 1, 0, 0, 0) := rfl
theorem r121_51 : Rn 121 (51, [x0, x1, x2, x3, x4], st, a, h) = Rn 121 (52, [x0, x1, x2, x3, x4], .int (1 : Int32) :: st, a, h) := Rn_go c121_51 rfl
theorem c121_52 : mcode 121 52 = some (.invokevirtual 112, 3, 39, 2, 4) := rfl
theorem r121_52 : Rn 121 (52, [x0, x1, x2, x3, x4], [v1, v0, .ref q, .int i0, .ref q1], a, h) = if mis h q 4 = true then Bk 121 55 [x0, x1, x2, x3, x4] [.int i0, .ref q1] (Ec 39 [.ref q, v0, v1] a h) else none := Rn_call1 c121_52 rfl (Nat.le_of_ble_eq_true rfl) rfl rfl (Nat.le_of_ble_eq_true rfl)
theorem c121_55 : mcode 121 55 = some (.invokevirtual 261, 3, 7, 2, 0) := rfl
theorem r121_55 : Rn 121 (55, [x0, x1, x2, x3, x4], [v1, v0, .ref q], a, h) = if mis h q 0 = true then Bk 121 58 [x0, x1, x2, x3, x4] [] (Ec 7 [.ref q, v0, v1] a h) else none := Rn_call1 c121_55 rfl (Nat.le_of_ble_eq_true rfl) rfl rfl (Nat.le_of_ble_eq_true rfl)
theorem c121_58 : mcode 121 58 = some (.ifCond .ne 5, 3, 0, 0, 0) := rfl
theorem r121_58 : Rn 121 (58, [x0, x1, x2, x3, x4], .int i :: st, a, h) = if i = 0 then Rn 121 (61, [x0, x1, x2, x3, x4], st, a, h) else Rn 121 (63, [x0, x1, x2, x3, x4], st, a, h) := Rn_ifcn c121_58 mc_ne rfl rfl
theorem c121_61 : mcode 121 61 = some (.iconst 0, 1, 0, 0, 0) := rfl
theorem r121_61 : Rn 121 (61, [x0, x1, x2, x3, x4], st, a, h) = Rn 121 (62, [x0, x1, x2, x3, x4], .int (0 : Int32) :: st, a, h) := Rn_go c121_61 rfl
theorem c121_62 : mcode 121 62 = some (.ireturn, 1, 1, 0, 0) := rfl
theorem r121_62 : Rn 121 (62, [x0, x1, x2, x3, x4], [.int i], a, h) = if mrt 1 i = true then some (some (.int i), a, h) else none := Rn_iretz c121_62
theorem c121_63 : mcode 121 63 = some (.iinc 4 1, 3, 0, 0, 0) := rfl
theorem r121_63 : Rn 121 (63, [x0, x1, x2, x3, some (.int i)], st, a, h) = Nl x3 (Rn 121 (66, [x0, x1, x2, x3, some (.int (i + (1 : Int32)))], st, a, h)) := Rn_st1 (k := 4) (v := .int (i + (1 : Int32))) x3 c121_63 rfl rfl rfl rfl
theorem c121_66 : mcode 121 66 = some (.goto (-49), 3, 0, 0, 0) := rfl
theorem r121_66 : Rn 121 (66, [x0, x1, x2, x3, x4], st, a, h) = Rn 121 (17, [x0, x1, x2, x3, x4], st, a, h) := Rn_goto c121_66 rfl
theorem c121_69 : mcode 121 69 = some (.iconst 1, 1, 0, 0, 0) := rfl
theorem r121_69 : Rn 121 (69, [x0, x1, x2, x3, x4], st, a, h) = Rn 121 (70, [x0, x1, x2, x3, x4], .int (1 : Int32) :: st, a, h) := Rn_go c121_69 rfl
theorem c121_70 : mcode 121 70 = some (.ireturn, 1, 1, 0, 0) := rfl
theorem r121_70 : Rn 121 (70, [x0, x1, x2, x3, x4], [.int i], a, h) = if mrt 1 i = true then some (some (.int i), a, h) else none := Rn_iretz c121_70
end
