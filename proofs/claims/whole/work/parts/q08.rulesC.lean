section
variable {x0 x1 x2 x3 x4 x5 x6 x7 x8 x9 : Option Value} {i j k i0 i1 i2 i3 i4 i5 i6 : Int32} {p q q0 q1 q2 q3 q4 q5 : Nat} {l m l0 l1 l2 : Int64} {u v w v0 v1 v2 v3 v4 v5 : Value} {st : List Value} {a : MA} {h : MH}
theorem c122_0 : mcode 122 0 = some (.aload_n 0, 1, 0, 0, 0) := rfl
theorem r122_0 : Rn 122 (0, [some (.ref q), x1], st, a, h) = Rn 122 (1, [some (.ref q), x1], .ref q :: st, a, h) := Rn_go c122_0 rfl
theorem c122_1 : mcode 122 1 = some (.invokespecial 1, 3, 9999, 0, 0) := rfl
theorem r122_1 : Rn 122 (1, [x0, x1], [.ref q], a, h) = Rn 122 (4, [x0, x1], [], a, h) := Rn_go c122_1 rfl
theorem c122_4 : mcode 122 4 = some (.aload_n 0, 1, 0, 0, 0) := rfl
theorem r122_4 : Rn 122 (4, [some (.ref q), x1], st, a, h) = Rn 122 (5, [some (.ref q), x1], .ref q :: st, a, h) := Rn_go c122_4 rfl
theorem c122_5 : mcode 122 5 = some (.bipush 86, 2, 0, 0, 0) := rfl
theorem r122_5 : Rn 122 (5, [x0, x1], st, a, h) = Rn 122 (7, [x0, x1], .int (86 : Int32) :: st, a, h) := Rn_go c122_5 rfl
theorem c122_7 : mcode 122 7 = some (.newarray .int, 2, 0, 0, 0) := rfl
theorem r122_7 {b c d : Nat} (hi : ¬ i < 0) (hj : i.toNatClampNeg ≤ 65536) (hb : b < 999) : Rn 122 (7, [x0, x1], .int i :: st, (b, c, d), h) = Rn 122 (9, [x0, x1], .ref b :: st, (b + 1, c + 1, d + i.toNatClampNeg), mup h b (.inl (i.toNatClampNeg, fun _ => 0))) := Rn_newarray c122_7 rfl hi hj hb
theorem c122_9 : mcode 122 9 = some (.putfield 7, 3, 6, 0, 2) := rfl
theorem r122_9 : Rn 122 (9, [x0, x1], .ref p :: .ref q :: st, a, h) = Kh 122 12 [x0, x1] st a (mpf h q 6 0 (.ref p)) := Rn_putfr c122_9 rfl rfl
theorem c122_12 : mcode 122 12 = some (.aload_n 0, 1, 0, 0, 0) := rfl
theorem r122_12 : Rn 122 (12, [some (.ref q), x1], st, a, h) = Rn 122 (13, [some (.ref q), x1], .ref q :: st, a, h) := Rn_go c122_12 rfl
theorem c122_13 : mcode 122 13 = some (.bipush 86, 2, 0, 0, 0) := rfl
theorem r122_13 : Rn 122 (13, [x0, x1], st, a, h) = Rn 122 (15, [x0, x1], .int (86 : Int32) :: st, a, h) := Rn_go c122_13 rfl
theorem c122_15 : mcode 122 15 = some (.newarray .int, 2, 0, 0, 0) := rfl
theorem r122_15 {b c d : Nat} (hi : ¬ i < 0) (hj : i.toNatClampNeg ≤ 65536) (hb : b < 999) : Rn 122 (15, [x0, x1], .int i :: st, (b, c, d), h) = Rn 122 (17, [x0, x1], .ref b :: st, (b + 1, c + 1, d + i.toNatClampNeg), mup h b (.inl (i.toNatClampNeg, fun _ => 0))) := Rn_newarray c122_15 rfl hi hj hb
theorem c122_17 : mcode 122 17 = some (.putfield 13, 3, 6, 1, 2) := rfl
theorem r122_17 : Rn 122 (17, [x0, x1], .ref p :: .ref q :: st, a, h) = Kh 122 20 [x0, x1] st a (mpf h q 6 1 (.ref p)) := Rn_putfr c122_17 rfl rfl
theorem c122_20 : mcode 122 20 = some (.aload_n 0, 1, 0, 0, 0) := rfl
theorem r122_20 : Rn 122 (20, [some (.ref q), x1], st, a, h) = Rn 122 (21, [some (.ref q), x1], .ref q :: st, a, h) := Rn_go c122_20 rfl
theorem c122_21 : mcode 122 21 = some (.bipush 86, 2, 0, 0, 0) := rfl
theorem r122_21 : Rn 122 (21, [x0, x1], st, a, h) = Rn 122 (23, [x0, x1], .int (86 : Int32) :: st, a, h) := Rn_go c122_21 rfl
theorem c122_23 : mcode 122 23 = some (.newarray .int, 2, 0, 0, 0) := rfl
theorem r122_23 {b c d : Nat} (hi : ¬ i < 0) (hj : i.toNatClampNeg ≤ 65536) (hb : b < 999) : Rn 122 (23, [x0, x1], .int i :: st, (b, c, d), h) = Rn 122 (25, [x0, x1], .ref b :: st, (b + 1, c + 1, d + i.toNatClampNeg), mup h b (.inl (i.toNatClampNeg, fun _ => 0))) := Rn_newarray c122_23 rfl hi hj hb
theorem c122_25 : mcode 122 25 = some (.putfield 16, 3, 6, 2, 2) := rfl
theorem r122_25 : Rn 122 (25, [x0, x1], .ref p :: .ref q :: st, a, h) = Kh 122 28 [x0, x1] st a (mpf h q 6 2 (.ref p)) := Rn_putfr c122_25 rfl rfl
theorem c122_28 : mcode 122 28 = some (.aload_n 0, 1, 0, 0, 0) := rfl
theorem r122_28 : Rn 122 (28, [some (.ref q), x1], st, a, h) = Rn 122 (29, [some (.ref q), x1], .ref q :: st, a, h) := Rn_go c122_28 rfl
theorem c122_29 : mcode 122 29 = some (.bipush 86, 2, 0, 0, 0) := rfl
theorem r122_29 : Rn 122 (29, [x0, x1], st, a, h) = Rn 122 (31, [x0, x1], .int (86 : Int32) :: st, a, h) := Rn_go c122_29 rfl
theorem c122_31 : mcode 122 31 = some (.newarray .int, 2, 0, 0, 0) := rfl
theorem r122_31 {b c d : Nat} (hi : ¬ i < 0) (hj : i.toNatClampNeg ≤ 65536) (hb : b < 999) : Rn 122 (31, [x0, x1], .int i :: st, (b, c, d), h) = Rn 122 (33, [x0, x1], .ref b :: st, (b + 1, c + 1, d + i.toNatClampNeg), mup h b (.inl (i.toNatClampNeg, fun _ => 0))) := Rn_newarray c122_31 rfl hi hj hb
theorem c122_33 : mcode 122 33 = some (.putfield 19, 3, 6, 3, 2) := rfl
theorem r122_33 : Rn 122 (33, [x0, x1], .ref p :: .ref q :: st, a, h) = Kh 122 36 [x0, x1] st a (mpf h q 6 3 (.ref p)) := Rn_putfr c122_33 rfl rfl
theorem c122_36 : mcode 122 36 = some (.aload_n 0, 1, 0, 0, 0) := rfl
theorem r122_36 : Rn 122 (36, [some (.ref q), x1], st, a, h) = Rn 122 (37, [some (.ref q), x1], .ref q :: st, a, h) := Rn_go c122_36 rfl
theorem c122_37 : mcode 122 37 = some (.bipush 8, 2, 0, 0, 0) := rfl
theorem r122_37 : Rn 122 (37, [x0, x1], st, a, h) = Rn 122 (39, [x0, x1], .int (8 : Int32) :: st, a, h) := Rn_go c122_37 rfl
theorem c122_39 : mcode 122 39 = some (.newarray .int, 2, 0, 0, 0) := rfl
theorem r122_39 {b c d : Nat} (hi : ¬ i < 0) (hj : i.toNatClampNeg ≤ 65536) (hb : b < 999) : Rn 122 (39, [x0, x1], .int i :: st, (b, c, d), h) = Rn 122 (41, [x0, x1], .ref b :: st, (b + 1, c + 1, d + i.toNatClampNeg), mup h b (.inl (i.toNatClampNeg, fun _ => 0))) := Rn_newarray c122_39 rfl hi hj hb
theorem c122_41 : mcode 122 41 = some (.putfield 22, 3, 6, 5, 2) := rfl
theorem r122_41 : Rn 122 (41, [x0, x1], .ref p :: .ref q :: st, a, h) = Kh 122 44 [x0, x1] st a (mpf h q 6 5 (.ref p)) := Rn_putfr c122_41 rfl rfl
theorem c122_44 : mcode 122 44 = some (.aload_n 0, 1, 0, 0, 0) := rfl
theorem r122_44 : Rn 122 (44, [some (.ref q), x1], st, a, h) = Rn 122 (45, [some (.ref q), x1], .ref q :: st, a, h) := Rn_go c122_44 rfl
theorem c122_45 : mcode 122 45 = some (.bipush 120, 2, 0, 0, 0) := rfl
theorem r122_45 : Rn 122 (45, [x0, x1], st, a, h) = Rn 122 (47, [x0, x1], .int (120 : Int32) :: st, a, h) := Rn_go c122_45 rfl
theorem c122_47 : mcode 122 47 = some (.newarray .int, 2, 0, 0, 0) := rfl
theorem r122_47 {b c d : Nat} (hi : ¬ i < 0) (hj : i.toNatClampNeg ≤ 65536) (hb : b < 999) : Rn 122 (47, [x0, x1], .int i :: st, (b, c, d), h) = Rn 122 (49, [x0, x1], .ref b :: st, (b + 1, c + 1, d + i.toNatClampNeg), mup h b (.inl (i.toNatClampNeg, fun _ => 0))) := Rn_newarray c122_47 rfl hi hj hb
theorem c122_49 : mcode 122 49 = some (.putfield 25, 3, 6, 6, 2) := rfl
theorem r122_49 : Rn 122 (49, [x0, x1], .ref p :: .ref q :: st, a, h) = Kh 122 52 [x0, x1] st a (mpf h q 6 6 (.ref p)) := Rn_putfr c122_49 rfl rfl
theorem c122_52 : mcode 122 52 = some (.aload_n 0, 1, 0, 0, 0) := rfl
theorem r122_52 : Rn 122 (52, [some (.ref q), x1], st, a, h) = Rn 122 (53, [some (.ref q), x1], .ref q :: st, a, h) := Rn_go c122_52 rfl
theorem c122_53 : mcode 122 53 = some (.iconst 4, 1, 0, 0, 0) := rfl
theorem r122_53 : Rn 122 (53, [x0, x1], st, a, h) = Rn 122 (54, [x0, x1], .int (4 : Int32) :: st, a, h) := Rn_go c122_53 rfl
theorem c122_54 : mcode 122 54 = some (.newarray .int, 2, 0, 0, 0) := rfl
theorem r122_54 {b c d : Nat} (hi : ¬ i < 0) (hj : i.toNatClampNeg ≤ 65536) (hb : b < 999) : Rn 122 (54, [x0, x1], .int i :: st, (b, c, d), h) = Rn 122 (56, [x0, x1], .ref b :: st, (b + 1, c + 1, d + i.toNatClampNeg), mup h b (.inl (i.toNatClampNeg, fun _ => 0))) := Rn_newarray c122_54 rfl hi hj hb
theorem c122_56 : mcode 122 56 = some (.dup, 1, 0, 0, 0) := rfl
theorem r122_56 : Rn 122 (56, [x0, x1], .ref q :: st, a, h) = Rn 122 (57, [x0, x1], .ref q :: .ref q :: st, a, h) := Rn_go c122_56 rfl
theorem c122_57 : mcode 122 57 = some (.iconst 0, 1, 0, 0, 0) := rfl
theorem r122_57 : Rn 122 (57, [x0, x1], st, a, h) = Rn 122 (58, [x0, x1], .int (0 : Int32) :: st, a, h) := Rn_go c122_57 rfl
theorem c122_58 : mcode 122 58 = some (.iconst (-1), 1, 0, 0, 0) := rfl
theorem r122_58 : Rn 122 (58, [x0, x1], st, a, h) = Rn 122 (59, [x0, x1], .int (-1 : Int32) :: st, a, h) := Rn_go c122_58 rfl
theorem c122_59 : mcode 122 59 = some (.iastore, 1, 0, 0, 0) := rfl
theorem r122_59 : Rn 122 (59, [x0, x1], .int j :: .int i :: .ref q :: st, a, h) = Kh 122 60 [x0, x1] st a (mias h q i j) := Rn_iast c122_59 rfl
theorem c122_60 : mcode 122 60 = some (.dup, 1, 0, 0, 0) := rfl
theorem r122_60 : Rn 122 (60, [x0, x1], .ref q :: st, a, h) = Rn 122 (61, [x0, x1], .ref q :: .ref q :: st, a, h) := Rn_go c122_60 rfl
theorem c122_61 : mcode 122 61 = some (.iconst 1, 1, 0, 0, 0) := rfl
theorem r122_61 : Rn 122 (61, [x0, x1], st, a, h) = Rn 122 (62, [x0, x1], .int (1 : Int32) :: st, a, h) := Rn_go c122_61 rfl
theorem c122_62 : mcode 122 62 = some (.iconst (-1), 1, 0, 0, 0) := rfl
theorem r122_62 : Rn 122 (62, [x0, x1], st, a, h) = Rn 122 (63, [x0, x1], .int (-1 : Int32) :: st, a, h) := Rn_go c122_62 rfl
theorem c122_63 : mcode 122 63 = some (.iastore, 1, 0, 0, 0) := rfl
theorem r122_63 : Rn 122 (63, [x0, x1], .int j :: .int i :: .ref q :: st, a, h) = Kh 122 64 [x0, x1] st a (mias h q i j) := Rn_iast c122_63 rfl
theorem c122_64 : mcode 122 64 = some (.dup, 1, 0, 0, 0) := rfl
theorem r122_64 : Rn 122 (64, [x0, x1], .ref q :: st, a, h) = Rn 122 (65, [x0, x1], .ref q :: .ref q :: st, a, h) := Rn_go c122_64 rfl
theorem c122_65 : mcode 122 65 = some (.iconst 2, 1, 0, 0, 0) := rfl
theorem r122_65 : Rn 122 (65, [x0, x1], st, a, h) = Rn 122 (66, [x0, x1], .int (2 : Int32) :: st, a, h) := Rn_go c122_65 rfl
theorem c122_66 : mcode 122 66 = some (.iconst (-1), 1, 0, 0, 0) := rfl
theorem r122_66 : Rn 122 (66, [x0, x1], st, a, h) = Rn 122 (67, [x0, x1], .int (-1 : Int32) :: st, a, h) := Rn_go c122_66 rfl
theorem c122_67 : mcode 122 67 = some (.iastore, 1, 0, 0, 0) := rfl
theorem r122_67 : Rn 122 (67, [x0, x1], .int j :: .int i :: .ref q :: st, a, h) = Kh 122 68 [x0, x1] st a (mias h q i j) := Rn_iast c122_67 rfl
theorem c122_68 : mcode 122 68 = some (.dup, 1, 0, 0, 0) := rfl
theorem r122_68 : Rn 122 (68, [x0, x1], .ref q :: st, a, h) = Rn 122 (69, [x0, x1], .ref q :: .ref q :: st, a, h) := Rn_go c122_68 rfl
theorem c122_69 : mcode 122 69 = some (.iconst 3, 1, 0, 0, 0) := rfl
theorem r122_69 : Rn 122 (69, [x0, x1], st, a, h) = Rn 122 (70, [x0, x1], .int (3 : Int32) :: st, a, h) := Rn_go c122_69 rfl
theorem c122_70 : mcode 122 70 = some (.iconst (-1), 1, 0, 0, 0) := rfl
theorem r122_70 : Rn 122 (70, [x0, x1], st, a, h) = Rn 122 (71, [x0, x1], .int (-1 : Int32) :: st, a, h) := Rn_go c122_70 rfl
theorem c122_71 : mcode 122 71 = some (.iastore, 1, 0, 0, 0) := rfl
theorem r122_71 : Rn 122 (71, [x0, x1], .int j :: .int i :: .ref q :: st, a, h) = Kh 122 72 [x0, x1] st a (mias h q i j) := Rn_iast c122_71 rfl
theorem c122_72 : mcode 122 72 = some (.putfield 28, 3, 6, 8, 2) := rfl
theorem r122_72 : Rn 122 (72, [x0, x1], .ref p :: .ref q :: st, a, h) = Kh 122 75 [x0, x1] st a (mpf h q 6 8 (.ref p)) := Rn_putfr c122_72 rfl rfl
theorem c122_75 : mcode 122 75 = some (.aload_n 0, 1, 0, 0, 0) := rfl
theorem r122_75 : Rn 122 (75, [some (.ref q), x1], st, a, h) = Rn 122 (76, [some (.ref q), x1], .ref q :: st, a, h) := Rn_go c122_75 rfl
theorem c122_76 : mcode 122 76 = some (.iconst 4, 1, 0, 0, 0) := rfl
theorem r122_76 : Rn 122 (76, [x0, x1], st, a, h) = Rn 122 (77, [x0, x1], .int (4 : Int32) :: st, a, h) := Rn_go c122_76 rfl
theorem c122_77 : mcode 122 77 = some (.newarray .int, 2, 0, 0, 0) := rfl
theorem r122_77 {b c d : Nat} (hi : ¬ i < 0) (hj : i.toNatClampNeg ≤ 65536) (hb : b < 999) : Rn 122 (77, [x0, x1], .int i :: st, (b, c, d), h) = Rn 122 (79, [x0, x1], .ref b :: st, (b + 1, c + 1, d + i.toNatClampNeg), mup h b (.inl (i.toNatClampNeg, fun _ => 0))) := Rn_newarray c122_77 rfl hi hj hb
theorem c122_79 : mcode 122 79 = some (.putfield 31, 3, 6, 9, 2) := rfl
theorem r122_79 : Rn 122 (79, [x0, x1], .ref p :: .ref q :: st, a, h) = Kh 122 82 [x0, x1] st a (mpf h q 6 9 (.ref p)) := Rn_putfr c122_79 rfl rfl
theorem c122_82 : mcode 122 82 = some (.aload_n 0, 1, 0, 0, 0) := rfl
theorem r122_82 : Rn 122 (82, [some (.ref q), x1], st, a, h) = Rn 122 (83, [some (.ref q), x1], .ref q :: st, a, h) := Rn_go c122_82 rfl
theorem c122_83 : mcode 122 83 = some (.sipush 160, 3, 0, 0, 0) := rfl
theorem r122_83 : Rn 122 (83, [x0, x1], st, a, h) = Rn 122 (86, [x0, x1], .int (160 : Int32) :: st, a, h) := Rn_go c122_83 rfl
theorem c122_86 : mcode 122 86 = some (.newarray .int, 2, 0, 0, 0) := rfl
theorem r122_86 {b c d : Nat} (hi : ¬ i < 0) (hj : i.toNatClampNeg ≤ 65536) (hb : b < 999) : Rn 122 (86, [x0, x1], .int i :: st, (b, c, d), h) = Rn 122 (88, [x0, x1], .ref b :: st, (b + 1, c + 1, d + i.toNatClampNeg), mup h b (.inl (i.toNatClampNeg, fun _ => 0))) := Rn_newarray c122_86 rfl hi hj hb
theorem c122_88 : mcode 122 88 = some (.putfield 34, 3, 6, 10, 2) := rfl
theorem r122_88 : Rn 122 (88, [x0, x1], .ref p :: .ref q :: st, a, h) = Kh 122 91 [x0, x1] st a (mpf h q 6 10 (.ref p)) := Rn_putfr c122_88 rfl rfl
theorem c122_91 : mcode 122 91 = some (.aload_n 0, 1, 0, 0, 0) := rfl
theorem r122_91 : Rn 122 (91, [some (.ref q), x1], st, a, h) = Rn 122 (92, [some (.ref q), x1], .ref q :: st, a, h) := Rn_go c122_91 rfl
theorem c122_92 : mcode 122 92 = some (.getfield 7, 3, 6, 0, 0) := rfl
theorem r122_92 : Rn 122 (92, [x0, x1], .ref q :: st, a, h) = Kv 122 95 [x0, x1] st a h (mgf h q 6 0) := Rn_getf c122_92 rfl
theorem c122_95 : mcode 122 95 = some (.iconst 2, 1, 0, 0, 0) := rfl
theorem r122_95 : Rn 122 (95, [x0, x1], st, a, h) = Rn 122 (96, [x0, x1], .int (2 : Int32) :: st, a, h) := Rn_go c122_95 rfl
theorem c122_96 : mcode 122 96 = some (.iconst 1, 1, 0, 0, 0) := rfl
theorem r122_96 : Rn 122 (96, [x0, x1], st, a, h) = Rn 122 (97, [x0, x1], .int (1 : Int32) :: st, a, h) := Rn_go c122_96 rfl
theorem c122_97 : mcode 122 97 = some (.iastore, 1, 0, 0, 0) := rfl
theorem r122_97 : Rn 122 (97, [x0, x1], .int j :: .int i :: .ref q :: st, a, h) = Kh 122 98 [x0, x1] st a (mias h q i j) := Rn_iast c122_97 rfl
theorem c122_98 : mcode 122 98 = some (.aload_n 0, 1, 0, 0, 0) := rfl
theorem r122_98 : Rn 122 (98, [some (.ref q), x1], st, a, h) = Rn 122 (99, [some (.ref q), x1], .ref q :: st, a, h) := Rn_go c122_98 rfl
theorem c122_99 : mcode 122 99 = some (.getfield 7, 3, 6, 0, 0) := rfl
theorem r122_99 : Rn 122 (99, [x0, x1], .ref q :: st, a, h) = Kv 122 102 [x0, x1] st a h (mgf h q 6 0) := Rn_getf c122_99 rfl
theorem c122_102 : mcode 122 102 = some (.iconst 3, 1, 0, 0, 0) := rfl
theorem r122_102 : Rn 122 (102, [x0, x1], st, a, h) = Rn 122 (103, [x0, x1], .int (3 : Int32) :: st, a, h) := Rn_go c122_102 rfl
theorem c122_103 : mcode 122 103 = some (.iconst 1, 1, 0, 0, 0) := rfl
theorem r122_103 : Rn 122 (103, [x0, x1], st, a, h) = Rn 122 (104, [x0, x1], .int (1 : Int32) :: st, a, h) := Rn_go c122_103 rfl
theorem c122_104 : mcode 122 104 = some (.iastore, 1, 0, 0, 0) := rfl
theorem r122_104 : Rn 122 (104, [x0, x1], .int j :: .int i :: .ref q :: st, a, h) = Kh 122 105 [x0, x1] st a (mias h q i j) := Rn_iast c122_104 rfl
theorem c122_105 : mcode 122 105 = some (.iconst 0, 1, 0, 0, 0) := rfl
theorem r122_105 : Rn 122 (105, [x0, x1], st, a, h) = Rn 122 (106, [x0, x1], .int (0 : Int32) :: st, a, h) := Rn_go c122_105 rfl
theorem c122_106 : mcode 122 106 = some (.istore_n 1, 1, 0, 0, 0) := rfl
theorem r122_106 : Rn 122 (106, [x0, x1], .int i :: st, a, h) = Nl x0 (Rn 122 (107, [x0, some (.int i)], st, a, h)) := Rn_st1 (k := 1) (v := .int i) x0 c122_106 rfl rfl rfl rfl
theorem c122_107 : mcode 122 107 = some (.iload_n 1, 1, 0, 0, 0) := rfl
theorem r122_107 : Rn 122 (107, [x0, some (.int i)], st, a, h) = Rn 122 (108, [x0, some (.int i)], .int i :: st, a, h) := Rn_go c122_107 rfl
theorem c122_108 : mcode 122 108 = some (.bipush 10, 2, 0, 0, 0) := rfl
theorem r122_108 : Rn 122 (108, [x0, x1], st, a, h) = Rn 122 (110, [x0, x1], .int (10 : Int32) :: st, a, h) := Rn_go c122_108 rfl
theorem c122_110 : mcode 122 110 = some (.if_icmp .ge 19, 3, 0, 0, 0) := rfl
theorem r122_110 : Rn 122 (110, [x0, x1], .int j :: .int i :: st, a, h) = if i < j then Rn 122 (113, [x0, x1], st, a, h) else Rn 122 (129, [x0, x1], st, a, h) := Rn_icmpn c122_110 mc_ge rfl rfl
theorem c122_113 : mcode 122 113 = some (.aload_n 0, 1, 0, 0, 0) := rfl
theorem r122_113 : Rn 122 (113, [some (.ref q), x1], st, a, h) = Rn 122 (114, [some (.ref q), x1], .ref q :: st, a, h) := Rn_go c122_113 rfl
theorem c122_114 : mcode 122 114 = some (.getfield 7, 3, 6, 0, 0) := rfl
theorem r122_114 : Rn 122 (114, [x0, x1], .ref q :: st, a, h) = Kv 122 117 [x0, x1] st a h (mgf h q 6 0) := Rn_getf c122_114 rfl
theorem c122_117 : mcode 122 117 = some (.bipush 76, 2, 0, 0, 0) := rfl
theorem r122_117 : Rn 122 (117, [x0, x1], st, a, h) = Rn 122 (119, [x0, x1], .int (76 : Int32) :: st, a, h) := Rn_go c122_117 rfl
theorem c122_119 : mcode 122 119 = some (.iload_n 1, 1, 0, 0, 0) := rfl
theorem r122_119 : Rn 122 (119, [x0, some (.int i)], st, a, h) = Rn 122 (120, [x0, some (.int i)], .int i :: st, a, h) := Rn_go c122_119 rfl
theorem c122_120 : mcode 122 120 = some (.iadd, 1, 0, 0, 0) := rfl
theorem r122_120 : Rn 122 (120, [x0, x1], .int j :: .int i :: st, a, h) = Rn 122 (121, [x0, x1], .int (i + j) :: st, a, h) := Rn_go c122_120 rfl
theorem c122_121 : mcode 122 121 = some (.iconst (-1), 1, 0, 0, 0) := rfl
theorem r122_121 : Rn 122 (121, [x0, x1], st, a, h) = Rn 122 (122, [x0, x1], .int (-1 : Int32) :: st, a, h) := Rn_go c122_121 rfl
theorem c122_122 : mcode 122 122 = some (.iastore, 1, 0, 0, 0) := rfl
theorem r122_122 : Rn 122 (122, [x0, x1], .int j :: .int i :: .ref q :: st, a, h) = Kh 122 123 [x0, x1] st a (mias h q i j) := Rn_iast c122_122 rfl
theorem c122_123 : mcode 122 123 = some (.iinc 1 1, 3, 0, 0, 0) := rfl
theorem r122_123 : Rn 122 (123, [x0, some (.int i)], st, a, h) = Nl x0 (Rn 122 (126, [x0, some (.int (i + (1 : Int32)))], st, a, h)) := Rn_st1 (k := 1) (v := .int (i + (1 : Int32))) x0 c122_123 rfl rfl rfl rfl
theorem c122_126 : mcode 122 126 = some (.goto (-19), 3, 0, 0, 0) := rfl
theorem r122_126 : Rn 122 (126, [x0, x1], st, a, h) = Rn 122 (107, [x0, x1], st, a, h) := Rn_goto c122_126 rfl
theorem c122_129 : mcode 122 129 = some (.return_, 1, 0, 0, 0) := rfl
theorem r122_129 : Rn 122 (129, [x0, x1], [], a, h) = some (none, a, h) := Rn_act c122_129
theorem c123_0 : mcode 123 0 = some (.lload_n 0, 1, 0, 0, 0) := rfl
theorem r123_0 : Rn 123 (0, [some (.long l), x1, x2, x3, x4, x5], st, a, h) = Rn 123 (1, [some (.long l), x1, x2, x3, x4, x5], .long l :: st, a, h) := Rn_go c123_0 rfl
theorem c123_1 : mcode 123 1 = some (.lload_n 2, 1, 0, 0, 0) := rfl
theorem r123_1 : Rn 123 (1, [x0, x1, some (.long l), x3, x4, x5], st, a, h) = Rn 123 (2, [x0, x1, some (.long l), x3, x4, x5], .long l :: st, a, h) := Rn_go c123_1 rfl
theorem c123_2 : mcode 123 2 = some (.lcmp, 1, 0, 0, 0) := rfl
theorem r123_2 : Rn 123 (2, [x0, x1, x2, x3, x4, x5], .long m :: .long l :: st, a, h) = Rn 123 (3, [x0, x1, x2, x3, x4, x5], .int (if l < m then -1 else if l = m then 0 else 1) :: st, a, h) := Rn_go c123_2 rfl
theorem c123_3 : mcode 123 3 = some (.ifCond .lt 14, 3, 0, 0, 0) := rfl
theorem r123_3 : Rn 123 (3, [x0, x1, x2, x3, x4, x5], .int i :: st, a, h) = if i < 0 then Rn 123 (17, [x0, x1, x2, x3, x4, x5], st, a, h) else Rn 123 (6, [x0, x1, x2, x3, x4, x5], st, a, h) := Rn_ifc c123_3 mc_lt rfl rfl
theorem c123_6 : mcode 123 6 = some (.lload_n 0, 1, 0, 0, 0) := rfl
theorem r123_6 : Rn 123 (6, [some (.long l), x1, x2, x3, x4, x5], st, a, h) = Rn 123 (7, [some (.long l), x1, x2, x3, x4, x5], .long l :: st, a, h) := Rn_go c123_6 rfl
theorem c123_7 : mcode 123 7 = some (.lload 4, 2, 0, 0, 0) := rfl
theorem r123_7 : Rn 123 (7, [x0, x1, x2, x3, some (.long l), x5], st, a, h) = Rn 123 (9, [x0, x1, x2, x3, some (.long l), x5], .long l :: st, a, h) := Rn_go c123_7 rfl
theorem c123_9 : mcode 123 9 = some (.lcmp, 1, 0, 0, 0) := rfl
theorem r123_9 : Rn 123 (9, [x0, x1, x2, x3, x4, x5], .long m :: .long l :: st, a, h) = Rn 123 (10, [x0, x1, x2, x3, x4, x5], .int (if l < m then -1 else if l = m then 0 else 1) :: st, a, h) := Rn_go c123_9 rfl
theorem c123_10 : mcode 123 10 = some (.ifCond .gt 7, 3, 0, 0, 0) := rfl
theorem r123_10 : Rn 123 (10, [x0, x1, x2, x3, x4, x5], .int i :: st, a, h) = if 0 < i then Rn 123 (17, [x0, x1, x2, x3, x4, x5], st, a, h) else Rn 123 (13, [x0, x1, x2, x3, x4, x5], st, a, h) := Rn_ifc c123_10 mc_gt rfl rfl
theorem c123_13 : mcode 123 13 = some (.iconst 1, 1, 0, 0, 0) := rfl
theorem r123_13 : Rn 123 (13, [x0, x1, x2, x3, x4, x5], st, a, h) = Rn 123 (14, [x0, x1, x2, x3, x4, x5], .int (1 : Int32) :: st, a, h) := Rn_go c123_13 rfl
theorem c123_14 : mcode 123 14 = some (.goto 4, 3, 0, 0, 0) := rfl
theorem r123_14 : Rn 123 (14, [x0, x1, x2, x3, x4, x5], st, a, h) = Rn 123 (18, [x0, x1, x2, x3, x4, x5], st, a, h) := Rn_goto c123_14 rfl
theorem c123_17 : mcode 123 17 = some (.iconst 0, 1, 0, 0, 0) := rfl
theorem r123_17 : Rn 123 (17, [x0, x1, x2, x3, x4, x5], st, a, h) = Rn 123 (18, [x0, x1, x2, x3, x4, x5], .int (0 : Int32) :: st, a, h) := Rn_go c123_17 rfl
theorem c123_18 : mcode 123 18 = some (.ireturn, 1, 1, 0, 0) := rfl
theorem r123_18 : Rn 123 (18, [x0, x1, x2, x3, x4, x5], [.int i], a, h) = if mrt 1 i = true then some (some (.int i), a, h) else none := Rn_iretz c123_18
theorem c124_0 : mcode 124 0 = some (.aload_n 0, 1, 0, 0, 0) := rfl
theorem r124_0 : Rn 124 (0, [some (.ref q), x1], st, a, h) = Rn 124 (1, [some (.ref q), x1], .ref q :: st, a, h) := Rn_go c124_0 rfl
theorem c124_1 : mcode 124 1 = some (.getfield 22, 3, 6, 5, 0) := rfl
theorem r124_1 : Rn 124 (1, [x0, x1], .ref q :: st, a, h) = Kv 124 4 [x0, x1] st a h (mgf h q 6 5) := Rn_getf c124_1 rfl
theorem c124_4 : mcode 124 4 = some (.iconst 0, 1, 0, 0, 0) := rfl
theorem r124_4 : Rn 124 (4, [x0, x1], st, a, h) = Rn 124 (5, [x0, x1], .int (0 : Int32) :: st, a, h) := Rn_go c124_4 rfl
theorem c124_5 : mcode 124 5 = some (.dup2, 1, 0, 0, 0) := rfl
theorem r124_5 : Rn 124 (5, [x0, x1], .int i :: .ref p :: st, a, h) = Rn 124 (6, [x0, x1], .int i :: .ref p :: .int i :: .ref p :: st, a, h) := Rn_go c124_5 rfl
theorem c124_6 : mcode 124 6 = some (.iaload, 1, 0, 0, 0) := rfl
theorem r124_6 : Rn 124 (6, [x0, x1], .int i :: .ref q :: st, a, h) = Ki 124 7 [x0, x1] st a h (mld h q i false) := Rn_iald c124_6 rfl
theorem c124_7 : mcode 124 7 = some (.iconst 1, 1, 0, 0, 0) := rfl
theorem r124_7 : Rn 124 (7, [x0, x1], st, a, h) = Rn 124 (8, [x0, x1], .int (1 : Int32) :: st, a, h) := Rn_go c124_7 rfl
theorem c124_8 : mcode 124 8 = some (.iadd, 1, 0, 0, 0) := rfl
theorem r124_8 : Rn 124 (8, [x0, x1], .int j :: .int i :: st, a, h) = Rn 124 (9, [x0, x1], .int (i + j) :: st, a, h) := Rn_go c124_8 rfl
theorem c124_9 : mcode 124 9 = some (.iastore, 1, 0, 0, 0) := rfl
theorem r124_9 : Rn 124 (9, [x0, x1], .int j :: .int i :: .ref q :: st, a, h) = Kh 124 10 [x0, x1] st a (mias h q i j) := Rn_iast c124_9 rfl
theorem c124_10 : mcode 124 10 = some (.aload_n 0, 1, 0, 0, 0) := rfl
theorem r124_10 : Rn 124 (10, [some (.ref q), x1], st, a, h) = Rn 124 (11, [some (.ref q), x1], .ref q :: st, a, h) := Rn_go c124_10 rfl
theorem c124_11 : mcode 124 11 = some (.getfield 22, 3, 6, 5, 0) := rfl
theorem r124_11 : Rn 124 (11, [x0, x1], .ref q :: st, a, h) = Kv 124 14 [x0, x1] st a h (mgf h q 6 5) := Rn_getf c124_11 rfl
theorem c124_14 : mcode 124 14 = some (.ldc 37, 2, 0, 0, -1000001) := rfl
theorem r124_14 : Rn 124 (14, [x0, x1], st, a, h) = Rn 124 (16, [x0, x1], .int (-1000001 : Int32) :: st, a, h) := Rn_go c124_14 rfl
theorem c124_16 : mcode 124 16 = some (.iload_n 1, 1, 0, 0, 0) := rfl
theorem r124_16 : Rn 124 (16, [x0, some (.int i)], st, a, h) = Rn 124 (17, [x0, some (.int i)], .int i :: st, a, h) := Rn_go c124_16 rfl
theorem c124_17 : mcode 124 17 = some (.isub, 1, 0, 0, 0) := rfl
theorem r124_17 : Rn 124 (17, [x0, x1], .int j :: .int i :: st, a, h) = Rn 124 (18, [x0, x1], .int (i - j) :: st, a, h) := Rn_go c124_17 rfl
theorem c124_18 : mcode 124 18 = some (.iconst 1, 1, 0, 0, 0) := rfl
theorem r124_18 : Rn 124 (18, [x0, x1], st, a, h) = Rn 124 (19, [x0, x1], .int (1 : Int32) :: st, a, h) := Rn_go c124_18 rfl
theorem c124_19 : mcode 124 19 = some (.iadd, 1, 0, 0, 0) := rfl
theorem r124_19 : Rn 124 (19, [x0, x1], .int j :: .int i :: st, a, h) = Rn 124 (20, [x0, x1], .int (i + j) :: st, a, h) := Rn_go c124_19 rfl
theorem c124_20 : mcode 124 20 = some (.dup2, 1, 0, 0, 0) := rfl
theorem r124_20 : Rn 124 (20, [x0, x1], .int i :: .ref p :: st, a, h) = Rn 124 (21, [x0, x1], .int i :: .ref p :: .int i :: .ref p :: st, a, h) := Rn_go c124_20 rfl
theorem c124_21 : mcode 124 21 = some (.iaload, 1, 0, 0, 0) := rfl
theorem r124_21 : Rn 124 (21, [x0, x1], .int i :: .ref q :: st, a, h) = Ki 124 22 [x0, x1] st a h (mld h q i false) := Rn_iald c124_21 rfl
theorem c124_22 : mcode 124 22 = some (.iconst 1, 1, 0, 0, 0) := rfl
theorem r124_22 : Rn 124 (22, [x0, x1], st, a, h) = Rn 124 (23, [x0, x1], .int (1 : Int32) :: st, a, h) := Rn_go c124_22 rfl
theorem c124_23 : mcode 124 23 = some (.iadd, 1, 0, 0, 0) := rfl
theorem r124_23 : Rn 124 (23, [x0, x1], .int j :: .int i :: st, a, h) = Rn 124 (24, [x0, x1], .int (i + j) :: st, a, h) := Rn_go c124_23 rfl
theorem c124_24 : mcode 124 24 = some (.iastore, 1, 0, 0, 0) := rfl
theorem r124_24 : Rn 124 (24, [x0, x1], .int j :: .int i :: .ref q :: st, a, h) = Kh 124 25 [x0, x1] st a (mias h q i j) := Rn_iast c124_24 rfl
theorem c124_25 : mcode 124 25 = some (.iload_n 1, 1, 0, 0, 0) := rfl
theorem r124_25 : Rn 124 (25, [x0, some (.int i)], st, a, h) = Rn 124 (26, [x0, some (.int i)], .int i :: st, a, h) := Rn_go c124_25 rfl
theorem c124_26 : mcode 124 26 = some (.ireturn, 1, 0, 0, 0) := rfl
theorem r124_26 : Rn 124 (26, [x0, x1], [.int i], a, h) = some (some (.int i), a, h) := Rn_ireti c124_26
theorem c125_0 : mcode 125 0 = some (.aload_n 0, 1, 0, 0, 0) := rfl
theorem r125_0 : Rn 125 (0, [some (.ref q), x1, x2, x3], st, a, h) = Rn 125 (1, [some (.ref q), x1, x2, x3], .ref q :: st, a, h) := Rn_go c125_0 rfl
theorem c125_1 : mcode 125 1 = some (.getfield 7, 3, 6, 0, 0) := rfl
theorem r125_1 : Rn 125 (1, [x0, x1, x2, x3], .ref q :: st, a, h) = Kv 125 4 [x0, x1, x2, x3] st a h (mgf h q 6 0) := Rn_getf c125_1 rfl
theorem c125_4 : mcode 125 4 = some (.iload_n 1, 1, 0, 0, 0) := rfl
theorem r125_4 : Rn 125 (4, [x0, some (.int i), x2, x3], st, a, h) = Rn 125 (5, [x0, some (.int i), x2, x3], .int i :: st, a, h) := Rn_go c125_4 rfl
theorem c125_5 : mcode 125 5 = some (.iaload, 1, 0, 0, 0) := rfl
theorem r125_5 : Rn 125 (5, [x0, x1, x2, x3], .int i :: .ref q :: st, a, h) = Ki 125 6 [x0, x1, x2, x3] st a h (mld h q i false) := Rn_iald c125_5 rfl
theorem c125_6 : mcode 125 6 = some (.istore_n 3, 1, 0, 0, 0) := rfl
theorem r125_6 : Rn 125 (6, [x0, x1, x2, x3], .int i :: st, a, h) = Nl x2 (Rn 125 (7, [x0, x1, x2, some (.int i)], st, a, h)) := Rn_st1 (k := 3) (v := .int i) x2 c125_6 rfl rfl rfl rfl
theorem c125_7 : mcode 125 7 = some (.aload_n 0, 1, 0, 0, 0) := rfl
theorem r125_7 : Rn 125 (7, [some (.ref q), x1, x2, x3], st, a, h) = Rn 125 (8, [some (.ref q), x1, x2, x3], .ref q :: st, a, h) := Rn_go c125_7 rfl
theorem c125_8 : mcode 125 8 = some (.getfield 7, 3, 6, 0, 0) := rfl
theorem r125_8 : Rn 125 (8, [x0, x1, x2, x3], .ref q :: st, a, h) = Kv 125 11 [x0, x1, x2, x3] st a h (mgf h q 6 0) := Rn_getf c125_8 rfl
theorem c125_11 : mcode 125 11 = some (.iload_n 1, 1, 0, 0, 0) := rfl
theorem r125_11 : Rn 125 (11, [x0, some (.int i), x2, x3], st, a, h) = Rn 125 (12, [x0, some (.int i), x2, x3], .int i :: st, a, h) := Rn_go c125_11 rfl
theorem c125_12 : mcode 125 12 = some (.iload_n 2, 1, 0, 0, 0) := rfl
theorem r125_12 : Rn 125 (12, [x0, x1, some (.int i), x3], st, a, h) = Rn 125 (13, [x0, x1, some (.int i), x3], .int i :: st, a, h) := Rn_go c125_12 rfl
theorem c125_13 : mcode 125 13 = some (.iastore, 1, 0, 0, 0) := rfl
theorem r125_13 : Rn 125 (13, [x0, x1, x2, x3], .int j :: .int i :: .ref q :: st, a, h) = Kh 125 14 [x0, x1, x2, x3] st a (mias h q i j) := Rn_iast c125_13 rfl
theorem c125_14 : mcode 125 14 = some (.iload_n 3, 1, 0, 0, 0) := rfl
theorem r125_14 : Rn 125 (14, [x0, x1, x2, some (.int i)], st, a, h) = Rn 125 (15, [x0, x1, x2, some (.int i)], .int i :: st, a, h) := Rn_go c125_14 rfl
theorem c125_15 : mcode 125 15 = some (.ireturn, 1, 0, 0, 0) := rfl
theorem r125_15 : Rn 125 (15, [x0, x1, x2, x3], [.int i], a, h) = some (some (.int i), a, h) := Rn_ireti c125_15
theorem c126_0 : mcode 126 0 = some (.iconst 0, 1, 0, 0, 0) := rfl
theorem r126_0 : Rn 126 (0, [x0, x1, x2], st, a, h) = Rn 126 (1, [x0, x1, x2], .int (0 : Int32) :: st, a, h) := Rn_go c126_0 rfl
theorem c126_1 : mcode 126 1 = some (.istore_n 2, 1, 0, 0, 0) := rfl
theorem r126_1 : Rn 126 (1, [x0, x1, x2], .int i :: st, a, h) = Nl x1 (Rn 126 (2, [x0, x1, some (.int i)], st, a, h)) := Rn_st1 (k := 2) (v := .int i) x1 c126_1 rfl rfl rfl rfl
theorem c126_2 : mcode 126 2 = some (.iload_n 2, 1, 0, 0, 0) := rfl
theorem r126_2 : Rn 126 (2, [x0, x1, some (.int i)], st, a, h) = Rn 126 (3, [x0, x1, some (.int i)], .int i :: st, a, h) := Rn_go c126_2 rfl
theorem c126_3 : mcode 126 3 = some (.bipush 86, 2, 0, 0, 0) := rfl
theorem r126_3 : Rn 126 (3, [x0, x1, x2], st, a, h) = Rn 126 (5, [x0, x1, x2], .int (86 : Int32) :: st, a, h) := Rn_go c126_3 rfl
theorem c126_5 : mcode 126 5 = some (.if_icmp .ge 15, 3, 0, 0, 0) := rfl
theorem r126_5 : Rn 126 (5, [x0, x1, x2], .int j :: .int i :: st, a, h) = if i < j then Rn 126 (8, [x0, x1, x2], st, a, h) else Rn 126 (20, [x0, x1, x2], st, a, h) := Rn_icmpn c126_5 mc_ge rfl rfl
theorem c126_8 : mcode 126 8 = some (.aload_n 1, 1, 0, 0, 0) := rfl
theorem r126_8 : Rn 126 (8, [x0, some (.ref q), x2], st, a, h) = Rn 126 (9, [x0, some (.ref q), x2], .ref q :: st, a, h) := Rn_go c126_8 rfl
theorem c126_9 : mcode 126 9 = some (.iload_n 2, 1, 0, 0, 0) := rfl
theorem r126_9 : Rn 126 (9, [x0, x1, some (.int i)], st, a, h) = Rn 126 (10, [x0, x1, some (.int i)], .int i :: st, a, h) := Rn_go c126_9 rfl
theorem c126_10 : mcode 126 10 = some (.aload_n 0, 1, 0, 0, 0) := rfl
theorem r126_10 : Rn 126 (10, [some (.ref q), x1, x2], st, a, h) = Rn 126 (11, [some (.ref q), x1, x2], .ref q :: st, a, h) := Rn_go c126_10 rfl
theorem c126_11 : mcode 126 11 = some (.iload_n 2, 1, 0, 0, 0) := rfl
theorem r126_11 : Rn 126 (11, [x0, x1, some (.int i)], st, a, h) = Rn 126 (12, [x0, x1, some (.int i)], .int i :: st, a, h) := Rn_go c126_11 rfl
theorem c126_12 : mcode 126 12 = some (.iaload, 1, 0, 0, 0) := rfl
theorem r126_12 : Rn 126 (12, [x0, x1, x2], .int i :: .ref q :: st, a, h) = Ki 126 13 [x0, x1, x2] st a h (mld h q i false) := Rn_iald c126_12 rfl
theorem c126_13 : mcode 126 13 = some (.iastore, 1, 0, 0, 0) := rfl
theorem r126_13 : Rn 126 (13, [x0, x1, x2], .int j :: .int i :: .ref q :: st, a, h) = Kh 126 14 [x0, x1, x2] st a (mias h q i j) := Rn_iast c126_13 rfl
theorem c126_14 : mcode 126 14 = some (.iinc 2 1, 3, 0, 0, 0) := rfl
theorem r126_14 : Rn 126 (14, [x0, x1, some (.int i)], st, a, h) = Nl x1 (Rn 126 (17, [x0, x1, some (.int (i + (1 : Int32)))], st, a, h)) := Rn_st1 (k := 2) (v := .int (i + (1 : Int32))) x1 c126_14 rfl rfl rfl rfl
theorem c126_17 : mcode 126 17 = some (.goto (-15), 3, 0, 0, 0) := rfl
theorem r126_17 : Rn 126 (17, [x0, x1, x2], st, a, h) = Rn 126 (2, [x0, x1, x2], st, a, h) := Rn_goto c126_17 rfl
theorem c126_20 : mcode 126 20 = some (.return_, 1, 0, 0, 0) := rfl
theorem r126_20 : Rn 126 (20, [x0, x1, x2], [], a, h) = some (none, a, h) := Rn_act c126_20
theorem c127_0 : mcode 127 0 = some (.iload_n 0, 1, 0, 0, 0) := rfl
theorem r127_0 : Rn 127 (0, [some (.int i)], st, a, h) = Rn 127 (1, [some (.int i)], .int i :: st, a, h) := Rn_go c127_0 rfl
theorem c127_1 : mcode 127 1 = some (.ifCond .lt 13, 3, 0, 0, 0) := rfl
theorem r127_1 : Rn 127 (1, [x0], .int i :: st, a, h) = if i < 0 then Rn 127 (14, [x0], st, a, h) else Rn 127 (4, [x0], st, a, h) := Rn_ifc c127_1 mc_lt rfl rfl
theorem c127_4 : mcode 127 4 = some (.iload_n 0, 1, 0, 0, 0) := rfl
theorem r127_4 : Rn 127 (4, [some (.int i)], st, a, h) = Rn 127 (5, [some (.int i)], .int i :: st, a, h) := Rn_go c127_4 rfl
theorem c127_5 : mcode 127 5 = some (.bipush 8, 2, 0, 0, 0) := rfl
theorem r127_5 : Rn 127 (5, [x0], st, a, h) = Rn 127 (7, [x0], .int (8 : Int32) :: st, a, h) := Rn_go c127_5 rfl
theorem c127_7 : mcode 127 7 = some (.if_icmp .ge 7, 3, 0, 0, 0) := rfl
theorem r127_7 : Rn 127 (7, [x0], .int j :: .int i :: st, a, h) = if i < j then Rn 127 (10, [x0], st, a, h) else Rn 127 (14, [x0], st, a, h) := Rn_icmpn c127_7 mc_ge rfl rfl
theorem c127_10 : mcode 127 10 = some (.iconst 1, 1, 0, 0, 0) := rfl
theorem r127_10 : Rn 127 (10, [x0], st, a, h) = Rn 127 (11, [x0], .int (1 : Int32) :: st, a, h) := Rn_go c127_10 rfl
theorem c127_11 : mcode 127 11 = some (.goto 4, 3, 0, 0, 0) := rfl
theorem r127_11 : Rn 127 (11, [x0], st, a, h) = Rn 127 (15, [x0], st, a, h) := Rn_goto c127_11 rfl
theorem c127_14 : mcode 127 14 = some (.iconst 0, 1, 0, 0, 0) := rfl
theorem r127_14 : Rn 127 (14, [x0], st, a, h) = Rn 127 (15, [x0], .int (0 : Int32) :: st, a, h) := Rn_go c127_14 rfl
theorem c127_15 : mcode 127 15 = some (.ireturn, 1, 1, 0, 0) := rfl
theorem r127_15 : Rn 127 (15, [x0], [.int i], a, h) = if mrt 1 i = true then some (some (.int i), a, h) else none := Rn_iretz c127_15
theorem c128_0 : mcode 128 0 = some (.iload_n 0, 1, 0, 0, 0) := rfl
theorem r128_0 : Rn 128 (0, [some (.int i)], st, a, h) = Rn 128 (1, [some (.int i)], .int i :: st, a, h) := Rn_go c128_0 rfl
theorem c128_1 : mcode 128 1 = some (.ifCond .lt 12, 3, 0, 0, 0) := rfl
theorem r128_1 : Rn 128 (1, [x0], .int i :: st, a, h) = if i < 0 then Rn 128 (13, [x0], st, a, h) else Rn 128 (4, [x0], st, a, h) := Rn_ifc c128_1 mc_lt rfl rfl
theorem c128_4 : mcode 128 4 = some (.iload_n 0, 1, 0, 0, 0) := rfl
theorem r128_4 : Rn 128 (4, [some (.int i)], st, a, h) = Rn 128 (5, [some (.int i)], .int i :: st, a, h) := Rn_go c128_4 rfl
theorem c128_5 : mcode 128 5 = some (.iconst 3, 1, 0, 0, 0) := rfl
theorem r128_5 : Rn 128 (5, [x0], st, a, h) = Rn 128 (6, [x0], .int (3 : Int32) :: st, a, h) := Rn_go c128_5 rfl
theorem c128_6 : mcode 128 6 = some (.if_icmp .ge 7, 3, 0, 0, 0) := rfl
theorem r128_6 : Rn 128 (6, [x0], .int j :: .int i :: st, a, h) = if i < j then Rn 128 (9, [x0], st, a, h) else Rn 128 (13, [x0], st, a, h) := Rn_icmpn c128_6 mc_ge rfl rfl
theorem c128_9 : mcode 128 9 = some (.iconst 1, 1, 0, 0, 0) := rfl
theorem r128_9 : Rn 128 (9, [x0], st, a, h) = Rn 128 (10, [x0], .int (1 : Int32) :: st, a, h) := Rn_go c128_9 rfl
theorem c128_10 : mcode 128 10 = some (.goto 4, 3, 0, 0, 0) := rfl
theorem r128_10 : Rn 128 (10, [x0], st, a, h) = Rn 128 (14, [x0], st, a, h) := Rn_goto c128_10 rfl
theorem c128_13 : mcode 128 13 = some (.iconst 0, 1, 0, 0, 0) := rfl
theorem r128_13 : Rn 128 (13, [x0], st, a, h) = Rn 128 (14, [x0], .int (0 : Int32) :: st, a, h) := Rn_go c128_13 rfl
theorem c128_14 : mcode 128 14 = some (.ireturn, 1, 1, 0, 0) := rfl
theorem r128_14 : Rn 128 (14, [x0], [.int i], a, h) = if mrt 1 i = true then some (some (.int i), a, h) else none := Rn_iretz c128_14
theorem c129_0 : mcode 129 0 = some (.iload_n 1, 1, 0, 0, 0) := rfl
theorem r129_0 : Rn 129 (0, [x0, some (.int i)], st, a, h) = Rn 129 (1, [x0, some (.int i)], .int i :: st, a, h) := Rn_go c129_0 rfl
theorem c129_1 : mcode 129 1 = some (.ifCond .lt 17, 3, 0, 0, 0) := rfl
theorem r129_1 : Rn 129 (1, [x0, x1], .int i :: st, a, h) = if i < 0 then Rn 129 (18, [x0, x1], st, a, h) else Rn 129 (4, [x0, x1], st, a, h) := Rn_ifc c129_1 mc_lt rfl rfl
theorem c129_4 : mcode 129 4 = some (.iload_n 1, 1, 0, 0, 0) := rfl
theorem r129_4 : Rn 129 (4, [x0, some (.int i)], st, a, h) = Rn 129 (5, [x0, some (.int i)], .int i :: st, a, h) := Rn_go c129_4 rfl
theorem c129_5 : mcode 129 5 = some (.aload_n 0, 1, 0, 0, 0) := rfl
theorem r129_5 : Rn 129 (5, [some (.ref q), x1], st, a, h) = Rn 129 (6, [some (.ref q), x1], .ref q :: st, a, h) := Rn_go c129_5 rfl
theorem c129_6 : mcode 129 6 = some (.getfield 7, 3, 6, 0, 0) := rfl
theorem r129_6 : Rn 129 (6, [x0, x1], .ref q :: st, a, h) = Kv 129 9 [x0, x1] st a h (mgf h q 6 0) := Rn_getf c129_6 rfl
theorem c129_9 : mcode 129 9 = some (.iconst 0, 1, 0, 0, 0) := rfl
theorem r129_9 : Rn 129 (9, [x0, x1], st, a, h) = Rn 129 (10, [x0, x1], .int (0 : Int32) :: st, a, h) := Rn_go c129_9 rfl
theorem c129_10 : mcode 129 10 = some (.iaload, 1, 0, 0, 0) := rfl
theorem r129_10 : Rn 129 (10, [x0, x1], .int i :: .ref q :: st, a, h) = Ki 129 11 [x0, x1] st a h (mld h q i false) := Rn_iald c129_10 rfl
theorem c129_11 : mcode 129 11 = some (.if_icmp .ge 7, 3, 0, 0, 0) := rfl
theorem r129_11 : Rn 129 (11, [x0, x1], .int j :: .int i :: st, a, h) = if i < j then Rn 129 (14, [x0, x1], st, a, h) else Rn 129 (18, [x0, x1], st, a, h) := Rn_icmpn c129_11 mc_ge rfl rfl
theorem c129_14 : mcode 129 14 = some (.iconst 1, 1, 0, 0, 0) := rfl
theorem r129_14 : Rn 129 (14, [x0, x1], st, a, h) = Rn 129 (15, [x0, x1], .int (1 : Int32) :: st, a, h) := Rn_go c129_14 rfl
theorem c129_15 : mcode 129 15 = some (.goto 4, 3, 0, 0, 0) := rfl
theorem r129_15 : Rn 129 (15, [x0, x1], st, a, h) = Rn 129 (19, [x0, x1], st, a, h) := Rn_goto c129_15 rfl
theorem c129_18 : mcode 129 18 = some (.iconst 0, 1, 0, 0, 0) := rfl
theorem r129_18 : Rn 129 (18, [x0, x1], st, a, h) = Rn 129 (19, [x0, x1], .int (0 : Int32) :: st, a, h) := Rn_go c129_18 rfl
theorem c129_19 : mcode 129 19 = some (.ireturn, 1, 1, 0, 0) := rfl
theorem r129_19 : Rn 129 (19, [x0, x1], [.int i], a, h) = if mrt 1 i = true then some (some (.int i), a, h) else none := Rn_iretz c129_19
theorem c130_0 : mcode 130 0 = some (.bipush 28, 2, 0, 0, 0) := rfl
theorem r130_0 : Rn 130 (0, [x0, x1], st, a, h) = Rn 130 (2, [x0, x1], .int (28 : Int32) :: st, a, h) := Rn_go c130_0 rfl
theorem c130_2 : mcode 130 2 = some (.bipush 6, 2, 0, 0, 0) := rfl
theorem r130_2 : Rn 130 (2, [x0, x1], st, a, h) = Rn 130 (4, [x0, x1], .int (6 : Int32) :: st, a, h) := Rn_go c130_2 rfl
theorem c130_4 : mcode 130 4 = some (.iload_n 0, 1, 0, 0, 0) := rfl
theorem r130_4 : Rn 130 (4, [some (.int i), x1], st, a, h) = Rn 130 (5, [some (.int i), x1], .int i :: st, a, h) := Rn_go c130_4 rfl
theorem c130_5 : mcode 130 5 = some (.imul, 1, 0, 0, 0) := rfl
theorem r130_5 : Rn 130 (5, [x0, x1], .int j :: .int i :: st, a, h) = Rn 130 (6, [x0, x1], .int (i * j) :: st, a, h) := Rn_go c130_5 rfl
theorem c130_6 : mcode 130 6 = some (.iadd, 1, 0, 0, 0) := rfl
theorem r130_6 : Rn 130 (6, [x0, x1], .int j :: .int i :: st, a, h) = Rn 130 (7, [x0, x1], .int (i + j) :: st, a, h) := Rn_go c130_6 rfl
theorem c130_7 : mcode 130 7 = some (.iload_n 1, 1, 0, 0, 0) := rfl
theorem r130_7 : Rn 130 (7, [x0, some (.int i)], st, a, h) = Rn 130 (8, [x0, some (.int i)], .int i :: st, a, h) := Rn_go c130_7 rfl
theorem c130_8 : mcode 130 8 = some (.iadd, 1, 0, 0, 0) := rfl
theorem r130_8 : Rn 130 (8, [x0, x1], .int j :: .int i :: st, a, h) = Rn 130 (9, [x0, x1], .int (i + j) :: st, a, h) := Rn_go c130_8 rfl
theorem c130_9 : mcode 130 9 = some (.ireturn, 1, 0, 0, 0) := rfl
theorem r130_9 : Rn 130 (9, [x0, x1], [.int i], a, h) = some (some (.int i), a, h) := Rn_ireti c130_9
theorem c131_0 : mcode 131 0 = some (.aload_n 0, 1, 0, 0, 0) := rfl
theorem r131_0 : Rn 131 (0, [some (.ref q), x1, x2], st, a, h) = Rn 131 (1, [some (.ref q), x1, x2], .ref q :: st, a, h) := Rn_go c131_0 rfl
theorem c131_1 : mcode 131 1 = some (.getfield 7, 3, 6, 0, 0) := rfl
theorem r131_1 : Rn 131 (1, [x0, x1, x2], .ref q :: st, a, h) = Kv 131 4 [x0, x1, x2] st a h (mgf h q 6 0) := Rn_getf c131_1 rfl
theorem c131_4 : mcode 131 4 = some (.bipush 28, 2, 0, 0, 0) := rfl
theorem r131_4 : Rn 131 (4, [x0, x1, x2], st, a, h) = Rn 131 (6, [x0, x1, x2], .int (28 : Int32) :: st, a, h) := Rn_go c131_4 rfl
theorem c131_6 : mcode 131 6 = some (.bipush 6, 2, 0, 0, 0) := rfl
theorem r131_6 : Rn 131 (6, [x0, x1, x2], st, a, h) = Rn 131 (8, [x0, x1, x2], .int (6 : Int32) :: st, a, h) := Rn_go c131_6 rfl
theorem c131_8 : mcode 131 8 = some (.iload_n 1, 1, 0, 0, 0) := rfl
theorem r131_8 : Rn 131 (8, [x0, some (.int i), x2], st, a, h) = Rn 131 (9, [x0, some (.int i), x2], .int i :: st, a, h) := Rn_go c131_8 rfl
theorem c131_9 : mcode 131 9 = some (.imul, 1, 0, 0, 0) := rfl
theorem r131_9 : Rn 131 (9, [x0, x1, x2], .int j :: .int i :: st, a, h) = Rn 131 (10, [x0, x1, x2], .int (i * j) :: st, a, h) := Rn_go c131_9 rfl
theorem c131_10 : mcode 131 10 = some (.iadd, 1, 0, 0, 0) := rfl
theorem r131_10 : Rn 131 (10, [x0, x1, x2], .int j :: .int i :: st, a, h) = Rn 131 (11, [x0, x1, x2], .int (i + j) :: st, a, h) := Rn_go c131_10 rfl
theorem c131_11 : mcode 131 11 = some (.iload_n 2, 1, 0, 0, 0) := rfl
theorem r131_11 : Rn 131 (11, [x0, x1, some (.int i)], st, a, h) = Rn 131 (12, [x0, x1, some (.int i)], .int i :: st, a, h) := Rn_go c131_11 rfl
theorem c131_12 : mcode 131 12 = some (.iadd, 1, 0, 0, 0) := rfl
theorem r131_12 : Rn 131 (12, [x0, x1, x2], .int j :: .int i :: st, a, h) = Rn 131 (13, [x0, x1, x2], .int (i + j) :: st, a, h) := Rn_go c131_12 rfl
theorem c131_13 : mcode 131 13 = some (.iaload, 1, 0, 0, 0) := rfl
theorem r131_13 : Rn 131 (13, [x0, x1, x2], .int i :: .ref q :: st, a, h) = Ki 131 14 [x0, x1, x2] st a h (mld h q i false) := Rn_iald c131_13 rfl
theorem c131_14 : mcode 131 14 = some (.ireturn, 1, 0, 0, 0) := rfl
theorem r131_14 : Rn 131 (14, [x0, x1, x2], [.int i], a, h) = some (some (.int i), a, h) := Rn_ireti c131_14
theorem c132_0 : mcode 132 0 = some (.aload_n 0, 1, 0, 0, 0) := rfl
theorem r132_0 : Rn 132 (0, [some (.ref q), x1, x2], st, a, h) = Rn 132 (1, [some (.ref q), x1, x2], .ref q :: st, a, h) := Rn_go c132_0 rfl
theorem c132_1 : mcode 132 1 = some (.getfield 7, 3, 6, 0, 0) := rfl
theorem r132_1 : Rn 132 (1, [x0, x1, x2], .ref q :: st, a, h) = Kv 132 4 [x0, x1, x2] st a h (mgf h q 6 0) := Rn_getf c132_1 rfl
theorem c132_4 : mcode 132 4 = some (.iconst 4, 1, 0, 0, 0) := rfl
theorem r132_4 : Rn 132 (4, [x0, x1, x2], st, a, h) = Rn 132 (5, [x0, x1, x2], .int (4 : Int32) :: st, a, h) := Rn_go c132_4 rfl
theorem c132_5 : mcode 132 5 = some (.iconst 3, 1, 0, 0, 0) := rfl
theorem r132_5 : Rn 132 (5, [x0, x1, x2], st, a, h) = Rn 132 (6, [x0, x1, x2], .int (3 : Int32) :: st, a, h) := Rn_go c132_5 rfl
theorem c132_6 : mcode 132 6 = some (.iload_n 1, 1, 0, 0, 0) := rfl
theorem r132_6 : Rn 132 (6, [x0, some (.int i), x2], st, a, h) = Rn 132 (7, [x0, some (.int i), x2], .int i :: st, a, h) := Rn_go c132_6 rfl
theorem c132_7 : mcode 132 7 = some (.imul, 1, 0, 0, 0) := rfl
theorem r132_7 : Rn 132 (7, [x0, x1, x2], .int j :: .int i :: st, a, h) = Rn 132 (8, [x0, x1, x2], .int (i * j) :: st, a, h) := Rn_go c132_7 rfl
theorem c132_8 : mcode 132 8 = some (.iadd, 1, 0, 0, 0) := rfl
theorem r132_8 : Rn 132 (8, [x0, x1, x2], .int j :: .int i :: st, a, h) = Rn 132 (9, [x0, x1, x2], .int (i + j) :: st, a, h) := Rn_go c132_8 rfl
theorem c132_9 : mcode 132 9 = some (.iload_n 2, 1, 0, 0, 0) := rfl
theorem r132_9 : Rn 132 (9, [x0, x1, some (.int i)], st, a, h) = Rn 132 (10, [x0, x1, some (.int i)], .int i :: st, a, h) := Rn_go c132_9 rfl
theorem c132_10 : mcode 132 10 = some (.iadd, 1, 0, 0, 0) := rfl
theorem r132_10 : Rn 132 (10, [x0, x1, x2], .int j :: .int i :: st, a, h) = Rn 132 (11, [x0, x1, x2], .int (i + j) :: st, a, h) := Rn_go c132_10 rfl
theorem c132_11 : mcode 132 11 = some (.iaload, 1, 0, 0, 0) := rfl
theorem r132_11 : Rn 132 (11, [x0, x1, x2], .int i :: .ref q :: st, a, h) = Ki 132 12 [x0, x1, x2] st a h (mld h q i false) := Rn_iald c132_11 rfl
theorem c132_12 : mcode 132 12 = some (.ireturn, 1, 0, 0, 0) := rfl
theorem r132_12 : Rn 132 (12, [x0, x1, x2], [.int i], a, h) = some (some (.int i), a, h) := Rn_ireti c132_12
theorem c133_0 : mcode 133 0 = some (.iload_n 0, 1, 0, 0, 0) := rfl
theorem r133_0 : Rn 133 (0, [some (.int i), x1], st, a, h) = Rn 133 (1, [some (.int i), x1], .int i :: st, a, h) := Rn_go c133_0 rfl
theorem c133_1 : mcode 133 1 = some (.iload_n 1, 1, 0, 0, 0) := rfl
theorem r133_1 : Rn 133 (1, [x0, some (.int i)], st, a, h) = Rn 133 (2, [x0, some (.int i)], .int i :: st, a, h) := Rn_go c133_1 rfl
theorem c133_2 : mcode 133 2 = some (.if_icmp .ge 7, 3, 0, 0, 0) := rfl
theorem r133_2 : Rn 133 (2, [x0, x1], .int j :: .int i :: st, a, h) = if i < j then Rn 133 (5, [x0, x1], st, a, h) else Rn 133 (9, [x0, x1], st, a, h) := Rn_icmpn c133_2 mc_ge rfl rfl
theorem c133_5 : mcode 133 5 = some (.iload_n 0, 1, 0, 0, 0) := rfl
theorem r133_5 : Rn 133 (5, [some (.int i), x1], st, a, h) = Rn 133 (6, [some (.int i), x1], .int i :: st, a, h) := Rn_go c133_5 rfl
theorem c133_6 : mcode 133 6 = some (.goto 4, 3, 0, 0, 0) := rfl
theorem r133_6 : Rn 133 (6, [x0, x1], st, a, h) = Rn 133 (10, [x0, x1], st, a, h) := Rn_goto c133_6 rfl
theorem c133_9 : mcode 133 9 = some (.iload_n 1, 1, 0, 0, 0) := rfl
theorem r133_9 : Rn 133 (9, [x0, some (.int i)], st, a, h) = Rn 133 (10, [x0, some (.int i)], .int i :: st, a, h) := Rn_go c133_9 rfl
theorem c133_10 : mcode 133 10 = some (.ireturn, 1, 0, 0, 0) := rfl
theorem r133_10 : Rn 133 (10, [x0, x1], [.int i], a, h) = some (some (.int i), a, h) := Rn_ireti c133_10
theorem c134_0 : mcode 134 0 = some (.iload_n 0, 1, 0, 0, 0) := rfl
theorem r134_0 : Rn 134 (0, [some (.int i), x1], st, a, h) = Rn 134 (1, [some (.int i), x1], .int i :: st, a, h) := Rn_go c134_0 rfl
theorem c134_1 : mcode 134 1 = some (.iload_n 1, 1, 0, 0, 0) := rfl
theorem r134_1 : Rn 134 (1, [x0, some (.int i)], st, a, h) = Rn 134 (2, [x0, some (.int i)], .int i :: st, a, h) := Rn_go c134_1 rfl
theorem c134_2 : mcode 134 2 = some (.if_icmp .le 7, 3, 0, 0, 0) := rfl
theorem r134_2 : Rn 134 (2, [x0, x1], .int j :: .int i :: st, a, h) = if j < i then Rn 134 (5, [x0, x1], st, a, h) else Rn 134 (9, [x0, x1], st, a, h) := Rn_icmpn c134_2 mc_le rfl rfl
theorem c134_5 : mcode 134 5 = some (.iload_n 0, 1, 0, 0, 0) := rfl
theorem r134_5 : Rn 134 (5, [some (.int i), x1], st, a, h) = Rn 134 (6, [some (.int i), x1], .int i :: st, a, h) := Rn_go c134_5 rfl
theorem c134_6 : mcode 134 6 = some (.goto 4, 3, 0, 0, 0) := rfl
theorem r134_6 : Rn 134 (6, [x0, x1], st, a, h) = Rn 134 (10, [x0, x1], st, a, h) := Rn_goto c134_6 rfl
theorem c134_9 : mcode 134 9 = some (.iload_n 1, 1, 0, 0, 0) := rfl
theorem r134_9 : Rn 134 (9, [x0, some (.int i)], st, a, h) = Rn 134 (10, [x0, some (.int i)], .int i :: st, a, h) := Rn_go c134_9 rfl
theorem c134_10 : mcode 134 10 = some (.ireturn, 1, 0, 0, 0) := rfl
theorem r134_10 : Rn 134 (10, [x0, x1], [.int i], a, h) = some (some (.int i), a, h) := Rn_ireti c134_10
theorem c135_0 : mcode 135 0 = some (.iload_n 1, 1, 0, 0, 0) := rfl
theorem r135_0 : Rn 135 (0, [x0, some (.int i)], st, a, h) = Rn 135 (1, [x0, some (.int i)], .int i :: st, a, h) := Rn_go c135_0 rfl
theorem c135_1 : mcode 135 1 = some (.ifCond .ge 12, 3, 0, 0, 0) := rfl
theorem r135_1 : Rn 135 (1, [x0, x1], .int i :: st, a, h) = if i < 0 then Rn 135 (4, [x0, x1], st, a, h) else Rn 135 (13, [x0, x1], st, a, h) := Rn_ifcn c135_1 mc_ge rfl rfl
theorem c135_4 : mcode 135 4 = some (.aload_n 0, 1, 0, 0, 0) := rfl
theorem r135_4 : Rn 135 (4, [some (.ref q), x1], st, a, h) = Rn 135 (5, [some (.ref q), x1], .ref q :: st, a, h) := Rn_go c135_4 rfl
theorem c135_5 : mcode 135 5 = some (.ldc 38, 2, 0, 0, -1000004) := rfl
theorem r135_5 : Rn 135 (5, [x0, x1], st, a, h) = Rn 135 (7, [x0, x1], .int (-1000004 : Int32) :: st, a, h) := Rn_go c135_5 rfl
theorem c135_7 : mcode 135 7 = some (.invokevirtual 39, 3, 124, 1, 6) := rfl
theorem r135_7 : Rn 135 (7, [x0, x1], [v0, .ref q], a, h) = if mis h q 6 = true then Bk 135 10 [x0, x1] [] (Ec 124 [.ref q, v0] a h) else none := Rn_call1 c135_7 rfl (Nat.le_of_ble_eq_true rfl) rfl rfl (Nat.le_of_ble_eq_true rfl)
theorem c135_10 : mcode 135 10 = some (.goto 4, 3, 0, 0, 0) := rfl
theorem r135_10 : Rn 135 (10, [x0, x1], st, a, h) = Rn 135 (14, [x0, x1], st, a, h) := Rn_goto c135_10 rfl
theorem c135_13 : mcode 135 13 = some (.iload_n 1, 1, 0, 0, 0) := rfl
theorem r135_13 : Rn 135 (13, [x0, some (.int i)], st, a, h) = Rn 135 (14, [x0, some (.int i)], .int i :: st, a, h) := Rn_go c135_13 rfl
theorem c135_14 : mcode 135 14 = some (.ireturn, 1, 0, 0, 0) := rfl
theorem r135_14 : Rn 135 (14, [x0, x1], [.int i], a, h) = some (some (.int i), a, h) := Rn_ireti c135_14
theorem c136_0 : mcode 136 0 = some (.iconst 0, 1, 0, 0, 0) := rfl
theorem r136_0 : Rn 136 (0, [x0, x1, x2], st, a, h) = Rn 136 (1, [x0, x1, x2], .int (0 : Int32) :: st, a, h) := Rn_go c136_0 rfl
theorem c136_1 : mcode 136 1 = some (.istore_n 1, 1, 0, 0, 0) := rfl
theorem r136_1 : Rn 136 (1, [x0, x1, x2], .int i :: st, a, h) = Nl x0 (Rn 136 (2, [x0, some (.int i), x2], st, a, h)) := Rn_st1 (k := 1) (v := .int i) x0 c136_1 rfl rfl rfl rfl
theorem c136_2 : mcode 136 2 = some (.iload_n 0, 1, 0, 0, 0) := rfl
theorem r136_2 : Rn 136 (2, [some (.int i), x1, x2], st, a, h) = Rn 136 (3, [some (.int i), x1, x2], .int i :: st, a, h) := Rn_go c136_2 rfl
theorem c136_3 : mcode 136 3 = some (.istore_n 2, 1, 0, 0, 0) := rfl
theorem r136_3 : Rn 136 (3, [x0, x1, x2], .int i :: st, a, h) = Nl x1 (Rn 136 (4, [x0, x1, some (.int i)], st, a, h)) := Rn_st1 (k := 2) (v := .int i) x1 c136_3 rfl rfl rfl rfl
theorem c136_4 : mcode 136 4 = some (.iload_n 2, 1, 0, 0, 0) := rfl
theorem r136_4 : Rn 136 (4, [x0, x1, some (.int i)], st, a, h) = Rn 136 (5, [x0, x1, some (.int i)], .int i :: st, a, h) := Rn_go c136_4 rfl
theorem c136_5 : mcode 136 5 = some (.ifCond .eq 15, 3, 0, 0, 0) := rfl
theorem r136_5 : Rn 136 (5, [x0, x1, x2], .int i :: st, a, h) = if i = 0 then Rn 136 (20, [x0, x1, x2], st, a, h) else Rn 136 (8, [x0, x1, x2], st, a, h) := Rn_ifc c136_5 mc_eq rfl rfl
theorem c136_8 : mcode 136 8 = some (.iinc 1 1, 3, 0, 0, 0) := rfl
theorem r136_8 : Rn 136 (8, [x0, some (.int i), x2], st, a, h) = Nl x0 (Rn 136 (11, [x0, some (.int (i + (1 : Int32))), x2], st, a, h)) := Rn_st1 (k := 1) (v := .int (i + (1 : Int32))) x0 c136_8 rfl rfl rfl rfl
theorem c136_11 : mcode 136 11 = some (.iload_n 2, 1, 0, 0, 0) := rfl
theorem r136_11 : Rn 136 (11, [x0, x1, some (.int i)], st, a, h) = Rn 136 (12, [x0, x1, some (.int i)], .int i :: st, a, h) := Rn_go c136_11 rfl
theorem c136_12 : mcode 136 12 = some (.iload_n 2, 1, 0, 0, 0) := rfl
theorem r136_12 : Rn 136 (12, [x0, x1, some (.int i)], st, a, h) = Rn 136 (13, [x0, x1, some (.int i)], .int i :: st, a, h) := Rn_go c136_12 rfl
theorem c136_13 : mcode 136 13 = some (.iconst 1, 1, 0, 0, 0) := rfl
theorem r136_13 : Rn 136 (13, [x0, x1, x2], st, a, h) = Rn 136 (14, [x0, x1, x2], .int (1 : Int32) :: st, a, h) := Rn_go c136_13 rfl
theorem c136_14 : mcode 136 14 = some (.isub, 1, 0, 0, 0) := rfl
theorem r136_14 : Rn 136 (14, [x0, x1, x2], .int j :: .int i :: st, a, h) = Rn 136 (15, [x0, x1, x2], .int (i - j) :: st, a, h) := Rn_go c136_14 rfl
theorem c136_15 : mcode 136 15 = some (.iand, 1, 0, 0, 0) := rfl
theorem r136_15 : Rn 136 (15, [x0, x1, x2], .int j :: .int i :: st, a, h) = Rn 136 (16, [x0, x1, x2], .int (i &&& j) :: st, a, h) := Rn_go c136_15 rfl
theorem c136_16 : mcode 136 16 = some (.istore_n 2, 1, 0, 0, 0) := rfl
theorem r136_16 : Rn 136 (16, [x0, x1, x2], .int i :: st, a, h) = Nl x1 (Rn 136 (17, [x0, x1, some (.int i)], st, a, h)) := Rn_st1 (k := 2) (v := .int i) x1 c136_16 rfl rfl rfl rfl
theorem c136_17 : mcode 136 17 = some (.goto (-13), 3, 0, 0, 0) := rfl
theorem r136_17 : Rn 136 (17, [x0, x1, x2], st, a, h) = Rn 136 (4, [x0, x1, x2], st, a, h) := Rn_goto c136_17 rfl
theorem c136_20 : mcode 136 20 = some (.iload_n 1, 1, 0, 0, 0) := rfl
theorem r136_20 : Rn 136 (20, [x0, some (.int i), x2], st, a, h) = Rn 136 (21, [x0, some (.int i), x2], .int i :: st, a, h) := Rn_go c136_20 rfl
theorem c136_21 : mcode 136 21 = some (.ireturn, 1, 0, 0, 0) := rfl
theorem r136_21 : Rn 136 (21, [x0, x1, x2], [.int i], a, h) = some (some (.int i), a, h) := Rn_ireti c136_21
theorem c137_0 : mcode 137 0 = some (.iload_n 1, 1, 0, 0, 0) := rfl
theorem r137_0 : Rn 137 (0, [x0, some (.int i), x2, x3], st, a, h) = Rn 137 (1, [x0, some (.int i), x2, x3], .int i :: st, a, h) := Rn_go c137_0 rfl
theorem c137_1 : mcode 137 1 = some (.invokestatic 43, 3, 127, 1, 0) := rfl
theorem r137_1 : Rn 137 (1, [x0, x1, x2, x3], [v0], a, h) = Bk 137 4 [x0, x1, x2, x3] [] (Ec 127 [v0] a h) := Rn_call0 c137_1 (fun z => nomatch z) rfl (Nat.le_of_ble_eq_true rfl) rfl rfl (Nat.le_of_ble_eq_true rfl)
theorem c137_4 : mcode 137 4 = some (.ifCond .eq 37, 3, 0, 0, 0) := rfl
theorem r137_4 : Rn 137 (4, [x0, x1, x2, x3], .int i :: st, a, h) = if i = 0 then Rn 137 (41, [x0, x1, x2, x3], st, a, h) else Rn 137 (7, [x0, x1, x2, x3], st, a, h) := Rn_ifc c137_4 mc_eq rfl rfl
theorem c137_7 : mcode 137 7 = some (.iload_n 2, 1, 0, 0, 0) := rfl
theorem r137_7 : Rn 137 (7, [x0, x1, some (.int i), x3], st, a, h) = Rn 137 (8, [x0, x1, some (.int i), x3], .int i :: st, a, h) := Rn_go c137_7 rfl
theorem c137_8 : mcode 137 8 = some (.invokestatic 47, 3, 128, 1, 0) := rfl
theorem r137_8 : Rn 137 (8, [x0, x1, x2, x3], [v0], a, h) = Bk 137 11 [x0, x1, x2, x3] [] (Ec 128 [v0] a h) := Rn_call0 c137_8 (fun z => nomatch z) rfl (Nat.le_of_ble_eq_true rfl) rfl rfl (Nat.le_of_ble_eq_true rfl)
theorem c137_11 : mcode 137 11 = some (.ifCond .eq 30, 3, 0, 0, 0) := rfl
theorem r137_11 : Rn 137 (11, [x0, x1, x2, x3], .int i :: st, a, h) = if i = 0 then Rn 137 (41, [x0, x1, x2, x3], st, a, h) else Rn 137 (14, [x0, x1, x2, x3], st, a, h) := Rn_ifc c137_11 mc_eq rfl rfl
theorem c137_14 : mcode 137 14 = some (.iload_n 3, 1, 0, 0, 0) := rfl
theorem r137_14 : Rn 137 (14, [x0, x1, x2, some (.int i)], st, a, h) = Rn 137 (15, [x0, x1, x2, some (.int i)], .int i :: st, a, h) := Rn_go c137_14 rfl
theorem c137_15 : mcode 137 15 = some (.i2l, 1, 0, 0, 0) := rfl
theorem r137_15 : Rn 137 (15, [x0, x1, x2, x3], .int i :: st, a, h) = Rn 137 (16, [x0, x1, x2, x3], .long i.toInt64 :: st, a, h) := Rn_go c137_15 rfl
theorem c137_16 : mcode 137 16 = some (.lconst 0, 1, 0, 0, 0) := rfl
theorem r137_16 : Rn 137 (16, [x0, x1, x2, x3], st, a, h) = Rn 137 (17, [x0, x1, x2, x3], .long (0 : Int64) :: st, a, h) := Rn_go c137_16 rfl
theorem c137_17 : mcode 137 17 = some (.ldc2_w 50, 3, 0, 0, 999) := rfl
theorem r137_17 : Rn 137 (17, [x0, x1, x2, x3], st, a, h) = Rn 137 (20, [x0, x1, x2, x3], .long (999 : Int64) :: st, a, h) := Rn_go c137_17 rfl
theorem c137_20 : mcode 137 20 = some (.invokestatic 52, 3, 123, 3, 0) := rfl
theorem r137_20 : Rn 137 (20, [x0, x1, x2, x3], [v2, v1, v0], a, h) = Bk 137 23 [x0, x1, x2, x3] [] (Ec 123 [v0, v1, v2] a h) := Rn_call0 c137_20 (fun z => nomatch z) rfl (Nat.le_of_ble_eq_true rfl) rfl rfl (Nat.le_of_ble_eq_true rfl)
theorem c137_23 : mcode 137 23 = some (.ifCond .eq 18, 3, 0, 0, 0) := rfl
theorem r137_23 : Rn 137 (23, [x0, x1, x2, x3], .int i :: st, a, h) = if i = 0 then Rn 137 (41, [x0, x1, x2, x3], st, a, h) else Rn 137 (26, [x0, x1, x2, x3], st, a, h) := Rn_ifc c137_23 mc_eq rfl rfl
theorem c137_26 : mcode 137 26 = some (.aload_n 0, 1, 0, 0, 0) := rfl
theorem r137_26 : Rn 137 (26, [some (.ref q), x1, x2, x3], st, a, h) = Rn 137 (27, [some (.ref q), x1, x2, x3], .ref q :: st, a, h) := Rn_go c137_26 rfl
theorem c137_27 : mcode 137 27 = some (.iconst 4, 1, 0, 0, 0) := rfl
theorem r137_27 : Rn 137 (27, [x0, x1, x2, x3], st, a, h) = Rn 137 (28, [x0, x1, x2, x3], .int (4 : Int32) :: st, a, h) := Rn_go c137_27 rfl
theorem c137_28 : mcode 137 28 = some (.iconst 3, 1, 0, 0, 0) := rfl
theorem r137_28 : Rn 137 (28, [x0, x1, x2, x3], st, a, h) = Rn 137 (29, [x0, x1, x2, x3], .int (3 : Int32) :: st, a, h) := Rn_go c137_28 rfl
theorem c137_29 : mcode 137 29 = some (.iload_n 1, 1, 0, 0, 0) := rfl
theorem r137_29 : Rn 137 (29, [x0, some (.int i), x2, x3], st, a, h) = Rn 137 (30, [x0, some (.int i), x2, x3], .int i :: st, a, h) := Rn_go c137_29 rfl
theorem c137_30 : mcode 137 30 = some (.imul, 1, 0, 0, 0) := rfl
theorem r137_30 : Rn 137 (30, [x0, x1, x2, x3], .int j :: .int i :: st, a, h) = Rn 137 (31, [x0, x1, x2, x3], .int (i * j) :: st, a, h) := Rn_go c137_30 rfl
theorem c137_31 : mcode 137 31 = some (.iadd, 1, 0, 0, 0) := rfl
theorem r137_31 : Rn 137 (31, [x0, x1, x2, x3], .int j :: .int i :: st, a, h) = Rn 137 (32, [x0, x1, x2, x3], .int (i + j) :: st, a, h) := Rn_go c137_31 rfl
theorem c137_32 : mcode 137 32 = some (.iload_n 2, 1, 0, 0, 0) := rfl
theorem r137_32 : Rn 137 (32, [x0, x1, some (.int i), x3], st, a, h) = Rn 137 (33, [x0, x1, some (.int i), x3], .int i :: st, a, h) := Rn_go c137_32 rfl
theorem c137_33 : mcode 137 33 = some (.iadd, 1, 0, 0, 0) := rfl
theorem r137_33 : Rn 137 (33, [x0, x1, x2, x3], .int j :: .int i :: st, a, h) = Rn 137 (34, [x0, x1, x2, x3], .int (i + j) :: st, a, h) := Rn_go c137_33 rfl
theorem c137_34 : mcode 137 34 = some (.iload_n 3, 1, 0, 0, 0) := rfl
theorem r137_34 : Rn 137 (34, [x0, x1, x2, some (.int i)], st, a, h) = Rn 137 (35, [x0, x1, x2, some (.int i)], .int i :: st, a, h) := Rn_go c137_34 rfl
theorem c137_35 : mcode 137 35 = some (.invokevirtual 56, 3, 125, 2, 6) := rfl
theorem r137_35 : Rn 137 (35, [x0, x1, x2, x3], [v1, v0, .ref q], a, h) = if mis h q 6 = true then Bk 137 38 [x0, x1, x2, x3] [] (Ec 125 [.ref q, v0, v1] a h) else none := Rn_call1 c137_35 rfl (Nat.le_of_ble_eq_true rfl) rfl rfl (Nat.le_of_ble_eq_true rfl)
theorem c137_38 : mcode 137 38 = some (.goto 9, 3, 0, 0, 0) := rfl
theorem r137_38 : Rn 137 (38, [x0, x1, x2, x3], st, a, h) = Rn 137 (47, [x0, x1, x2, x3], st, a, h) := Rn_goto c137_38 rfl
theorem c137_41 : mcode 137 41 = some (.aload_n 0, 1, 0, 0, 0) := rfl
theorem r137_41 : Rn 137 (41, [some (.ref q), x1, x2, x3], st, a, h) = Rn 137 (42, [some (.ref q), x1, x2, x3], .ref q :: st, a, h) := Rn_go c137_41 rfl
theorem c137_42 : mcode 137 42 = some (.ldc 37, 2, 0, 0, -1000001) := rfl
theorem r137_42 : Rn 137 (42, [x0, x1, x2, x3], st, a, h) = Rn 137 (44, [x0, x1, x2, x3], .int (-1000001 : Int32) :: st, a, h) := Rn_go c137_42 rfl
theorem c137_44 : mcode 137 44 = some (.invokevirtual 39, 3, 124, 1, 6) := rfl
theorem r137_44 : Rn 137 (44, [x0, x1, x2, x3], [v0, .ref q], a, h) = if mis h q 6 = true then Bk 137 47 [x0, x1, x2, x3] [] (Ec 124 [.ref q, v0] a h) else none := Rn_call1 c137_44 rfl (Nat.le_of_ble_eq_true rfl) rfl rfl (Nat.le_of_ble_eq_true rfl)
theorem c137_47 : mcode 137 47 = some (.ireturn, 1, 0, 0, 0) := rfl
theorem r137_47 : Rn 137 (47, [x0, x1, x2, x3], [.int i], a, h) = some (some (.int i), a, h) := Rn_ireti c137_47
theorem c138_0 : mcode 138 0 = some (.aload_n 0, 1, 0, 0, 0) := rfl
theorem r138_0 : Rn 138 (0, [some (.ref q), x1], st, a, h) = Rn 138 (1, [some (.ref q), x1], .ref q :: st, a, h) := Rn_go c138_0 rfl
theorem c138_1 : mcode 138 1 = some (.iload_n 1, 1, 0, 0, 0) := rfl
theorem r138_1 : Rn 138 (1, [x0, some (.int i)], st, a, h) = Rn 138 (2, [x0, some (.int i)], .int i :: st, a, h) := Rn_go c138_1 rfl
theorem c138_2 : mcode 138 2 = some (.iconst 0, 1, 0, 0, 0) := rfl
theorem r138_2 : Rn 138 (2, [x0, x1], st, a, h) = Rn 138 (3, [x0, x1], .int (0 : Int32) :: st, a, h) := Rn_go c138_2 rfl
theorem c138_3 : mcode 138 3 = some (.invokevirtual 60, 3, 132, 2, 6) := rfl
theorem r138_3 : Rn 138 (3, [x0, x1], [v1, v0, .ref q], a, h) = if mis h q 6 = true then Bk 138 6 [x0, x1] [] (Ec 132 [.ref q, v0, v1] a h) else none := Rn_call1 c138_3 rfl (Nat.le_of_ble_eq_true rfl) rfl rfl (Nat.le_of_ble_eq_true rfl)
theorem c138_6 : mcode 138 6 = some (.aload_n 0, 1, 0, 0, 0) := rfl
theorem r138_6 : Rn 138 (6, [some (.ref q), x1], st, a, h) = Rn 138 (7, [some (.ref q), x1], .ref q :: st, a, h) := Rn_go c138_6 rfl
theorem c138_7 : mcode 138 7 = some (.iload_n 1, 1, 0, 0, 0) := rfl
theorem r138_7 : Rn 138 (7, [x0, some (.int i)], st, a, h) = Rn 138 (8, [x0, some (.int i)], .int i :: st, a, h) := Rn_go c138_7 rfl
theorem c138_8 : mcode 138 8 = some (.iconst 1, 1, 0, 0, 0) := rfl
theorem r138_8 : Rn 138 (8, [x0, x1], st, a, h) = Rn 138 (9, [x0, x1], .int (1 : Int32) :: st, a, h) := Rn_go c138_8 rfl
theorem c138_9 : mcode 138 9 = some (.invokevirtual 60, 3, 132, 2, 6) := rfl
theorem r138_9 : Rn 138 (9, [x0, x1], [v1, v0, .ref q, .int i0], a, h) = if mis h q 6 = true then Bk 138 12 [x0, x1] [.int i0] (Ec 132 [.ref q, v0, v1] a h) else none := Rn_call1 c138_9 rfl (Nat.le_of_ble_eq_true rfl) rfl rfl (Nat.le_of_ble_eq_true rfl)
theorem c138_12 : mcode 138 12 = some (.iadd, 1, 0, 0, 0) := rfl
theorem r138_12 : Rn 138 (12, [x0, x1], .int j :: .int i :: st, a, h) = Rn 138 (13, [x0, x1], .int (i + j) :: st, a, h) := Rn_go c138_12 rfl
theorem c138_13 : mcode 138 13 = some (.aload_n 0, 1, 0, 0, 0) := rfl
theorem r138_13 : Rn 138 (13, [some (.ref q), x1], st, a, h) = Rn 138 (14, [some (.ref q), x1], .ref q :: st, a, h) := Rn_go c138_13 rfl
theorem c138_14 : mcode 138 14 = some (.iload_n 1, 1, 0, 0, 0) := rfl
theorem r138_14 : Rn 138 (14, [x0, some (.int i)], st, a, h) = Rn 138 (15, [x0, some (.int i)], .int i :: st, a, h) := Rn_go c138_14 rfl
theorem c138_15 : mcode 138 15 = some (.iconst 2, 1, 0, 0, 0) := rfl
theorem r138_15 : Rn 138 (15, [x0, x1], st, a, h) = Rn 138 (16, [x0, x1], .int (2 : Int32) :: st, a, h) := Rn_go c138_15 rfl
theorem c138_16 : mcode 138 16 = some (.invokevirtual 60, 3, 132, 2, 6) := rfl
theorem r138_16 : Rn 138 (16, [x0, x1], [v1, v0, .ref q, .int i0], a, h) = if mis h q 6 = true then Bk 138 19 [x0, x1] [.int i0] (Ec 132 [.ref q, v0, v1] a h) else none := Rn_call1 c138_16 rfl (Nat.le_of_ble_eq_true rfl) rfl rfl (Nat.le_of_ble_eq_true rfl)
theorem c138_19 : mcode 138 19 = some (.iadd, 1, 0, 0, 0) := rfl
theorem r138_19 : Rn 138 (19, [x0, x1], .int j :: .int i :: st, a, h) = Rn 138 (20, [x0, x1], .int (i + j) :: st, a, h) := Rn_go c138_19 rfl
theorem c138_20 : mcode 138 20 = some (.ireturn, 1, 0, 0, 0) := rfl
theorem r138_20 : Rn 138 (20, [x0, x1], [.int i], a, h) = some (some (.int i), a, h) := Rn_ireti c138_20
theorem c139_0 : mcode 139 0 = some (.iconst 0, 1, 0, 0, 0) := rfl
theorem r139_0 : Rn 139 (0, [x0, x1, x2, x3], st, a, h) = Rn 139 (1, [x0, x1, x2, x3], .int (0 : Int32) :: st, a, h) := Rn_go c139_0 rfl
theorem c139_1 : mcode 139 1 = some (.istore_n 2, 1, 0, 0, 0) := rfl
theorem r139_1 : Rn 139 (1, [x0, x1, x2, x3], .int i :: st, a, h) = Nl x1 (Rn 139 (2, [x0, x1, some (.int i), x3], st, a, h)) := Rn_st1 (k := 2) (v := .int i) x1 c139_1 rfl rfl rfl rfl
theorem c139_2 : mcode 139 2 = some (.iconst 0, 1, 0, 0, 0) := rfl
theorem r139_2 : Rn 139 (2, [x0, x1, x2, x3], st, a, h) = Rn 139 (3, [x0, x1, x2, x3], .int (0 : Int32) :: st, a, h) := Rn_go c139_2 rfl
theorem c139_3 : mcode 139 3 = some (.istore_n 3, 1, 0, 0, 0) := rfl
theorem r139_3 : Rn 139 (3, [x0, x1, x2, x3], .int i :: st, a, h) = Nl x2 (Rn 139 (4, [x0, x1, x2, some (.int i)], st, a, h)) := Rn_st1 (k := 3) (v := .int i) x2 c139_3 rfl rfl rfl rfl
theorem c139_4 : mcode 139 4 = some (.iload_n 3, 1, 0, 0, 0) := rfl
theorem r139_4 : Rn 139 (4, [x0, x1, x2, some (.int i)], st, a, h) = Rn 139 (5, [x0, x1, x2, some (.int i)], .int i :: st, a, h) := Rn_go c139_4 rfl
theorem c139_5 : mcode 139 5 = some (.aload_n 0, 1, 0, 0, 0) := rfl
theorem r139_5 : Rn 139 (5, [some (.ref q), x1, x2, x3], st, a, h) = Rn 139 (6, [some (.ref q), x1, x2, x3], .ref q :: st, a, h) := Rn_go c139_5 rfl
theorem c139_6 : mcode 139 6 = some (.getfield 7, 3, 6, 0, 0) := rfl
theorem r139_6 : Rn 139 (6, [x0, x1, x2, x3], .ref q :: st, a, h) = Kv 139 9 [x0, x1, x2, x3] st a h (mgf h q 6 0) := Rn_getf c139_6 rfl
theorem c139_9 : mcode 139 9 = some (.iconst 0, 1, 0, 0, 0) := rfl
theorem r139_9 : Rn 139 (9, [x0, x1, x2, x3], st, a, h) = Rn 139 (10, [x0, x1, x2, x3], .int (0 : Int32) :: st, a, h) := Rn_go c139_9 rfl
theorem c139_10 : mcode 139 10 = some (.iaload, 1, 0, 0, 0) := rfl
theorem r139_10 : Rn 139 (10, [x0, x1, x2, x3], .int i :: .ref q :: st, a, h) = Ki 139 11 [x0, x1, x2, x3] st a h (mld h q i false) := Rn_iald c139_10 rfl
theorem c139_11 : mcode 139 11 = some (.if_icmp .ge 29, 3, 0, 0, 0) := rfl
theorem r139_11 : Rn 139 (11, [x0, x1, x2, x3], .int j :: .int i :: st, a, h) = if i < j then Rn 139 (14, [x0, x1, x2, x3], st, a, h) else Rn 139 (40, [x0, x1, x2, x3], st, a, h) := Rn_icmpn c139_11 mc_ge rfl rfl
theorem c139_14 : mcode 139 14 = some (.iload_n 2, 1, 0, 0, 0) := rfl
theorem r139_14 : Rn 139 (14, [x0, x1, some (.int i), x3], st, a, h) = Rn 139 (15, [x0, x1, some (.int i), x3], .int i :: st, a, h) := Rn_go c139_14 rfl
theorem c139_15 : mcode 139 15 = some (.aload_n 0, 1, 0, 0, 0) := rfl
theorem r139_15 : Rn 139 (15, [some (.ref q), x1, x2, x3], st, a, h) = Rn 139 (16, [some (.ref q), x1, x2, x3], .ref q :: st, a, h) := Rn_go c139_15 rfl
theorem c139_16 : mcode 139 16 = some (.iload_n 3, 1, 0, 0, 0) := rfl
theorem r139_16 : Rn 139 (16, [x0, x1, x2, some (.int i)], st, a, h) = Rn 139 (17, [x0, x1, x2, some (.int i)], .int i :: st, a, h) := Rn_go c139_16 rfl
theorem c139_17 : mcode 139 17 = some (.iconst 1, 1, 0, 0, 0) := rfl
theorem r139_17 : Rn 139 (17, [x0, x1, x2, x3], st, a, h) = Rn 139 (18, [x0, x1, x2, x3], .int (1 : Int32) :: st, a, h) := Rn_go c139_17 rfl
theorem c139_18 : mcode 139 18 = some (.invokevirtual 63, 3, 131, 2, 6) := rfl
theorem r139_18 : Rn 139 (18, [x0, x1, x2, x3], [v1, v0, .ref q, .int i0], a, h) = if mis h q 6 = true then Bk 139 21 [x0, x1, x2, x3] [.int i0] (Ec 131 [.ref q, v0, v1] a h) else none := Rn_call1 c139_18 rfl (Nat.le_of_ble_eq_true rfl) rfl rfl (Nat.le_of_ble_eq_true rfl)
theorem c139_21 : mcode 139 21 = some (.iload_n 1, 1, 0, 0, 0) := rfl
theorem r139_21 : Rn 139 (21, [x0, some (.int i), x2, x3], st, a, h) = Rn 139 (22, [x0, some (.int i), x2, x3], .int i :: st, a, h) := Rn_go c139_21 rfl
theorem c139_22 : mcode 139 22 = some (.if_icmp .ne 9, 3, 0, 0, 0) := rfl
theorem r139_22 : Rn 139 (22, [x0, x1, x2, x3], .int j :: .int i :: st, a, h) = if i = j then Rn 139 (25, [x0, x1, x2, x3], st, a, h) else Rn 139 (31, [x0, x1, x2, x3], st, a, h) := Rn_icmpn c139_22 mc_ne rfl rfl
theorem c139_25 : mcode 139 25 = some (.iconst 1, 1, 0, 0, 0) := rfl
theorem r139_25 : Rn 139 (25, [x0, x1, x2, x3], st, a, h) = Rn 139 (26, [x0, x1, x2, x3], .int (1 : Int32) :: st, a, h) := Rn_go c139_25 rfl
theorem c139_26 : mcode 139 26 = some (.iload_n 3, 1, 0, 0, 0) := rfl
theorem r139_26 : Rn 139 (26, [x0, x1, x2, some (.int i)], st, a, h) = Rn 139 (27, [x0, x1, x2, some (.int i)], .int i :: st, a, h) := Rn_go c139_26 rfl
theorem c139_27 : mcode 139 27 = some (.ishl, 1, 0, 0, 0) := rfl
theorem r139_27 : Rn 139 (27, [x0, x1, x2, x3], .int j :: .int i :: st, a, h) = Rn 139 (28, [x0, x1, x2, x3], .int (i <<< (j &&& 31)) :: st, a, h) := Rn_go c139_27 rfl
theorem c139_28 : mcode 139 28 = some (.goto 4, 3, 0, 0, 0) := rfl
theorem r139_28 : Rn 139 (28, [x0, x1, x2, x3], st, a, h) = Rn 139 (32, [x0, x1, x2, x3], st, a, h) := Rn_goto c139_28 rfl
theorem c139_31 : mcode 139 31 = some (.iconst 0, 1, 0, 0, 0) := rfl
theorem r139_31 : Rn 139 (31, [x0, x1, x2, x3], st, a, h) = Rn 139 (32, [x0, x1, x2, x3], .int (0 : Int32) :: st, a, h) := Rn_go c139_31 rfl
theorem c139_32 : mcode 139 32 = some (.ior, 1, 0, 0, 0) := rfl
theorem r139_32 : Rn 139 (32, [x0, x1, x2, x3], .int j :: .int i :: st, a, h) = Rn 139 (33, [x0, x1, x2, x3], .int (i ||| j) :: st, a, h) := Rn_go c139_32 rfl
theorem c139_33 : mcode 139 33 = some (.istore_n 2, 1, 0, 0, 0) := rfl
theorem r139_33 : Rn 139 (33, [x0, x1, x2, x3], .int i :: st, a, h) = Nl x1 (Rn 139 (34, [x0, x1, some (.int i), x3], st, a, h)) := Rn_st1 (k := 2) (v := .int i) x1 c139_33 rfl rfl rfl rfl
theorem c139_34 : mcode 139 34 = some (.iinc 3 1, 3, 0, 0, 0) := rfl
theorem r139_34 : Rn 139 (34, [x0, x1, x2, some (.int i)], st, a, h) = Nl x2 (Rn 139 (37, [x0, x1, x2, some (.int (i + (1 : Int32)))], st, a, h)) := Rn_st1 (k := 3) (v := .int (i + (1 : Int32))) x2 c139_34 rfl rfl rfl rfl
theorem c139_37 : mcode 139 37 = some (.goto (-33), 3, 0, 0, 0) := rfl
theorem r139_37 : Rn 139 (37, [x0, x1, x2, x3], st, a, h) = Rn 139 (4, [x0, x1, x2, x3], st, a, h) := Rn_goto c139_37 rfl
theorem c139_40 : mcode 139 40 = some (.iload_n 2, 1, 0, 0, 0) := rfl
theorem r139_40 : Rn 139 (40, [x0, x1, some (.int i), x3], st, a, h) = Rn 139 (41, [x0, x1, some (.int i), x3], .int i :: st, a, h) := Rn_go c139_40 rfl
theorem c139_41 : mcode 139 41 = some (.ireturn, 1, 0, 0, 0) := rfl
theorem r139_41 : Rn 139 (41, [x0, x1, x2, x3], [.int i], a, h) = some (some (.int i), a, h) := Rn_ireti c139_41
theorem c140_0 : mcode 140 0 = some (.aload_n 0, 1, 0, 0, 0) := rfl
theorem r140_0 : Rn 140 (0, [some (.ref q), x1, x2], st, a, h) = Rn 140 (1, [some (.ref q), x1, x2], .ref q :: st, a, h) := Rn_go c140_0 rfl
theorem c140_1 : mcode 140 1 = some (.iload_n 1, 1, 0, 0, 0) := rfl
theorem r140_1 : Rn 140 (1, [x0, some (.int i), x2], st, a, h) = Rn 140 (2, [x0, some (.int i), x2], .int i :: st, a, h) := Rn_go c140_1 rfl
theorem c140_2 : mcode 140 2 = some (.iconst 1, 1, 0, 0, 0) := rfl
theorem r140_2 : Rn 140 (2, [x0, x1, x2], st, a, h) = Rn 140 (3, [x0, x1, x2], .int (1 : Int32) :: st, a, h) := Rn_go c140_2 rfl
theorem c140_3 : mcode 140 3 = some (.invokevirtual 60, 3, 132, 2, 6) := rfl
theorem r140_3 : Rn 140 (3, [x0, x1, x2], [v1, v0, .ref q], a, h) = if mis h q 6 = true then Bk 140 6 [x0, x1, x2] [] (Ec 132 [.ref q, v0, v1] a h) else none := Rn_call1 c140_3 rfl (Nat.le_of_ble_eq_true rfl) rfl rfl (Nat.le_of_ble_eq_true rfl)
theorem c140_6 : mcode 140 6 = some (.aload_n 0, 1, 0, 0, 0) := rfl
theorem r140_6 : Rn 140 (6, [some (.ref q), x1, x2], st, a, h) = Rn 140 (7, [some (.ref q), x1, x2], .ref q :: st, a, h) := Rn_go c140_6 rfl
theorem c140_7 : mcode 140 7 = some (.iload_n 1, 1, 0, 0, 0) := rfl
theorem r140_7 : Rn 140 (7, [x0, some (.int i), x2], st, a, h) = Rn 140 (8, [x0, some (.int i), x2], .int i :: st, a, h) := Rn_go c140_7 rfl
theorem c140_8 : mcode 140 8 = some (.iconst 0, 1, 0, 0, 0) := rfl
theorem r140_8 : Rn 140 (8, [x0, x1, x2], st, a, h) = Rn 140 (9, [x0, x1, x2], .int (0 : Int32) :: st, a, h) := Rn_go c140_8 rfl
theorem c140_9 : mcode 140 9 = some (.invokevirtual 60, 3, 132, 2, 6) := rfl
theorem r140_9 : Rn 140 (9, [x0, x1, x2], [v1, v0, .ref q, .int i0], a, h) = if mis h q 6 = true then Bk 140 12 [x0, x1, x2] [.int i0] (Ec 132 [.ref q, v0, v1] a h) else none := Rn_call1 c140_9 rfl (Nat.le_of_ble_eq_true rfl) rfl rfl (Nat.le_of_ble_eq_true rfl)
theorem c140_12 : mcode 140 12 = some (.if_icmp .le 7, 3, 0, 0, 0) := rfl
theorem r140_12 : Rn 140 (12, [x0, x1, x2], .int j :: .int i :: st, a, h) = if j < i then Rn 140 (15, [x0, x1, x2], st, a, h) else Rn 140 (19, [x0, x1, x2], st, a, h) := Rn_icmpn c140_12 mc_le rfl rfl
theorem c140_15 : mcode 140 15 = some (.iconst 1, 1, 0, 0, 0) := rfl
theorem r140_15 : Rn 140 (15, [x0, x1, x2], st, a, h) = Rn 140 (16, [x0, x1, x2], .int (1 : Int32) :: st, a, h) := Rn_go c140_15 rfl
theorem c140_16 : mcode 140 16 = some (.goto 4, 3, 0, 0, 0) := rfl
theorem r140_16 : Rn 140 (16, [x0, x1, x2], st, a, h) = Rn 140 (20, [x0, x1, x2], st, a, h) := Rn_goto c140_16 rfl
theorem c140_19 : mcode 140 19 = some (.iconst 0, 1, 0, 0, 0) := rfl
theorem r140_19 : Rn 140 (19, [x0, x1, x2], st, a, h) = Rn 140 (20, [x0, x1, x2], .int (0 : Int32) :: st, a, h) := Rn_go c140_19 rfl
theorem c140_20 : mcode 140 20 = some (.istore_n 2, 1, 0, 0, 0) := rfl
theorem r140_20 : Rn 140 (20, [x0, x1, x2], .int i :: st, a, h) = Nl x1 (Rn 140 (21, [x0, x1, some (.int i)], st, a, h)) := Rn_st1 (k := 2) (v := .int i) x1 c140_20 rfl rfl rfl rfl
theorem c140_21 : mcode 140 21 = some (.aload_n 0, 1, 0, 0, 0) := rfl
theorem r140_21 : Rn 140 (21, [some (.ref q), x1, x2], st, a, h) = Rn 140 (22, [some (.ref q), x1, x2], .ref q :: st, a, h) := Rn_go c140_21 rfl
theorem c140_22 : mcode 140 22 = some (.iload_n 1, 1, 0, 0, 0) := rfl
theorem r140_22 : Rn 140 (22, [x0, some (.int i), x2], st, a, h) = Rn 140 (23, [x0, some (.int i), x2], .int i :: st, a, h) := Rn_go c140_22 rfl
theorem c140_23 : mcode 140 23 = some (.iconst 2, 1, 0, 0, 0) := rfl
theorem r140_23 : Rn 140 (23, [x0, x1, x2], st, a, h) = Rn 140 (24, [x0, x1, x2], .int (2 : Int32) :: st, a, h) := Rn_go c140_23 rfl
theorem c140_24 : mcode 140 24 = some (.invokevirtual 60, 3, 132, 2, 6) := rfl
theorem r140_24 : Rn 140 (24, [x0, x1, x2], [v1, v0, .ref q], a, h) = if mis h q 6 = true then Bk 140 27 [x0, x1, x2] [] (Ec 132 [.ref q, v0, v1] a h) else none := Rn_call1 c140_24 rfl (Nat.le_of_ble_eq_true rfl) rfl rfl (Nat.le_of_ble_eq_true rfl)
theorem c140_27 : mcode 140 27 = some (.aload_n 0, 1, 0, 0, 0) := rfl
theorem r140_27 : Rn 140 (27, [some (.ref q), x1, x2], st, a, h) = Rn 140 (28, [some (.ref q), x1, x2], .ref q :: st, a, h) := Rn_go c140_27 rfl
theorem c140_28 : mcode 140 28 = some (.iload_n 1, 1, 0, 0, 0) := rfl
theorem r140_28 : Rn 140 (28, [x0, some (.int i), x2], st, a, h) = Rn 140 (29, [x0, some (.int i), x2], .int i :: st, a, h) := Rn_go c140_28 rfl
theorem c140_29 : mcode 140 29 = some (.iload_n 2, 1, 0, 0, 0) := rfl
theorem r140_29 : Rn 140 (29, [x0, x1, some (.int i)], st, a, h) = Rn 140 (30, [x0, x1, some (.int i)], .int i :: st, a, h) := Rn_go c140_29 rfl
theorem c140_30 : mcode 140 30 = some (.invokevirtual 60, 3, 132, 2, 6) := rfl
theorem r140_30 : Rn 140 (30, [x0, x1, x2], [v1, v0, .ref q, .int i0], a, h) = if mis h q 6 = true then Bk 140 33 [x0, x1, x2] [.int i0] (Ec 132 [.ref q, v0, v1] a h) else none := Rn_call1 c140_30 rfl (Nat.le_of_ble_eq_true rfl) rfl rfl (Nat.le_of_ble_eq_true rfl)
theorem c140_33 : mcode 140 33 = some (.if_icmp .le 7, 3, 0, 0, 0) := rfl
theorem r140_33 : Rn 140 (33, [x0, x1, x2], .int j :: .int i :: st, a, h) = if j < i then Rn 140 (36, [x0, x1, x2], st, a, h) else Rn 140 (40, [x0, x1, x2], st, a, h) := Rn_icmpn c140_33 mc_le rfl rfl
theorem c140_36 : mcode 140 36 = some (.iconst 2, 1, 0, 0, 0) := rfl
theorem r140_36 : Rn 140 (36, [x0, x1, x2], st, a, h) = Rn 140 (37, [x0, x1, x2], .int (2 : Int32) :: st, a, h) := Rn_go c140_36 rfl
theorem c140_37 : mcode 140 37 = some (.goto 4, 3, 0, 0, 0) := rfl
theorem r140_37 : Rn 140 (37, [x0, x1, x2], st, a, h) = Rn 140 (41, [x0, x1, x2], st, a, h) := Rn_goto c140_37 rfl
theorem c140_40 : mcode 140 40 = some (.iload_n 2, 1, 0, 0, 0) := rfl
theorem r140_40 : Rn 140 (40, [x0, x1, some (.int i)], st, a, h) = Rn 140 (41, [x0, x1, some (.int i)], .int i :: st, a, h) := Rn_go c140_40 rfl
theorem c140_41 : mcode 140 41 = some (.ireturn, 1, 0, 0, 0) := rfl
theorem r140_41 : Rn 140 (41, [x0, x1, x2], [.int i], a, h) = some (some (.int i), a, h) := Rn_ireti c140_41
theorem c141_0 : mcode 141 0 = some (.iload_n 1, 1, 0, 0, 0) := rfl
theorem r141_0 : Rn 141 (0, [x0, some (.int i), x2], st, a, h) = Rn 141 (1, [x0, some (.int i), x2], .int i :: st, a, h) := Rn_go c141_0 rfl
theorem c141_1 : mcode 141 1 = some (.invokestatic 43, 3, 127, 1, 0) := rfl
theorem r141_1 : Rn 141 (1, [x0, x1, x2], [v0], a, h) = Bk 141 4 [x0, x1, x2] [] (Ec 127 [v0] a h) := Rn_call0 c141_1 (fun z => nomatch z) rfl (Nat.le_of_ble_eq_true rfl) rfl rfl (Nat.le_of_ble_eq_true rfl)
theorem c141_4 : mcode 141 4 = some (.ifCond .eq 15, 3, 0, 0, 0) := rfl
theorem r141_4 : Rn 141 (4, [x0, x1, x2], .int i :: st, a, h) = if i = 0 then Rn 141 (19, [x0, x1, x2], st, a, h) else Rn 141 (7, [x0, x1, x2], st, a, h) := Rn_ifc c141_4 mc_eq rfl rfl
theorem c141_7 : mcode 141 7 = some (.iload_n 2, 1, 0, 0, 0) := rfl
theorem r141_7 : Rn 141 (7, [x0, x1, some (.int i)], st, a, h) = Rn 141 (8, [x0, x1, some (.int i)], .int i :: st, a, h) := Rn_go c141_7 rfl
theorem c141_8 : mcode 141 8 = some (.i2l, 1, 0, 0, 0) := rfl
theorem r141_8 : Rn 141 (8, [x0, x1, x2], .int i :: st, a, h) = Rn 141 (9, [x0, x1, x2], .long i.toInt64 :: st, a, h) := Rn_go c141_8 rfl
theorem c141_9 : mcode 141 9 = some (.lconst 0, 1, 0, 0, 0) := rfl
theorem r141_9 : Rn 141 (9, [x0, x1, x2], st, a, h) = Rn 141 (10, [x0, x1, x2], .long (0 : Int64) :: st, a, h) := Rn_go c141_9 rfl
theorem c141_10 : mcode 141 10 = some (.ldc2_w 66, 3, 0, 0, 5) := rfl
theorem r141_10 : Rn 141 (10, [x0, x1, x2], st, a, h) = Rn 141 (13, [x0, x1, x2], .long (5 : Int64) :: st, a, h) := Rn_go c141_10 rfl
theorem c141_13 : mcode 141 13 = some (.invokestatic 52, 3, 123, 3, 0) := rfl
theorem r141_13 : Rn 141 (13, [x0, x1, x2], [v2, v1, v0], a, h) = Bk 141 16 [x0, x1, x2] [] (Ec 123 [v0, v1, v2] a h) := Rn_call0 c141_13 (fun z => nomatch z) rfl (Nat.le_of_ble_eq_true rfl) rfl rfl (Nat.le_of_ble_eq_true rfl)
theorem c141_16 : mcode 141 16 = some (.ifCond .ne 10, 3, 0, 0, 0) := rfl
theorem r141_16 : Rn 141 (16, [x0, x1, x2], .int i :: st, a, h) = if i = 0 then Rn 141 (19, [x0, x1, x2], st, a, h) else Rn 141 (26, [x0, x1, x2], st, a, h) := Rn_ifcn c141_16 mc_ne rfl rfl
theorem c141_19 : mcode 141 19 = some (.aload_n 0, 1, 0, 0, 0) := rfl
theorem r141_19 : Rn 141 (19, [some (.ref q), x1, x2], st, a, h) = Rn 141 (20, [some (.ref q), x1, x2], .ref q :: st, a, h) := Rn_go c141_19 rfl
theorem c141_20 : mcode 141 20 = some (.ldc 37, 2, 0, 0, -1000001) := rfl
theorem r141_20 : Rn 141 (20, [x0, x1, x2], st, a, h) = Rn 141 (22, [x0, x1, x2], .int (-1000001 : Int32) :: st, a, h) := Rn_go c141_20 rfl
theorem c141_22 : mcode 141 22 = some (.invokevirtual 39, 3, 124, 1, 6) := rfl
theorem r141_22 : Rn 141 (22, [x0, x1, x2], [v0, .ref q], a, h) = if mis h q 6 = true then Bk 141 25 [x0, x1, x2] [] (Ec 124 [.ref q, v0] a h) else none := Rn_call1 c141_22 rfl (Nat.le_of_ble_eq_true rfl) rfl rfl (Nat.le_of_ble_eq_true rfl)
theorem c141_25 : mcode 141 25 = some (.ireturn, 1, 0, 0, 0) := rfl
theorem r141_25 : Rn 141 (25, [x0, x1, x2], [.int i], a, h) = some (some (.int i), a, h) := Rn_ireti c141_25
theorem c141_26 : mcode 141 26 = some (.iload_n 2, 1, 0, 0, 0) := rfl
theorem r141_26 : Rn 141 (26, [x0, x1, some (.int i)], st, a, h) = Rn 141 (27, [x0, x1, some (.int i)], .int i :: st, a, h) := Rn_go c141_26 rfl
theorem c141_27 : mcode 141 27 = some (.iconst 3, 1, 0, 0, 0) := rfl
theorem r141_27 : Rn 141 (27, [x0, x1, x2], st, a, h) = Rn 141 (28, [x0, x1, x2], .int (3 : Int32) :: st, a, h) := Rn_go c141_27 rfl
theorem c141_28 : mcode 141 28 = some (.if_icmp .ge 12, 3, 0, 0, 0) := rfl
theorem r141_28 : Rn 141 (28, [x0, x1, x2], .int j :: .int i :: st, a, h) = if i < j then Rn 141 (31, [x0, x1, x2], st, a, h) else Rn 141 (40, [x0, x1, x2], st, a, h) := Rn_icmpn c141_28 mc_ge rfl rfl
theorem c141_31 : mcode 141 31 = some (.aload_n 0, 1, 0, 0, 0) := rfl
theorem r141_31 : Rn 141 (31, [some (.ref q), x1, x2], st, a, h) = Rn 141 (32, [some (.ref q), x1, x2], .ref q :: st, a, h) := Rn_go c141_31 rfl
theorem c141_32 : mcode 141 32 = some (.iload_n 1, 1, 0, 0, 0) := rfl
theorem r141_32 : Rn 141 (32, [x0, some (.int i), x2], st, a, h) = Rn 141 (33, [x0, some (.int i), x2], .int i :: st, a, h) := Rn_go c141_32 rfl
theorem c141_33 : mcode 141 33 = some (.iload_n 2, 1, 0, 0, 0) := rfl
theorem r141_33 : Rn 141 (33, [x0, x1, some (.int i)], st, a, h) = Rn 141 (34, [x0, x1, some (.int i)], .int i :: st, a, h) := Rn_go c141_33 rfl
theorem c141_34 : mcode 141 34 = some (.invokevirtual 60, 3, 132, 2, 6) := rfl
theorem r141_34 : Rn 141 (34, [x0, x1, x2], [v1, v0, .ref q], a, h) = if mis h q 6 = true then Bk 141 37 [x0, x1, x2] [] (Ec 132 [.ref q, v0, v1] a h) else none := Rn_call1 c141_34 rfl (Nat.le_of_ble_eq_true rfl) rfl rfl (Nat.le_of_ble_eq_true rfl)
theorem c141_37 : mcode 141 37 = some (.goto 34, 3, 0, 0, 0) := rfl
theorem r141_37 : Rn 141 (37, [x0, x1, x2], st, a, h) = Rn 141 (71, [x0, x1, x2], st, a, h) := Rn_goto c141_37 rfl
theorem c141_40 : mcode 141 40 = some (.iload_n 2, 1, 0, 0, 0) := rfl
theorem r141_40 : Rn 141 (40, [x0, x1, some (.int i)], st, a, h) = Rn 141 (41, [x0, x1, some (.int i)], .int i :: st, a, h) := Rn_go c141_40 rfl
theorem c141_41 : mcode 141 41 = some (.iconst 3, 1, 0, 0, 0) := rfl
theorem r141_41 : Rn 141 (41, [x0, x1, x2], st, a, h) = Rn 141 (42, [x0, x1, x2], .int (3 : Int32) :: st, a, h) := Rn_go c141_41 rfl
theorem c141_42 : mcode 141 42 = some (.if_icmp .ne 11, 3, 0, 0, 0) := rfl
theorem r141_42 : Rn 141 (42, [x0, x1, x2], .int j :: .int i :: st, a, h) = if i = j then Rn 141 (45, [x0, x1, x2], st, a, h) else Rn 141 (53, [x0, x1, x2], st, a, h) := Rn_icmpn c141_42 mc_ne rfl rfl
theorem c141_45 : mcode 141 45 = some (.aload_n 0, 1, 0, 0, 0) := rfl
theorem r141_45 : Rn 141 (45, [some (.ref q), x1, x2], st, a, h) = Rn 141 (46, [some (.ref q), x1, x2], .ref q :: st, a, h) := Rn_go c141_45 rfl
theorem c141_46 : mcode 141 46 = some (.iload_n 1, 1, 0, 0, 0) := rfl
theorem r141_46 : Rn 141 (46, [x0, some (.int i), x2], st, a, h) = Rn 141 (47, [x0, some (.int i), x2], .int i :: st, a, h) := Rn_go c141_46 rfl
theorem c141_47 : mcode 141 47 = some (.invokevirtual 68, 3, 138, 1, 6) := rfl
theorem r141_47 : Rn 141 (47, [x0, x1, x2], [v0, .ref q], a, h) = if mis h q 6 = true then Bk 141 50 [x0, x1, x2] [] (Ec 138 [.ref q, v0] a h) else none := Rn_call1 c141_47 rfl (Nat.le_of_ble_eq_true rfl) rfl rfl (Nat.le_of_ble_eq_true rfl)
theorem c141_50 : mcode 141 50 = some (.goto 21, 3, 0, 0, 0) := rfl
theorem r141_50 : Rn 141 (50, [x0, x1, x2], st, a, h) = Rn 141 (71, [x0, x1, x2], st, a, h) := Rn_goto c141_50 rfl
theorem c141_53 : mcode 141 53 = some (.iload_n 2, 1, 0, 0, 0) := rfl
theorem r141_53 : Rn 141 (53, [x0, x1, some (.int i)], st, a, h) = Rn 141 (54, [x0, x1, some (.int i)], .int i :: st, a, h) := Rn_go c141_53 rfl
theorem c141_54 : mcode 141 54 = some (.iconst 4, 1, 0, 0, 0) := rfl
theorem r141_54 : Rn 141 (54, [x0, x1, x2], st, a, h) = Rn 141 (55, [x0, x1, x2], .int (4 : Int32) :: st, a, h) := Rn_go c141_54 rfl
theorem c141_55 : mcode 141 55 = some (.if_icmp .ne 11, 3, 0, 0, 0) := rfl
theorem r141_55 : Rn 141 (55, [x0, x1, x2], .int j :: .int i :: st, a, h) = if i = j then Rn 141 (58, [x0, x1, x2], st, a, h) else Rn 141 (66, [x0, x1, x2], st, a, h) := Rn_icmpn c141_55 mc_ne rfl rfl
theorem c141_58 : mcode 141 58 = some (.aload_n 0, 1, 0, 0, 0) := rfl
theorem r141_58 : Rn 141 (58, [some (.ref q), x1, x2], st, a, h) = Rn 141 (59, [some (.ref q), x1, x2], .ref q :: st, a, h) := Rn_go c141_58 rfl
theorem c141_59 : mcode 141 59 = some (.iload_n 1, 1, 0, 0, 0) := rfl
theorem r141_59 : Rn 141 (59, [x0, some (.int i), x2], st, a, h) = Rn 141 (60, [x0, some (.int i), x2], .int i :: st, a, h) := Rn_go c141_59 rfl
theorem c141_60 : mcode 141 60 = some (.invokevirtual 71, 3, 139, 1, 6) := rfl
theorem r141_60 : Rn 141 (60, [x0, x1, x2], [v0, .ref q], a, h) = if mis h q 6 = true then Bk 141 63 [x0, x1, x2] [] (Ec 139 [.ref q, v0] a h) else none := Rn_call1 c141_60 rfl (Nat.le_of_ble_eq_true rfl) rfl rfl (Nat.le_of_ble_eq_true rfl)
theorem c141_63 : mcode 141 63 = some (.goto 8, 3, 0, 0, 0) := rfl
theorem r141_63 : Rn 141 (63, [x0, x1, x2], st, a, h) = Rn 141 (71, [x0, x1, x2], st, a, h) := Rn_goto c141_63 rfl
theorem c141_66 : mcode 141 66 = some (.aload_n 0, 1, 0, 0, 0) := rfl
theorem r141_66 : Rn 141 (66, [some (.ref q), x1, x2], st, a, h) = Rn 141 (67, [some (.ref q), x1, x2], .ref q :: st, a, h) := Rn_go c141_66 rfl
theorem c141_67 : mcode 141 67 = some (.iload_n 1, 1, 0, 0, 0) := rfl
theorem r141_67 : Rn 141 (67, [x0, some (.int i), x2], st, a, h) = Rn 141 (68, [x0, some (.int i), x2], .int i :: st, a, h) := Rn_go c141_67 rfl
theorem c141_68 : mcode 141 68 = some (.invokevirtual 74, 3, 140, 1, 6) := rfl
theorem r141_68 : Rn 141 (68, [x0, x1, x2], [v0, .ref q], a, h) = if mis h q 6 = true then Bk 141 71 [x0, x1, x2] [] (Ec 140 [.ref q, v0] a h) else none := Rn_call1 c141_68 rfl (Nat.le_of_ble_eq_true rfl) rfl rfl (Nat.le_of_ble_eq_true rfl)
theorem c141_71 : mcode 141 71 = some (.ireturn, 1, 0, 0, 0) := rfl
theorem r141_71 : Rn 141 (71, [x0, x1, x2], [.int i], a, h) = some (some (.int i), a, h) := Rn_ireti c141_71
theorem c142_0 : mcode 142 0 = some (.iload_n 1, 1, 0, 0, 0) := rfl
theorem r142_0 : Rn 142 (0, [x0, some (.int i)], st, a, h) = Rn 142 (1, [x0, some (.int i)], .int i :: st, a, h) := Rn_go c142_0 rfl
theorem c142_1 : mcode 142 1 = some (.i2l, 1, 0, 0, 0) := rfl
theorem r142_1 : Rn 142 (1, [x0, x1], .int i :: st, a, h) = Rn 142 (2, [x0, x1], .long i.toInt64 :: st, a, h) := Rn_go c142_1 rfl
theorem c142_2 : mcode 142 2 = some (.lconst 0, 1, 0, 0, 0) := rfl
theorem r142_2 : Rn 142 (2, [x0, x1], st, a, h) = Rn 142 (3, [x0, x1], .long (0 : Int64) :: st, a, h) := Rn_go c142_2 rfl
theorem c142_3 : mcode 142 3 = some (.ldc2_w 77, 3, 0, 0, 9) := rfl
theorem r142_3 : Rn 142 (3, [x0, x1], st, a, h) = Rn 142 (6, [x0, x1], .long (9 : Int64) :: st, a, h) := Rn_go c142_3 rfl
theorem c142_6 : mcode 142 6 = some (.invokestatic 52, 3, 123, 3, 0) := rfl
theorem r142_6 : Rn 142 (6, [x0, x1], [v2, v1, v0], a, h) = Bk 142 9 [x0, x1] [] (Ec 123 [v0, v1, v2] a h) := Rn_call0 c142_6 (fun z => nomatch z) rfl (Nat.le_of_ble_eq_true rfl) rfl rfl (Nat.le_of_ble_eq_true rfl)
theorem c142_9 : mcode 142 9 = some (.ifCond .eq 12, 3, 0, 0, 0) := rfl
theorem r142_9 : Rn 142 (9, [x0, x1], .int i :: st, a, h) = if i = 0 then Rn 142 (21, [x0, x1], st, a, h) else Rn 142 (12, [x0, x1], st, a, h) := Rn_ifc c142_9 mc_eq rfl rfl
theorem c142_12 : mcode 142 12 = some (.aload_n 0, 1, 0, 0, 0) := rfl
theorem r142_12 : Rn 142 (12, [some (.ref q), x1], st, a, h) = Rn 142 (13, [some (.ref q), x1], .ref q :: st, a, h) := Rn_go c142_12 rfl
theorem c142_13 : mcode 142 13 = some (.iconst 3, 1, 0, 0, 0) := rfl
theorem r142_13 : Rn 142 (13, [x0, x1], st, a, h) = Rn 142 (14, [x0, x1], .int (3 : Int32) :: st, a, h) := Rn_go c142_13 rfl
theorem c142_14 : mcode 142 14 = some (.iload_n 1, 1, 0, 0, 0) := rfl
theorem r142_14 : Rn 142 (14, [x0, some (.int i)], st, a, h) = Rn 142 (15, [x0, some (.int i)], .int i :: st, a, h) := Rn_go c142_14 rfl
theorem c142_15 : mcode 142 15 = some (.invokevirtual 56, 3, 125, 2, 6) := rfl
theorem r142_15 : Rn 142 (15, [x0, x1], [v1, v0, .ref q], a, h) = if mis h q 6 = true then Bk 142 18 [x0, x1] [] (Ec 125 [.ref q, v0, v1] a h) else none := Rn_call1 c142_15 rfl (Nat.le_of_ble_eq_true rfl) rfl rfl (Nat.le_of_ble_eq_true rfl)
theorem c142_18 : mcode 142 18 = some (.goto 9, 3, 0, 0, 0) := rfl
theorem r142_18 : Rn 142 (18, [x0, x1], st, a, h) = Rn 142 (27, [x0, x1], st, a, h) := Rn_goto c142_18 rfl
theorem c142_21 : mcode 142 21 = some (.aload_n 0, 1, 0, 0, 0) := rfl
theorem r142_21 : Rn 142 (21, [some (.ref q), x1], st, a, h) = Rn 142 (22, [some (.ref q), x1], .ref q :: st, a, h) := Rn_go c142_21 rfl
theorem c142_22 : mcode 142 22 = some (.ldc 37, 2, 0, 0, -1000001) := rfl
theorem r142_22 : Rn 142 (22, [x0, x1], st, a, h) = Rn 142 (24, [x0, x1], .int (-1000001 : Int32) :: st, a, h) := Rn_go c142_22 rfl
theorem c142_24 : mcode 142 24 = some (.invokevirtual 39, 3, 124, 1, 6) := rfl
theorem r142_24 : Rn 142 (24, [x0, x1], [v0, .ref q], a, h) = if mis h q 6 = true then Bk 142 27 [x0, x1] [] (Ec 124 [.ref q, v0] a h) else none := Rn_call1 c142_24 rfl (Nat.le_of_ble_eq_true rfl) rfl rfl (Nat.le_of_ble_eq_true rfl)
theorem c142_27 : mcode 142 27 = some (.ireturn, 1, 0, 0, 0) := rfl
theorem r142_27 : Rn 142 (27, [x0, x1], [.int i], a, h) = some (some (.int i), a, h) := Rn_ireti c142_27
theorem c143_0 : mcode 143 0 = some (.iconst 0, 1, 0, 0, 0) := rfl
theorem r143_0 : Rn 143 (0, [x0, x1, x2, x3, x4], st, a, h) = Rn 143 (1, [x0, x1, x2, x3, x4], .int (0 : Int32) :: st, a, h) := Rn_go c143_0 rfl
theorem c143_1 : mcode 143 1 = some (.istore_n 3, 1, 0, 0, 0) := rfl
theorem r143_1 : Rn 143 (1, [x0, x1, x2, x3, x4], .int i :: st, a, h) = Nl x2 (Rn 143 (2, [x0, x1, x2, some (.int i), x4], st, a, h)) := Rn_st1 (k := 3) (v := .int i) x2 c143_1 rfl rfl rfl rfl
theorem c143_2 : mcode 143 2 = some (.iload_n 3, 1, 0, 0, 0) := rfl
theorem r143_2 : Rn 143 (2, [x0, x1, x2, some (.int i), x4], st, a, h) = Rn 143 (3, [x0, x1, x2, some (.int i), x4], .int i :: st, a, h) := Rn_go c143_2 rfl
theorem c143_3 : mcode 143 3 = some (.iconst 3, 1, 0, 0, 0) := rfl
theorem r143_3 : Rn 143 (3, [x0, x1, x2, x3, x4], st, a, h) = Rn 143 (4, [x0, x1, x2, x3, x4], .int (3 : Int32) :: st, a, h) := Rn_go c143_3 rfl
theorem c143_4 : mcode 143 4 = some (.if_icmp .ge 38, 3, 0, 0, 0) := rfl
theorem r143_4 : Rn 143 (4, [x0, x1, x2, x3, x4], .int j :: .int i :: st, a, h) = if i < j then Rn 143 (7, [x0, x1, x2, x3, x4], st, a, h) else Rn 143 (42, [x0, x1, x2, x3, x4], st, a, h) := Rn_icmpn c143_4 mc_ge rfl rfl
theorem c143_7 : mcode 143 7 = some (.aload_n 0, 1, 0, 0, 0) := rfl
theorem r143_7 : Rn 143 (7, [some (.ref q), x1, x2, x3, x4], st, a, h) = Rn 143 (8, [some (.ref q), x1, x2, x3, x4], .ref q :: st, a, h) := Rn_go c143_7 rfl
theorem c143_8 : mcode 143 8 = some (.getfield 7, 3, 6, 0, 0) := rfl
theorem r143_8 : Rn 143 (8, [x0, x1, x2, x3, x4], .ref q :: st, a, h) = Kv 143 11 [x0, x1, x2, x3, x4] st a h (mgf h q 6 0) := Rn_getf c143_8 rfl
theorem c143_11 : mcode 143 11 = some (.iconst 4, 1, 0, 0, 0) := rfl
theorem r143_11 : Rn 143 (11, [x0, x1, x2, x3, x4], st, a, h) = Rn 143 (12, [x0, x1, x2, x3, x4], .int (4 : Int32) :: st, a, h) := Rn_go c143_11 rfl
theorem c143_12 : mcode 143 12 = some (.iconst 3, 1, 0, 0, 0) := rfl
theorem r143_12 : Rn 143 (12, [x0, x1, x2, x3, x4], st, a, h) = Rn 143 (13, [x0, x1, x2, x3, x4], .int (3 : Int32) :: st, a, h) := Rn_go c143_12 rfl
theorem c143_13 : mcode 143 13 = some (.iload_n 1, 1, 0, 0, 0) := rfl
theorem r143_13 : Rn 143 (13, [x0, some (.int i), x2, x3, x4], st, a, h) = Rn 143 (14, [x0, some (.int i), x2, x3, x4], .int i :: st, a, h) := Rn_go c143_13 rfl
theorem c143_14 : mcode 143 14 = some (.imul, 1, 0, 0, 0) := rfl
theorem r143_14 : Rn 143 (14, [x0, x1, x2, x3, x4], .int j :: .int i :: st, a, h) = Rn 143 (15, [x0, x1, x2, x3, x4], .int (i * j) :: st, a, h) := Rn_go c143_14 rfl
theorem c143_15 : mcode 143 15 = some (.iadd, 1, 0, 0, 0) := rfl
theorem r143_15 : Rn 143 (15, [x0, x1, x2, x3, x4], .int j :: .int i :: st, a, h) = Rn 143 (16, [x0, x1, x2, x3, x4], .int (i + j) :: st, a, h) := Rn_go c143_15 rfl
theorem c143_16 : mcode 143 16 = some (.iload_n 3, 1, 0, 0, 0) := rfl
theorem r143_16 : Rn 143 (16, [x0, x1, x2, some (.int i), x4], st, a, h) = Rn 143 (17, [x0, x1, x2, some (.int i), x4], .int i :: st, a, h) := Rn_go c143_16 rfl
theorem c143_17 : mcode 143 17 = some (.iadd, 1, 0, 0, 0) := rfl
theorem r143_17 : Rn 143 (17, [x0, x1, x2, x3, x4], .int j :: .int i :: st, a, h) = Rn 143 (18, [x0, x1, x2, x3, x4], .int (i + j) :: st, a, h) := Rn_go c143_17 rfl
theorem c143_18 : mcode 143 18 = some (.aload_n 0, 1, 0, 0, 0) := rfl
theorem r143_18 : Rn 143 (18, [some (.ref q), x1, x2, x3, x4], st, a, h) = Rn 143 (19, [some (.ref q), x1, x2, x3, x4], .ref q :: st, a, h) := Rn_go c143_18 rfl
theorem c143_19 : mcode 143 19 = some (.iconst 4, 1, 0, 0, 0) := rfl
theorem r143_19 : Rn 143 (19, [x0, x1, x2, x3, x4], st, a, h) = Rn 143 (20, [x0, x1, x2, x3, x4], .int (4 : Int32) :: st, a, h) := Rn_go c143_19 rfl
theorem c143_20 : mcode 143 20 = some (.iconst 3, 1, 0, 0, 0) := rfl
theorem r143_20 : Rn 143 (20, [x0, x1, x2, x3, x4], st, a, h) = Rn 143 (21, [x0, x1, x2, x3, x4], .int (3 : Int32) :: st, a, h) := Rn_go c143_20 rfl
theorem c143_21 : mcode 143 21 = some (.iload_n 2, 1, 0, 0, 0) := rfl
theorem r143_21 : Rn 143 (21, [x0, x1, some (.int i), x3, x4], st, a, h) = Rn 143 (22, [x0, x1, some (.int i), x3, x4], .int i :: st, a, h) := Rn_go c143_21 rfl
theorem c143_22 : mcode 143 22 = some (.imul, 1, 0, 0, 0) := rfl
theorem r143_22 : Rn 143 (22, [x0, x1, x2, x3, x4], .int j :: .int i :: st, a, h) = Rn 143 (23, [x0, x1, x2, x3, x4], .int (i * j) :: st, a, h) := Rn_go c143_22 rfl
theorem c143_23 : mcode 143 23 = some (.iadd, 1, 0, 0, 0) := rfl
theorem r143_23 : Rn 143 (23, [x0, x1, x2, x3, x4], .int j :: .int i :: st, a, h) = Rn 143 (24, [x0, x1, x2, x3, x4], .int (i + j) :: st, a, h) := Rn_go c143_23 rfl
theorem c143_24 : mcode 143 24 = some (.iload_n 3, 1, 0, 0, 0) := rfl
theorem r143_24 : Rn 143 (24, [x0, x1, x2, some (.int i), x4], st, a, h) = Rn 143 (25, [x0, x1, x2, some (.int i), x4], .int i :: st, a, h) := Rn_go c143_24 rfl
theorem c143_25 : mcode 143 25 = some (.iadd, 1, 0, 0, 0) := rfl
theorem r143_25 : Rn 143 (25, [x0, x1, x2, x3, x4], .int j :: .int i :: st, a, h) = Rn 143 (26, [x0, x1, x2, x3, x4], .int (i + j) :: st, a, h) := Rn_go c143_25 rfl
theorem c143_26 : mcode 143 26 = some (.aload_n 0, 1, 0, 0, 0) := rfl
theorem r143_26 : Rn 143 (26, [some (.ref q), x1, x2, x3, x4], st, a, h) = Rn 143 (27, [some (.ref q), x1, x2, x3, x4], .ref q :: st, a, h) := Rn_go c143_26 rfl
theorem c143_27 : mcode 143 27 = some (.iload_n 1, 1, 0, 0, 0) := rfl
theorem r143_27 : Rn 143 (27, [x0, some (.int i), x2, x3, x4], st, a, h) = Rn 143 (28, [x0, some (.int i), x2, x3, x4], .int i :: st, a, h) := Rn_go c143_27 rfl
theorem c143_28 : mcode 143 28 = some (.iload_n 3, 1, 0, 0, 0) := rfl
theorem r143_28 : Rn 143 (28, [x0, x1, x2, some (.int i), x4], st, a, h) = Rn 143 (29, [x0, x1, x2, some (.int i), x4], .int i :: st, a, h) := Rn_go c143_28 rfl
theorem c143_29 : mcode 143 29 = some (.invokevirtual 60, 3, 132, 2, 6) := rfl
theorem r143_29 : Rn 143 (29, [x0, x1, x2, x3, x4], [v1, v0, .ref q, .int i0, .ref q1, .int i2, .ref q3], a, h) = if mis h q 6 = true then Bk 143 32 [x0, x1, x2, x3, x4] [.int i0, .ref q1, .int i2, .ref q3] (Ec 132 [.ref q, v0, v1] a h) else none := Rn_call1 c143_29 rfl (Nat.le_of_ble_eq_true rfl) rfl rfl (Nat.le_of_ble_eq_true rfl)
theorem c143_32 : mcode 143 32 = some (.invokevirtual 56, 3, 125, 2, 6) := rfl
theorem r143_32 : Rn 143 (32, [x0, x1, x2, x3, x4], [v1, v0, .ref q, .int i0, .ref q1], a, h) = if mis h q 6 = true then Bk 143 35 [x0, x1, x2, x3, x4] [.int i0, .ref q1] (Ec 125 [.ref q, v0, v1] a h) else none := Rn_call1 c143_32 rfl (Nat.le_of_ble_eq_true rfl) rfl rfl (Nat.le_of_ble_eq_true rfl)
theorem c143_35 : mcode 143 35 = some (.iastore, 1, 0, 0, 0) := rfl
theorem r143_35 : Rn 143 (35, [x0, x1, x2, x3, x4], .int j :: .int i :: .ref q :: st, a, h) = Kh 143 36 [x0, x1, x2, x3, x4] st a (mias h q i j) := Rn_iast c143_35 rfl
theorem c143_36 : mcode 143 36 = some (.iinc 3 1, 3, 0, 0, 0) := rfl
theorem r143_36 : Rn 143 (36, [x0, x1, x2, some (.int i), x4], st, a, h) = Nl x2 (Rn 143 (39, [x0, x1, x2, some (.int (i + (1 : Int32))), x4], st, a, h)) := Rn_st1 (k := 3) (v := .int (i + (1 : Int32))) x2 c143_36 rfl rfl rfl rfl
theorem c143_39 : mcode 143 39 = some (.goto (-37), 3, 0, 0, 0) := rfl
theorem r143_39 : Rn 143 (39, [x0, x1, x2, x3, x4], st, a, h) = Rn 143 (2, [x0, x1, x2, x3, x4], st, a, h) := Rn_goto c143_39 rfl
theorem c143_42 : mcode 143 42 = some (.iconst 0, 1, 0, 0, 0) := rfl
theorem r143_42 : Rn 143 (42, [x0, x1, x2, x3, x4], st, a, h) = Rn 143 (43, [x0, x1, x2, x3, x4], .int (0 : Int32) :: st, a, h) := Rn_go c143_42 rfl
theorem c143_43 : mcode 143 43 = some (.istore_n 3, 1, 0, 0, 0) := rfl
theorem r143_43 : Rn 143 (43, [x0, x1, x2, x3, x4], .int i :: st, a, h) = Nl x2 (Rn 143 (44, [x0, x1, x2, some (.int i), x4], st, a, h)) := Rn_st1 (k := 3) (v := .int i) x2 c143_43 rfl rfl rfl rfl
theorem c143_44 : mcode 143 44 = some (.iload_n 3, 1, 0, 0, 0) := rfl
theorem r143_44 : Rn 143 (44, [x0, x1, x2, some (.int i), x4], st, a, h) = Rn 143 (45, [x0, x1, x2, some (.int i), x4], .int i :: st, a, h) := Rn_go c143_44 rfl
theorem c143_45 : mcode 143 45 = some (.aload_n 0, 1, 0, 0, 0) := rfl
theorem r143_45 : Rn 143 (45, [some (.ref q), x1, x2, x3, x4], st, a, h) = Rn 143 (46, [some (.ref q), x1, x2, x3, x4], .ref q :: st, a, h) := Rn_go c143_45 rfl
theorem c143_46 : mcode 143 46 = some (.getfield 7, 3, 6, 0, 0) := rfl
theorem r143_46 : Rn 143 (46, [x0, x1, x2, x3, x4], .ref q :: st, a, h) = Kv 143 49 [x0, x1, x2, x3, x4] st a h (mgf h q 6 0) := Rn_getf c143_46 rfl
theorem c143_49 : mcode 143 49 = some (.iconst 0, 1, 0, 0, 0) := rfl
theorem r143_49 : Rn 143 (49, [x0, x1, x2, x3, x4], st, a, h) = Rn 143 (50, [x0, x1, x2, x3, x4], .int (0 : Int32) :: st, a, h) := Rn_go c143_49 rfl
theorem c143_50 : mcode 143 50 = some (.iaload, 1, 0, 0, 0) := rfl
theorem r143_50 : Rn 143 (50, [x0, x1, x2, x3, x4], .int i :: .ref q :: st, a, h) = Ki 143 51 [x0, x1, x2, x3, x4] st a h (mld h q i false) := Rn_iald c143_50 rfl
theorem c143_51 : mcode 143 51 = some (.if_icmp .ge 49, 3, 0, 0, 0) := rfl
theorem r143_51 : Rn 143 (51, [x0, x1, x2, x3, x4], .int j :: .int i :: st, a, h) = if i < j then Rn 143 (54, [x0, x1, x2, x3, x4], st, a, h) else Rn 143 (100, [x0, x1, x2, x3, x4], st, a, h) := Rn_icmpn c143_51 mc_ge rfl rfl
theorem c143_54 : mcode 143 54 = some (.aload_n 0, 1, 0, 0, 0) := rfl
theorem r143_54 : Rn 143 (54, [some (.ref q), x1, x2, x3, x4], st, a, h) = Rn 143 (55, [some (.ref q), x1, x2, x3, x4], .ref q :: st, a, h) := Rn_go c143_54 rfl
theorem c143_55 : mcode 143 55 = some (.iload_n 3, 1, 0, 0, 0) := rfl
theorem r143_55 : Rn 143 (55, [x0, x1, x2, some (.int i), x4], st, a, h) = Rn 143 (56, [x0, x1, x2, some (.int i), x4], .int i :: st, a, h) := Rn_go c143_55 rfl
theorem c143_56 : mcode 143 56 = some (.iconst 1, 1, 0, 0, 0) := rfl
theorem r143_56 : Rn 143 (56, [x0, x1, x2, x3, x4], st, a, h) = Rn 143 (57, [x0, x1, x2, x3, x4], .int (1 : Int32) :: st, a, h) := Rn_go c143_56 rfl
theorem c143_57 : mcode 143 57 = some (.invokevirtual 63, 3, 131, 2, 6) := rfl
theorem r143_57 : Rn 143 (57, [x0, x1, x2, x3, x4], [v1, v0, .ref q], a, h) = if mis h q 6 = true then Bk 143 60 [x0, x1, x2, x3, x4] [] (Ec 131 [.ref q, v0, v1] a h) else none := Rn_call1 c143_57 rfl (Nat.le_of_ble_eq_true rfl) rfl rfl (Nat.le_of_ble_eq_true rfl)
theorem c143_60 : mcode 143 60 = some (.istore 4, 2, 0, 0, 0) := rfl
theorem r143_60 : Rn 143 (60, [x0, x1, x2, x3, x4], .int i :: st, a, h) = Nl x3 (Rn 143 (62, [x0, x1, x2, x3, some (.int i)], st, a, h)) := Rn_st1 (k := 4) (v := .int i) x3 c143_60 rfl rfl rfl rfl
theorem c143_62 : mcode 143 62 = some (.aload_n 0, 1, 0, 0, 0) := rfl
theorem r143_62 : Rn 143 (62, [some (.ref q), x1, x2, x3, x4], st, a, h) = Rn 143 (63, [some (.ref q), x1, x2, x3, x4], .ref q :: st, a, h) := Rn_go c143_62 rfl
theorem c143_63 : mcode 143 63 = some (.getfield 7, 3, 6, 0, 0) := rfl
theorem r143_63 : Rn 143 (63, [x0, x1, x2, x3, x4], .ref q :: st, a, h) = Kv 143 66 [x0, x1, x2, x3, x4] st a h (mgf h q 6 0) := Rn_getf c143_63 rfl
theorem c143_66 : mcode 143 66 = some (.iload_n 3, 1, 0, 0, 0) := rfl
theorem r143_66 : Rn 143 (66, [x0, x1, x2, some (.int i), x4], st, a, h) = Rn 143 (67, [x0, x1, x2, some (.int i), x4], .int i :: st, a, h) := Rn_go c143_66 rfl
theorem c143_67 : mcode 143 67 = some (.iconst 1, 1, 0, 0, 0) := rfl
theorem r143_67 : Rn 143 (67, [x0, x1, x2, x3, x4], st, a, h) = Rn 143 (68, [x0, x1, x2, x3, x4], .int (1 : Int32) :: st, a, h) := Rn_go c143_67 rfl
theorem c143_68 : mcode 143 68 = some (.invokestatic 79, 3, 130, 2, 0) := rfl
theorem r143_68 : Rn 143 (68, [x0, x1, x2, x3, x4], [v1, v0, .ref q0], a, h) = Bk 143 71 [x0, x1, x2, x3, x4] [.ref q0] (Ec 130 [v0, v1] a h) := Rn_call0 c143_68 (fun z => nomatch z) rfl (Nat.le_of_ble_eq_true rfl) rfl rfl (Nat.le_of_ble_eq_true rfl)
theorem c143_71 : mcode 143 71 = some (.iload 4, 2, 0, 0, 0) := rfl
theorem r143_71 : Rn 143 (71, [x0, x1, x2, x3, some (.int i)], st, a, h) = Rn 143 (73, [x0, x1, x2, x3, some (.int i)], .int i :: st, a, h) := Rn_go c143_71 rfl
theorem c143_73 : mcode 143 73 = some (.iload_n 1, 1, 0, 0, 0) := rfl
theorem r143_73 : Rn 143 (73, [x0, some (.int i), x2, x3, x4], st, a, h) = Rn 143 (74, [x0, some (.int i), x2, x3, x4], .int i :: st, a, h) := Rn_go c143_73 rfl
theorem c143_74 : mcode 143 74 = some (.if_icmp .ne 7, 3, 0, 0, 0) := rfl
theorem r143_74 : Rn 143 (74, [x0, x1, x2, x3, x4], .int j :: .int i :: st, a, h) = if i = j then Rn 143 (77, [x0, x1, x2, x3, x4], st, a, h) else Rn 143 (81, [x0, x1, x2, x3, x4], st, a, h) := Rn_icmpn c143_74 mc_ne rfl rfl
theorem c143_77 : mcode 143 77 = some (.iload_n 2, 1, 0, 0, 0) := rfl
theorem r143_77 : Rn 143 (77, [x0, x1, some (.int i), x3, x4], st, a, h) = Rn 143 (78, [x0, x1, some (.int i), x3, x4], .int i :: st, a, h) := Rn_go c143_77 rfl
theorem c143_78 : mcode 143 78 = some (.goto 15, 3, 0, 0, 0) := rfl
theorem r143_78 : Rn 143 (78, [x0, x1, x2, x3, x4], st, a, h) = Rn 143 (93, [x0, x1, x2, x3, x4], st, a, h) := Rn_goto c143_78 rfl
theorem c143_81 : mcode 143 81 = some (.iload 4, 2, 0, 0, 0) := rfl
theorem r143_81 : Rn 143 (81, [x0, x1, x2, x3, some (.int i)], st, a, h) = Rn 143 (83, [x0, x1, x2, x3, some (.int i)], .int i :: st, a, h) := Rn_go c143_81 rfl
theorem c143_83 : mcode 143 83 = some (.iload_n 2, 1, 0, 0, 0) := rfl
theorem r143_83 : Rn 143 (83, [x0, x1, some (.int i), x3, x4], st, a, h) = Rn 143 (84, [x0, x1, some (.int i), x3, x4], .int i :: st, a, h) := Rn_go c143_83 rfl
theorem c143_84 : mcode 143 84 = some (.if_icmp .ne 7, 3, 0, 0, 0) := rfl
theorem r143_84 : Rn 143 (84, [x0, x1, x2, x3, x4], .int j :: .int i :: st, a, h) = if i = j then Rn 143 (87, [x0, x1, x2, x3, x4], st, a, h) else Rn 143 (91, [x0, x1, x2, x3, x4], st, a, h) := Rn_icmpn c143_84 mc_ne rfl rfl
theorem c143_87 : mcode 143 87 = some (.iload_n 1, 1, 0, 0, 0) := rfl
theorem r143_87 : Rn 143 (87, [x0, some (.int i), x2, x3, x4], st, a, h) = Rn 143 (88, [x0, some (.int i), x2, x3, x4], .int i :: st, a, h) := Rn_go c143_87 rfl
theorem c143_88 : mcode 143 88 = some (.goto 5, 3, 0, 0, 0) := rfl
theorem r143_88 : Rn 143 (88, [x0, x1, x2, x3, x4], st, a, h) = Rn 143 (93, [x0, x1, x2, x3, x4], st, a, h) := Rn_goto c143_88 rfl
theorem c143_91 : mcode 143 91 = some (.iload 4, 2, 0, 0, 0) := rfl
theorem r143_91 : Rn 143 (91, [x0, x1, x2, x3, some (.int i)], st, a, h) = Rn 143 (93, [x0, x1, x2, x3, some (.int i)], .int i :: st, a, h) := Rn_go c143_91 rfl
theorem c143_93 : mcode 143 93 = some (.iastore, 1, 0, 0, 0) := rfl
theorem r143_93 : Rn 143 (93, [x0, x1, x2, x3, x4], .int j :: .int i :: .ref q :: st, a, h) = Kh 143 94 [x0, x1, x2, x3, x4] st a (mias h q i j) := Rn_iast c143_93 rfl
theorem c143_94 : mcode 143 94 = some (.iinc 3 1, 3, 0, 0, 0) := rfl
theorem r143_94 : Rn 143 (94, [x0, x1, x2, some (.int i), x4], st, a, h) = Nl x2 (Rn 143 (97, [x0, x1, x2, some (.int (i + (1 : Int32))), x4], st, a, h)) := Rn_st1 (k := 3) (v := .int (i + (1 : Int32))) x2 c143_94 rfl rfl rfl rfl
theorem c143_97 : mcode 143 97 = some (.goto (-53), 3, 0, 0, 0) := rfl
theorem r143_97 : Rn 143 (97, [x0, x1, x2, x3, x4], st, a, h) = Rn 143 (44, [x0, x1, x2, x3, x4], st, a, h) := Rn_goto c143_97 rfl
theorem c143_100 : mcode 143 100 = some (.return_, 1, 0, 0, 0) := rfl
theorem r143_100 : Rn 143 (100, [x0, x1, x2, x3, x4], [], a, h) = some (none, a, h) := Rn_act c143_100
theorem c144_0 : mcode 144 0 = some (.iload_n 1, 1, 0, 0, 0) := rfl
theorem r144_0 : Rn 144 (0, [x0, some (.int i), x2], st, a, h) = Rn 144 (1, [x0, some (.int i), x2], .int i :: st, a, h) := Rn_go c144_0 rfl
theorem c144_1 : mcode 144 1 = some (.invokestatic 43, 3, 127, 1, 0) := rfl
theorem r144_1 : Rn 144 (1, [x0, x1, x2], [v0], a, h) = Bk 144 4 [x0, x1, x2] [] (Ec 127 [v0] a h) := Rn_call0 c144_1 (fun z => nomatch z) rfl (Nat.le_of_ble_eq_true rfl) rfl rfl (Nat.le_of_ble_eq_true rfl)
theorem c144_4 : mcode 144 4 = some (.ifCond .eq 15, 3, 0, 0, 0) := rfl
theorem r144_4 : Rn 144 (4, [x0, x1, x2], .int i :: st, a, h) = if i = 0 then Rn 144 (19, [x0, x1, x2], st, a, h) else Rn 144 (7, [x0, x1, x2], st, a, h) := Rn_ifc c144_4 mc_eq rfl rfl
theorem c144_7 : mcode 144 7 = some (.iload_n 2, 1, 0, 0, 0) := rfl
theorem r144_7 : Rn 144 (7, [x0, x1, some (.int i)], st, a, h) = Rn 144 (8, [x0, x1, some (.int i)], .int i :: st, a, h) := Rn_go c144_7 rfl
theorem c144_8 : mcode 144 8 = some (.invokestatic 43, 3, 127, 1, 0) := rfl
theorem r144_8 : Rn 144 (8, [x0, x1, x2], [v0], a, h) = Bk 144 11 [x0, x1, x2] [] (Ec 127 [v0] a h) := Rn_call0 c144_8 (fun z => nomatch z) rfl (Nat.le_of_ble_eq_true rfl) rfl rfl (Nat.le_of_ble_eq_true rfl)
theorem c144_11 : mcode 144 11 = some (.ifCond .eq 8, 3, 0, 0, 0) := rfl
theorem r144_11 : Rn 144 (11, [x0, x1, x2], .int i :: st, a, h) = if i = 0 then Rn 144 (19, [x0, x1, x2], st, a, h) else Rn 144 (14, [x0, x1, x2], st, a, h) := Rn_ifc c144_11 mc_eq rfl rfl
theorem c144_14 : mcode 144 14 = some (.iload_n 1, 1, 0, 0, 0) := rfl
theorem r144_14 : Rn 144 (14, [x0, some (.int i), x2], st, a, h) = Rn 144 (15, [x0, some (.int i), x2], .int i :: st, a, h) := Rn_go c144_14 rfl
theorem c144_15 : mcode 144 15 = some (.iload_n 2, 1, 0, 0, 0) := rfl
theorem r144_15 : Rn 144 (15, [x0, x1, some (.int i)], st, a, h) = Rn 144 (16, [x0, x1, some (.int i)], .int i :: st, a, h) := Rn_go c144_15 rfl
theorem c144_16 : mcode 144 16 = some (.if_icmp .ne 10, 3, 0, 0, 0) := rfl
theorem r144_16 : Rn 144 (16, [x0, x1, x2], .int j :: .int i :: st, a, h) = if i = j then Rn 144 (19, [x0, x1, x2], st, a, h) else Rn 144 (26, [x0, x1, x2], st, a, h) := Rn_icmpn c144_16 mc_ne rfl rfl
theorem c144_19 : mcode 144 19 = some (.aload_n 0, 1, 0, 0, 0) := rfl
theorem r144_19 : Rn 144 (19, [some (.ref q), x1, x2], st, a, h) = Rn 144 (20, [some (.ref q), x1, x2], .ref q :: st, a, h) := Rn_go c144_19 rfl
theorem c144_20 : mcode 144 20 = some (.ldc 37, 2, 0, 0, -1000001) := rfl
theorem r144_20 : Rn 144 (20, [x0, x1, x2], st, a, h) = Rn 144 (22, [x0, x1, x2], .int (-1000001 : Int32) :: st, a, h) := Rn_go c144_20 rfl
theorem c144_22 : mcode 144 22 = some (.invokevirtual 39, 3, 124, 1, 6) := rfl
theorem r144_22 : Rn 144 (22, [x0, x1, x2], [v0, .ref q], a, h) = if mis h q 6 = true then Bk 144 25 [x0, x1, x2] [] (Ec 124 [.ref q, v0] a h) else none := Rn_call1 c144_22 rfl (Nat.le_of_ble_eq_true rfl) rfl rfl (Nat.le_of_ble_eq_true rfl)
theorem c144_25 : mcode 144 25 = some (.ireturn, 1, 0, 0, 0) := rfl
theorem r144_25 : Rn 144 (25, [x0, x1, x2], [.int i], a, h) = some (some (.int i), a, h) := Rn_ireti c144_25
theorem c144_26 : mcode 144 26 = some (.aload_n 0, 1, 0, 0, 0) := rfl
theorem r144_26 : Rn 144 (26, [some (.ref q), x1, x2], st, a, h) = Rn 144 (27, [some (.ref q), x1, x2], .ref q :: st, a, h) := Rn_go c144_26 rfl
theorem c144_27 : mcode 144 27 = some (.iload_n 1, 1, 0, 0, 0) := rfl
theorem r144_27 : Rn 144 (27, [x0, some (.int i), x2], st, a, h) = Rn 144 (28, [x0, some (.int i), x2], .int i :: st, a, h) := Rn_go c144_27 rfl
theorem c144_28 : mcode 144 28 = some (.iload_n 2, 1, 0, 0, 0) := rfl
theorem r144_28 : Rn 144 (28, [x0, x1, some (.int i)], st, a, h) = Rn 144 (29, [x0, x1, some (.int i)], .int i :: st, a, h) := Rn_go c144_28 rfl
theorem c144_29 : mcode 144 29 = some (.invokevirtual 82, 3, 143, 2, 6) := rfl
theorem r144_29 : Rn 144 (29, [x0, x1, x2], [v1, v0, .ref q], a, h) = if mis h q 6 = true then Bk 144 32 [x0, x1, x2] [] (Ec 143 [.ref q, v0, v1] a h) else none := Rn_call1 c144_29 rfl (Nat.le_of_ble_eq_true rfl) rfl rfl (Nat.le_of_ble_eq_true rfl)
theorem c144_32 : mcode 144 32 = some (.aload_n 0, 1, 0, 0, 0) := rfl
theorem r144_32 : Rn 144 (32, [some (.ref q), x1, x2], st, a, h) = Rn 144 (33, [some (.ref q), x1, x2], .ref q :: st, a, h) := Rn_go c144_32 rfl
theorem c144_33 : mcode 144 33 = some (.iload_n 1, 1, 0, 0, 0) := rfl
theorem r144_33 : Rn 144 (33, [x0, some (.int i), x2], st, a, h) = Rn 144 (34, [x0, some (.int i), x2], .int i :: st, a, h) := Rn_go c144_33 rfl
theorem c144_34 : mcode 144 34 = some (.invokevirtual 71, 3, 139, 1, 6) := rfl
theorem r144_34 : Rn 144 (34, [x0, x1, x2], [v0, .ref q], a, h) = if mis h q 6 = true then Bk 144 37 [x0, x1, x2] [] (Ec 139 [.ref q, v0] a h) else none := Rn_call1 c144_34 rfl (Nat.le_of_ble_eq_true rfl) rfl rfl (Nat.le_of_ble_eq_true rfl)
theorem c144_37 : mcode 144 37 = some (.invokestatic 86, 3, 136, 1, 0) := rfl
theorem r144_37 : Rn 144 (37, [x0, x1, x2], [v0], a, h) = Bk 144 40 [x0, x1, x2] [] (Ec 136 [v0] a h) := Rn_call0 c144_37 (fun z => nomatch z) rfl (Nat.le_of_ble_eq_true rfl) rfl rfl (Nat.le_of_ble_eq_true rfl)
theorem c144_40 : mcode 144 40 = some (.aload_n 0, 1, 0, 0, 0) := rfl
theorem r144_40 : Rn 144 (40, [some (.ref q), x1, x2], st, a, h) = Rn 144 (41, [some (.ref q), x1, x2], .ref q :: st, a, h) := Rn_go c144_40 rfl
theorem c144_41 : mcode 144 41 = some (.iload_n 2, 1, 0, 0, 0) := rfl
theorem r144_41 : Rn 144 (41, [x0, x1, some (.int i)], st, a, h) = Rn 144 (42, [x0, x1, some (.int i)], .int i :: st, a, h) := Rn_go c144_41 rfl
theorem c144_42 : mcode 144 42 = some (.invokevirtual 71, 3, 139, 1, 6) := rfl
theorem r144_42 : Rn 144 (42, [x0, x1, x2], [v0, .ref q, .int i0], a, h) = if mis h q 6 = true then Bk 144 45 [x0, x1, x2] [.int i0] (Ec 139 [.ref q, v0] a h) else none := Rn_call1 c144_42 rfl (Nat.le_of_ble_eq_true rfl) rfl rfl (Nat.le_of_ble_eq_true rfl)
theorem c144_45 : mcode 144 45 = some (.invokestatic 86, 3, 136, 1, 0) := rfl
theorem r144_45 : Rn 144 (45, [x0, x1, x2], [v0, .int i0], a, h) = Bk 144 48 [x0, x1, x2] [.int i0] (Ec 136 [v0] a h) := Rn_call0 c144_45 (fun z => nomatch z) rfl (Nat.le_of_ble_eq_true rfl) rfl rfl (Nat.le_of_ble_eq_true rfl)
theorem c144_48 : mcode 144 48 = some (.iadd, 1, 0, 0, 0) := rfl
theorem r144_48 : Rn 144 (48, [x0, x1, x2], .int j :: .int i :: st, a, h) = Rn 144 (49, [x0, x1, x2], .int (i + j) :: st, a, h) := Rn_go c144_48 rfl
theorem c144_49 : mcode 144 49 = some (.ireturn, 1, 0, 0, 0) := rfl
theorem r144_49 : Rn 144 (49, [x0, x1, x2], [.int i], a, h) = some (some (.int i), a, h) := Rn_ireti c144_49
theorem c145_0 : mcode 145 0 = some (.aload_n 0, 1, 0, 0, 0) := rfl
theorem r145_0 : Rn 145 (0, [some (.ref q), x1, x2, x3], st, a, h) = Rn 145 (1, [some (.ref q), x1, x2, x3], .ref q :: st, a, h) := Rn_go c145_0 rfl
theorem c145_1 : mcode 145 1 = some (.getfield 7, 3, 6, 0, 0) := rfl
theorem r145_1 : Rn 145 (1, [x0, x1, x2, x3], .ref q :: st, a, h) = Kv 145 4 [x0, x1, x2, x3] st a h (mgf h q 6 0) := Rn_getf c145_1 rfl
theorem c145_4 : mcode 145 4 = some (.iconst 0, 1, 0, 0, 0) := rfl
theorem r145_4 : Rn 145 (4, [x0, x1, x2, x3], st, a, h) = Rn 145 (5, [x0, x1, x2, x3], .int (0 : Int32) :: st, a, h) := Rn_go c145_4 rfl
theorem c145_5 : mcode 145 5 = some (.iaload, 1, 0, 0, 0) := rfl
theorem r145_5 : Rn 145 (5, [x0, x1, x2, x3], .int i :: .ref q :: st, a, h) = Ki 145 6 [x0, x1, x2, x3] st a h (mld h q i false) := Rn_iald c145_5 rfl
theorem c145_6 : mcode 145 6 = some (.istore_n 3, 1, 0, 0, 0) := rfl
theorem r145_6 : Rn 145 (6, [x0, x1, x2, x3], .int i :: st, a, h) = Nl x2 (Rn 145 (7, [x0, x1, x2, some (.int i)], st, a, h)) := Rn_st1 (k := 3) (v := .int i) x2 c145_6 rfl rfl rfl rfl
theorem c145_7 : mcode 145 7 = some (.aload_n 0, 1, 0, 0, 0) := rfl
theorem r145_7 : Rn 145 (7, [some (.ref q), x1, x2, x3], st, a, h) = Rn 145 (8, [some (.ref q), x1, x2, x3], .ref q :: st, a, h) := Rn_go c145_7 rfl
theorem c145_8 : mcode 145 8 = some (.getfield 7, 3, 6, 0, 0) := rfl
theorem r145_8 : Rn 145 (8, [x0, x1, x2, x3], .ref q :: st, a, h) = Kv 145 11 [x0, x1, x2, x3] st a h (mgf h q 6 0) := Rn_getf c145_8 rfl
theorem c145_11 : mcode 145 11 = some (.iload_n 3, 1, 0, 0, 0) := rfl
theorem r145_11 : Rn 145 (11, [x0, x1, x2, some (.int i)], st, a, h) = Rn 145 (12, [x0, x1, x2, some (.int i)], .int i :: st, a, h) := Rn_go c145_11 rfl
theorem c145_12 : mcode 145 12 = some (.iconst 0, 1, 0, 0, 0) := rfl
theorem r145_12 : Rn 145 (12, [x0, x1, x2, x3], st, a, h) = Rn 145 (13, [x0, x1, x2, x3], .int (0 : Int32) :: st, a, h) := Rn_go c145_12 rfl
theorem c145_13 : mcode 145 13 = some (.invokestatic 79, 3, 130, 2, 0) := rfl
theorem r145_13 : Rn 145 (13, [x0, x1, x2, x3], [v1, v0, .ref q0], a, h) = Bk 145 16 [x0, x1, x2, x3] [.ref q0] (Ec 130 [v0, v1] a h) := Rn_call0 c145_13 (fun z => nomatch z) rfl (Nat.le_of_ble_eq_true rfl) rfl rfl (Nat.le_of_ble_eq_true rfl)
theorem c145_16 : mcode 145 16 = some (.iload_n 1, 1, 0, 0, 0) := rfl
theorem r145_16 : Rn 145 (16, [x0, some (.int i), x2, x3], st, a, h) = Rn 145 (17, [x0, some (.int i), x2, x3], .int i :: st, a, h) := Rn_go c145_16 rfl
theorem c145_17 : mcode 145 17 = some (.iastore, 1, 0, 0, 0) := rfl
theorem r145_17 : Rn 145 (17, [x0, x1, x2, x3], .int j :: .int i :: .ref q :: st, a, h) = Kh 145 18 [x0, x1, x2, x3] st a (mias h q i j) := Rn_iast c145_17 rfl
theorem c145_18 : mcode 145 18 = some (.aload_n 0, 1, 0, 0, 0) := rfl
theorem r145_18 : Rn 145 (18, [some (.ref q), x1, x2, x3], st, a, h) = Rn 145 (19, [some (.ref q), x1, x2, x3], .ref q :: st, a, h) := Rn_go c145_18 rfl
theorem c145_19 : mcode 145 19 = some (.getfield 7, 3, 6, 0, 0) := rfl
theorem r145_19 : Rn 145 (19, [x0, x1, x2, x3], .ref q :: st, a, h) = Kv 145 22 [x0, x1, x2, x3] st a h (mgf h q 6 0) := Rn_getf c145_19 rfl
theorem c145_22 : mcode 145 22 = some (.iload_n 3, 1, 0, 0, 0) := rfl
theorem r145_22 : Rn 145 (22, [x0, x1, x2, some (.int i)], st, a, h) = Rn 145 (23, [x0, x1, x2, some (.int i)], .int i :: st, a, h) := Rn_go c145_22 rfl
theorem c145_23 : mcode 145 23 = some (.iconst 1, 1, 0, 0, 0) := rfl
theorem r145_23 : Rn 145 (23, [x0, x1, x2, x3], st, a, h) = Rn 145 (24, [x0, x1, x2, x3], .int (1 : Int32) :: st, a, h) := Rn_go c145_23 rfl
theorem c145_24 : mcode 145 24 = some (.invokestatic 79, 3, 130, 2, 0) := rfl
theorem r145_24 : Rn 145 (24, [x0, x1, x2, x3], [v1, v0, .ref q0], a, h) = Bk 145 27 [x0, x1, x2, x3] [.ref q0] (Ec 130 [v0, v1] a h) := Rn_call0 c145_24 (fun z => nomatch z) rfl (Nat.le_of_ble_eq_true rfl) rfl rfl (Nat.le_of_ble_eq_true rfl)
theorem c145_27 : mcode 145 27 = some (.iload_n 2, 1, 0, 0, 0) := rfl
theorem r145_27 : Rn 145 (27, [x0, x1, some (.int i), x3], st, a, h) = Rn 145 (28, [x0, x1, some (.int i), x3], .int i :: st, a, h) := Rn_go c145_27 rfl
theorem c145_28 : mcode 145 28 = some (.iastore, 1, 0, 0, 0) := rfl
theorem r145_28 : Rn 145 (28, [x0, x1, x2, x3], .int j :: .int i :: .ref q :: st, a, h) = Kh 145 29 [x0, x1, x2, x3] st a (mias h q i j) := Rn_iast c145_28 rfl
theorem c145_29 : mcode 145 29 = some (.aload_n 0, 1, 0, 0, 0) := rfl
theorem r145_29 : Rn 145 (29, [some (.ref q), x1, x2, x3], st, a, h) = Rn 145 (30, [some (.ref q), x1, x2, x3], .ref q :: st, a, h) := Rn_go c145_29 rfl
theorem c145_30 : mcode 145 30 = some (.getfield 7, 3, 6, 0, 0) := rfl
theorem r145_30 : Rn 145 (30, [x0, x1, x2, x3], .ref q :: st, a, h) = Kv 145 33 [x0, x1, x2, x3] st a h (mgf h q 6 0) := Rn_getf c145_30 rfl
theorem c145_33 : mcode 145 33 = some (.iload_n 3, 1, 0, 0, 0) := rfl
theorem r145_33 : Rn 145 (33, [x0, x1, x2, some (.int i)], st, a, h) = Rn 145 (34, [x0, x1, x2, some (.int i)], .int i :: st, a, h) := Rn_go c145_33 rfl
theorem c145_34 : mcode 145 34 = some (.iconst 2, 1, 0, 0, 0) := rfl
theorem r145_34 : Rn 145 (34, [x0, x1, x2, x3], st, a, h) = Rn 145 (35, [x0, x1, x2, x3], .int (2 : Int32) :: st, a, h) := Rn_go c145_34 rfl
theorem c145_35 : mcode 145 35 = some (.invokestatic 79, 3, 130, 2, 0) := rfl
theorem r145_35 : Rn 145 (35, [x0, x1, x2, x3], [v1, v0, .ref q0], a, h) = Bk 145 38 [x0, x1, x2, x3] [.ref q0] (Ec 130 [v0, v1] a h) := Rn_call0 c145_35 (fun z => nomatch z) rfl (Nat.le_of_ble_eq_true rfl) rfl rfl (Nat.le_of_ble_eq_true rfl)
theorem c145_38 : mcode 145 38 = some (.iconst 0, 1, 0, 0, 0) := rfl
theorem r145_38 : Rn 145 (38, [x0, x1, x2, x3], st, a, h) = Rn 145 (39, [x0, x1, x2, x3], .int (0 : Int32) :: st, a, h) := Rn_go c145_38 rfl
theorem c145_39 : mcode 145 39 = some (.iastore, 1, 0, 0, 0) := rfl
theorem r145_39 : Rn 145 (39, [x0, x1, x2, x3], .int j :: .int i :: .ref q :: st, a, h) = Kh 145 40 [x0, x1, x2, x3] st a (mias h q i j) := Rn_iast c145_39 rfl
theorem c145_40 : mcode 145 40 = some (.aload_n 0, 1, 0, 0, 0) := rfl
theorem r145_40 : Rn 145 (40, [some (.ref q), x1, x2, x3], st, a, h) = Rn 145 (41, [some (.ref q), x1, x2, x3], .ref q :: st, a, h) := Rn_go c145_40 rfl
theorem c145_41 : mcode 145 41 = some (.getfield 7, 3, 6, 0, 0) := rfl
theorem r145_41 : Rn 145 (41, [x0, x1, x2, x3], .ref q :: st, a, h) = Kv 145 44 [x0, x1, x2, x3] st a h (mgf h q 6 0) := Rn_getf c145_41 rfl
theorem c145_44 : mcode 145 44 = some (.iload_n 3, 1, 0, 0, 0) := rfl
theorem r145_44 : Rn 145 (44, [x0, x1, x2, some (.int i)], st, a, h) = Rn 145 (45, [x0, x1, x2, some (.int i)], .int i :: st, a, h) := Rn_go c145_44 rfl
theorem c145_45 : mcode 145 45 = some (.iconst 3, 1, 0, 0, 0) := rfl
theorem r145_45 : Rn 145 (45, [x0, x1, x2, x3], st, a, h) = Rn 145 (46, [x0, x1, x2, x3], .int (3 : Int32) :: st, a, h) := Rn_go c145_45 rfl
theorem c145_46 : mcode 145 46 = some (.invokestatic 79, 3, 130, 2, 0) := rfl
theorem r145_46 : Rn 145 (46, [x0, x1, x2, x3], [v1, v0, .ref q0], a, h) = Bk 145 49 [x0, x1, x2, x3] [.ref q0] (Ec 130 [v0, v1] a h) := Rn_call0 c145_46 (fun z => nomatch z) rfl (Nat.le_of_ble_eq_true rfl) rfl rfl (Nat.le_of_ble_eq_true rfl)
theorem c145_49 : mcode 145 49 = some (.bipush 60, 2, 0, 0, 0) := rfl
theorem r145_49 : Rn 145 (49, [x0, x1, x2, x3], st, a, h) = Rn 145 (51, [x0, x1, x2, x3], .int (60 : Int32) :: st, a, h) := Rn_go c145_49 rfl
theorem c145_51 : mcode 145 51 = some (.iastore, 1, 0, 0, 0) := rfl
theorem r145_51 : Rn 145 (51, [x0, x1, x2, x3], .int j :: .int i :: .ref q :: st, a, h) = Kh 145 52 [x0, x1, x2, x3] st a (mias h q i j) := Rn_iast c145_51 rfl
theorem c145_52 : mcode 145 52 = some (.aload_n 0, 1, 0, 0, 0) := rfl
theorem r145_52 : Rn 145 (52, [some (.ref q), x1, x2, x3], st, a, h) = Rn 145 (53, [some (.ref q), x1, x2, x3], .ref q :: st, a, h) := Rn_go c145_52 rfl
theorem c145_53 : mcode 145 53 = some (.getfield 7, 3, 6, 0, 0) := rfl
theorem r145_53 : Rn 145 (53, [x0, x1, x2, x3], .ref q :: st, a, h) = Kv 145 56 [x0, x1, x2, x3] st a h (mgf h q 6 0) := Rn_getf c145_53 rfl
theorem c145_56 : mcode 145 56 = some (.iload_n 3, 1, 0, 0, 0) := rfl
theorem r145_56 : Rn 145 (56, [x0, x1, x2, some (.int i)], st, a, h) = Rn 145 (57, [x0, x1, x2, some (.int i)], .int i :: st, a, h) := Rn_go c145_56 rfl
theorem c145_57 : mcode 145 57 = some (.iconst 4, 1, 0, 0, 0) := rfl
theorem r145_57 : Rn 145 (57, [x0, x1, x2, x3], st, a, h) = Rn 145 (58, [x0, x1, x2, x3], .int (4 : Int32) :: st, a, h) := Rn_go c145_57 rfl
theorem c145_58 : mcode 145 58 = some (.invokestatic 79, 3, 130, 2, 0) := rfl
theorem r145_58 : Rn 145 (58, [x0, x1, x2, x3], [v1, v0, .ref q0], a, h) = Bk 145 61 [x0, x1, x2, x3] [.ref q0] (Ec 130 [v0, v1] a h) := Rn_call0 c145_58 (fun z => nomatch z) rfl (Nat.le_of_ble_eq_true rfl) rfl rfl (Nat.le_of_ble_eq_true rfl)
theorem c145_61 : mcode 145 61 = some (.iconst 0, 1, 0, 0, 0) := rfl
theorem r145_61 : Rn 145 (61, [x0, x1, x2, x3], st, a, h) = Rn 145 (62, [x0, x1, x2, x3], .int (0 : Int32) :: st, a, h) := Rn_go c145_61 rfl
theorem c145_62 : mcode 145 62 = some (.iastore, 1, 0, 0, 0) := rfl
theorem r145_62 : Rn 145 (62, [x0, x1, x2, x3], .int j :: .int i :: .ref q :: st, a, h) = Kh 145 63 [x0, x1, x2, x3] st a (mias h q i j) := Rn_iast c145_62 rfl
theorem c145_63 : mcode 145 63 = some (.aload_n 0, 1, 0, 0, 0) := rfl
theorem r145_63 : Rn 145 (63, [some (.ref q), x1, x2, x3], st, a, h) = Rn 145 (64, [some (.ref q), x1, x2, x3], .ref q :: st, a, h) := Rn_go c145_63 rfl
theorem c145_64 : mcode 145 64 = some (.getfield 7, 3, 6, 0, 0) := rfl
theorem r145_64 : Rn 145 (64, [x0, x1, x2, x3], .ref q :: st, a, h) = Kv 145 67 [x0, x1, x2, x3] st a h (mgf h q 6 0) := Rn_getf c145_64 rfl
theorem c145_67 : mcode 145 67 = some (.iload_n 3, 1, 0, 0, 0) := rfl
theorem r145_67 : Rn 145 (67, [x0, x1, x2, some (.int i)], st, a, h) = Rn 145 (68, [x0, x1, x2, some (.int i)], .int i :: st, a, h) := Rn_go c145_67 rfl
theorem c145_68 : mcode 145 68 = some (.iconst 5, 1, 0, 0, 0) := rfl
theorem r145_68 : Rn 145 (68, [x0, x1, x2, x3], st, a, h) = Rn 145 (69, [x0, x1, x2, x3], .int (5 : Int32) :: st, a, h) := Rn_go c145_68 rfl
theorem c145_69 : mcode 145 69 = some (.invokestatic 79, 3, 130, 2, 0) := rfl
theorem r145_69 : Rn 145 (69, [x0, x1, x2, x3], [v1, v0, .ref q0], a, h) = Bk 145 72 [x0, x1, x2, x3] [.ref q0] (Ec 130 [v0, v1] a h) := Rn_call0 c145_69 (fun z => nomatch z) rfl (Nat.le_of_ble_eq_true rfl) rfl rfl (Nat.le_of_ble_eq_true rfl)
theorem c145_72 : mcode 145 72 = some (.iconst 0, 1, 0, 0, 0) := rfl
theorem r145_72 : Rn 145 (72, [x0, x1, x2, x3], st, a, h) = Rn 145 (73, [x0, x1, x2, x3], .int (0 : Int32) :: st, a, h) := Rn_go c145_72 rfl
theorem c145_73 : mcode 145 73 = some (.iastore, 1, 0, 0, 0) := rfl
theorem r145_73 : Rn 145 (73, [x0, x1, x2, x3], .int j :: .int i :: .ref q :: st, a, h) = Kh 145 74 [x0, x1, x2, x3] st a (mias h q i j) := Rn_iast c145_73 rfl
theorem c145_74 : mcode 145 74 = some (.aload_n 0, 1, 0, 0, 0) := rfl
theorem r145_74 : Rn 145 (74, [some (.ref q), x1, x2, x3], st, a, h) = Rn 145 (75, [some (.ref q), x1, x2, x3], .ref q :: st, a, h) := Rn_go c145_74 rfl
theorem c145_75 : mcode 145 75 = some (.getfield 7, 3, 6, 0, 0) := rfl
theorem r145_75 : Rn 145 (75, [x0, x1, x2, x3], .ref q :: st, a, h) = Kv 145 78 [x0, x1, x2, x3] st a h (mgf h q 6 0) := Rn_getf c145_75 rfl
theorem c145_78 : mcode 145 78 = some (.iconst 0, 1, 0, 0, 0) := rfl
theorem r145_78 : Rn 145 (78, [x0, x1, x2, x3], st, a, h) = Rn 145 (79, [x0, x1, x2, x3], .int (0 : Int32) :: st, a, h) := Rn_go c145_78 rfl
theorem c145_79 : mcode 145 79 = some (.dup2, 1, 0, 0, 0) := rfl
theorem r145_79 : Rn 145 (79, [x0, x1, x2, x3], .int i :: .ref p :: st, a, h) = Rn 145 (80, [x0, x1, x2, x3], .int i :: .ref p :: .int i :: .ref p :: st, a, h) := Rn_go c145_79 rfl
theorem c145_80 : mcode 145 80 = some (.iaload, 1, 0, 0, 0) := rfl
theorem r145_80 : Rn 145 (80, [x0, x1, x2, x3], .int i :: .ref q :: st, a, h) = Ki 145 81 [x0, x1, x2, x3] st a h (mld h q i false) := Rn_iald c145_80 rfl
theorem c145_81 : mcode 145 81 = some (.iconst 1, 1, 0, 0, 0) := rfl
theorem r145_81 : Rn 145 (81, [x0, x1, x2, x3], st, a, h) = Rn 145 (82, [x0, x1, x2, x3], .int (1 : Int32) :: st, a, h) := Rn_go c145_81 rfl
theorem c145_82 : mcode 145 82 = some (.iadd, 1, 0, 0, 0) := rfl
theorem r145_82 : Rn 145 (82, [x0, x1, x2, x3], .int j :: .int i :: st, a, h) = Rn 145 (83, [x0, x1, x2, x3], .int (i + j) :: st, a, h) := Rn_go c145_82 rfl
theorem c145_83 : mcode 145 83 = some (.iastore, 1, 0, 0, 0) := rfl
theorem r145_83 : Rn 145 (83, [x0, x1, x2, x3], .int j :: .int i :: .ref q :: st, a, h) = Kh 145 84 [x0, x1, x2, x3] st a (mias h q i j) := Rn_iast c145_83 rfl
theorem c145_84 : mcode 145 84 = some (.return_, 1, 0, 0, 0) := rfl
theorem r145_84 : Rn 145 (84, [x0, x1, x2, x3], [], a, h) = some (none, a, h) := Rn_act c145_84
theorem c146_0 : mcode 146 0 = some (.iload_n 1, 1, 0, 0, 0) := rfl
theorem r146_0 : Rn 146 (0, [x0, some (.int i), x2], st, a, h) = Rn 146 (1, [x0, some (.int i), x2], .int i :: st, a, h) := Rn_go c146_0 rfl
theorem c146_1 : mcode 146 1 = some (.i2l, 1, 0, 0, 0) := rfl
theorem r146_1 : Rn 146 (1, [x0, x1, x2], .int i :: st, a, h) = Rn 146 (2, [x0, x1, x2], .long i.toInt64 :: st, a, h) := Rn_go c146_1 rfl
theorem c146_2 : mcode 146 2 = some (.lconst 0, 1, 0, 0, 0) := rfl
theorem r146_2 : Rn 146 (2, [x0, x1, x2], st, a, h) = Rn 146 (3, [x0, x1, x2], .long (0 : Int64) :: st, a, h) := Rn_go c146_2 rfl
theorem c146_3 : mcode 146 3 = some (.ldc2_w 89, 3, 0, 0, 6) := rfl
theorem r146_3 : Rn 146 (3, [x0, x1, x2], st, a, h) = Rn 146 (6, [x0, x1, x2], .long (6 : Int64) :: st, a, h) := Rn_go c146_3 rfl
theorem c146_6 : mcode 146 6 = some (.invokestatic 52, 3, 123, 3, 0) := rfl
theorem r146_6 : Rn 146 (6, [x0, x1, x2], [v2, v1, v0], a, h) = Bk 146 9 [x0, x1, x2] [] (Ec 123 [v0, v1, v2] a h) := Rn_call0 c146_6 (fun z => nomatch z) rfl (Nat.le_of_ble_eq_true rfl) rfl rfl (Nat.le_of_ble_eq_true rfl)
theorem c146_9 : mcode 146 9 = some (.ifCond .eq 10, 3, 0, 0, 0) := rfl
theorem r146_9 : Rn 146 (9, [x0, x1, x2], .int i :: st, a, h) = if i = 0 then Rn 146 (19, [x0, x1, x2], st, a, h) else Rn 146 (12, [x0, x1, x2], st, a, h) := Rn_ifc c146_9 mc_eq rfl rfl
theorem c146_12 : mcode 146 12 = some (.iload_n 2, 1, 0, 0, 0) := rfl
theorem r146_12 : Rn 146 (12, [x0, x1, some (.int i)], st, a, h) = Rn 146 (13, [x0, x1, some (.int i)], .int i :: st, a, h) := Rn_go c146_12 rfl
theorem c146_13 : mcode 146 13 = some (.invokestatic 43, 3, 127, 1, 0) := rfl
theorem r146_13 : Rn 146 (13, [x0, x1, x2], [v0], a, h) = Bk 146 16 [x0, x1, x2] [] (Ec 127 [v0] a h) := Rn_call0 c146_13 (fun z => nomatch z) rfl (Nat.le_of_ble_eq_true rfl) rfl rfl (Nat.le_of_ble_eq_true rfl)
theorem c146_16 : mcode 146 16 = some (.ifCond .ne 10, 3, 0, 0, 0) := rfl
theorem r146_16 : Rn 146 (16, [x0, x1, x2], .int i :: st, a, h) = if i = 0 then Rn 146 (19, [x0, x1, x2], st, a, h) else Rn 146 (26, [x0, x1, x2], st, a, h) := Rn_ifcn c146_16 mc_ne rfl rfl
theorem c146_19 : mcode 146 19 = some (.aload_n 0, 1, 0, 0, 0) := rfl
theorem r146_19 : Rn 146 (19, [some (.ref q), x1, x2], st, a, h) = Rn 146 (20, [some (.ref q), x1, x2], .ref q :: st, a, h) := Rn_go c146_19 rfl
theorem c146_20 : mcode 146 20 = some (.ldc 37, 2, 0, 0, -1000001) := rfl
theorem r146_20 : Rn 146 (20, [x0, x1, x2], st, a, h) = Rn 146 (22, [x0, x1, x2], .int (-1000001 : Int32) :: st, a, h) := Rn_go c146_20 rfl
theorem c146_22 : mcode 146 22 = some (.invokevirtual 39, 3, 124, 1, 6) := rfl
theorem r146_22 : Rn 146 (22, [x0, x1, x2], [v0, .ref q], a, h) = if mis h q 6 = true then Bk 146 25 [x0, x1, x2] [] (Ec 124 [.ref q, v0] a h) else none := Rn_call1 c146_22 rfl (Nat.le_of_ble_eq_true rfl) rfl rfl (Nat.le_of_ble_eq_true rfl)
theorem c146_25 : mcode 146 25 = some (.ireturn, 1, 0, 0, 0) := rfl
theorem r146_25 : Rn 146 (25, [x0, x1, x2], [.int i], a, h) = some (some (.int i), a, h) := Rn_ireti c146_25
theorem c146_26 : mcode 146 26 = some (.aload_n 0, 1, 0, 0, 0) := rfl
theorem r146_26 : Rn 146 (26, [some (.ref q), x1, x2], st, a, h) = Rn 146 (27, [some (.ref q), x1, x2], .ref q :: st, a, h) := Rn_go c146_26 rfl
theorem c146_27 : mcode 146 27 = some (.getfield 7, 3, 6, 0, 0) := rfl
theorem r146_27 : Rn 146 (27, [x0, x1, x2], .ref q :: st, a, h) = Kv 146 30 [x0, x1, x2] st a h (mgf h q 6 0) := Rn_getf c146_27 rfl
theorem c146_30 : mcode 146 30 = some (.iconst 0, 1, 0, 0, 0) := rfl
theorem r146_30 : Rn 146 (30, [x0, x1, x2], st, a, h) = Rn 146 (31, [x0, x1, x2], .int (0 : Int32) :: st, a, h) := Rn_go c146_30 rfl
theorem c146_31 : mcode 146 31 = some (.iaload, 1, 0, 0, 0) := rfl
theorem r146_31 : Rn 146 (31, [x0, x1, x2], .int i :: .ref q :: st, a, h) = Ki 146 32 [x0, x1, x2] st a h (mld h q i false) := Rn_iald c146_31 rfl
theorem c146_32 : mcode 146 32 = some (.bipush 8, 2, 0, 0, 0) := rfl
theorem r146_32 : Rn 146 (32, [x0, x1, x2], st, a, h) = Rn 146 (34, [x0, x1, x2], .int (8 : Int32) :: st, a, h) := Rn_go c146_32 rfl
theorem c146_34 : mcode 146 34 = some (.if_icmp .ne 10, 3, 0, 0, 0) := rfl
theorem r146_34 : Rn 146 (34, [x0, x1, x2], .int j :: .int i :: st, a, h) = if i = j then Rn 146 (37, [x0, x1, x2], st, a, h) else Rn 146 (44, [x0, x1, x2], st, a, h) := Rn_icmpn c146_34 mc_ne rfl rfl
theorem c146_37 : mcode 146 37 = some (.aload_n 0, 1, 0, 0, 0) := rfl
theorem r146_37 : Rn 146 (37, [some (.ref q), x1, x2], st, a, h) = Rn 146 (38, [some (.ref q), x1, x2], .ref q :: st, a, h) := Rn_go c146_37 rfl
theorem c146_38 : mcode 146 38 = some (.ldc 91, 2, 0, 0, -1000002) := rfl
theorem r146_38 : Rn 146 (38, [x0, x1, x2], st, a, h) = Rn 146 (40, [x0, x1, x2], .int (-1000002 : Int32) :: st, a, h) := Rn_go c146_38 rfl
theorem c146_40 : mcode 146 40 = some (.invokevirtual 39, 3, 124, 1, 6) := rfl
theorem r146_40 : Rn 146 (40, [x0, x1, x2], [v0, .ref q], a, h) = if mis h q 6 = true then Bk 146 43 [x0, x1, x2] [] (Ec 124 [.ref q, v0] a h) else none := Rn_call1 c146_40 rfl (Nat.le_of_ble_eq_true rfl) rfl rfl (Nat.le_of_ble_eq_true rfl)
theorem c146_43 : mcode 146 43 = some (.ireturn, 1, 0, 0, 0) := rfl
theorem r146_43 : Rn 146 (43, [x0, x1, x2], [.int i], a, h) = some (some (.int i), a, h) := Rn_ireti c146_43
theorem c146_44 : mcode 146 44 = some (.aload_n 0, 1, 0, 0, 0) := rfl
theorem r146_44 : Rn 146 (44, [some (.ref q), x1, x2], st, a, h) = Rn 146 (45, [some (.ref q), x1, x2], .ref q :: st, a, h) := Rn_go c146_44 rfl
theorem c146_45 : mcode 146 45 = some (.iload_n 1, 1, 0, 0, 0) := rfl
theorem r146_45 : Rn 146 (45, [x0, some (.int i), x2], st, a, h) = Rn 146 (46, [x0, some (.int i), x2], .int i :: st, a, h) := Rn_go c146_45 rfl
theorem c146_46 : mcode 146 46 = some (.iload_n 2, 1, 0, 0, 0) := rfl
theorem r146_46 : Rn 146 (46, [x0, x1, some (.int i)], st, a, h) = Rn 146 (47, [x0, x1, some (.int i)], .int i :: st, a, h) := Rn_go c146_46 rfl
theorem c146_47 : mcode 146 47 = some (.invokevirtual 92, 3, 145, 2, 6) := rfl
theorem r146_47 : Rn 146 (47, [x0, x1, x2], [v1, v0, .ref q], a, h) = if mis h q 6 = true then Bk 146 50 [x0, x1, x2] [] (Ec 145 [.ref q, v0, v1] a h) else none := Rn_call1 c146_47 rfl (Nat.le_of_ble_eq_true rfl) rfl rfl (Nat.le_of_ble_eq_true rfl)
theorem c146_50 : mcode 146 50 = some (.aload_n 0, 1, 0, 0, 0) := rfl
theorem r146_50 : Rn 146 (50, [some (.ref q), x1, x2], st, a, h) = Rn 146 (51, [some (.ref q), x1, x2], .ref q :: st, a, h) := Rn_go c146_50 rfl
theorem c146_51 : mcode 146 51 = some (.getfield 7, 3, 6, 0, 0) := rfl
theorem r146_51 : Rn 146 (51, [x0, x1, x2], .ref q :: st, a, h) = Kv 146 54 [x0, x1, x2] st a h (mgf h q 6 0) := Rn_getf c146_51 rfl
theorem c146_54 : mcode 146 54 = some (.iconst 0, 1, 0, 0, 0) := rfl
theorem r146_54 : Rn 146 (54, [x0, x1, x2], st, a, h) = Rn 146 (55, [x0, x1, x2], .int (0 : Int32) :: st, a, h) := Rn_go c146_54 rfl
theorem c146_55 : mcode 146 55 = some (.iaload, 1, 0, 0, 0) := rfl
theorem r146_55 : Rn 146 (55, [x0, x1, x2], .int i :: .ref q :: st, a, h) = Ki 146 56 [x0, x1, x2] st a h (mld h q i false) := Rn_iald c146_55 rfl
theorem c146_56 : mcode 146 56 = some (.iconst 1, 1, 0, 0, 0) := rfl
theorem r146_56 : Rn 146 (56, [x0, x1, x2], st, a, h) = Rn 146 (57, [x0, x1, x2], .int (1 : Int32) :: st, a, h) := Rn_go c146_56 rfl
theorem c146_57 : mcode 146 57 = some (.isub, 1, 0, 0, 0) := rfl
theorem r146_57 : Rn 146 (57, [x0, x1, x2], .int j :: .int i :: st, a, h) = Rn 146 (58, [x0, x1, x2], .int (i - j) :: st, a, h) := Rn_go c146_57 rfl
theorem c146_58 : mcode 146 58 = some (.ireturn, 1, 0, 0, 0) := rfl
theorem r146_58 : Rn 146 (58, [x0, x1, x2], [.int i], a, h) = some (some (.int i), a, h) := Rn_ireti c146_58
theorem c147_0 : mcode 147 0 = some (.iconst 4, 1, 0, 0, 0) := rfl
theorem r147_0 : Rn 147 (0, [x0, x1, x2], st, a, h) = Rn 147 (1, [x0, x1, x2], .int (4 : Int32) :: st, a, h) := Rn_go c147_0 rfl
theorem c147_1 : mcode 147 1 = some (.aload_n 0, 1, 0, 0, 0) := rfl
theorem r147_1 : Rn 147 (1, [some (.ref q), x1, x2], st, a, h) = Rn 147 (2, [some (.ref q), x1, x2], .ref q :: st, a, h) := Rn_go c147_1 rfl
theorem c147_2 : mcode 147 2 = some (.getfield 7, 3, 6, 0, 0) := rfl
theorem r147_2 : Rn 147 (2, [x0, x1, x2], .ref q :: st, a, h) = Kv 147 5 [x0, x1, x2] st a h (mgf h q 6 0) := Rn_getf c147_2 rfl
theorem c147_5 : mcode 147 5 = some (.iconst 3, 1, 0, 0, 0) := rfl
theorem r147_5 : Rn 147 (5, [x0, x1, x2], st, a, h) = Rn 147 (6, [x0, x1, x2], .int (3 : Int32) :: st, a, h) := Rn_go c147_5 rfl
theorem c147_6 : mcode 147 6 = some (.iaload, 1, 0, 0, 0) := rfl
theorem r147_6 : Rn 147 (6, [x0, x1, x2], .int i :: .ref q :: st, a, h) = Ki 147 7 [x0, x1, x2] st a h (mld h q i false) := Rn_iald c147_6 rfl
theorem c147_7 : mcode 147 7 = some (.iadd, 1, 0, 0, 0) := rfl
theorem r147_7 : Rn 147 (7, [x0, x1, x2], .int j :: .int i :: st, a, h) = Rn 147 (8, [x0, x1, x2], .int (i + j) :: st, a, h) := Rn_go c147_7 rfl
theorem c147_8 : mcode 147 8 = some (.istore_n 2, 1, 0, 0, 0) := rfl
theorem r147_8 : Rn 147 (8, [x0, x1, x2], .int i :: st, a, h) = Nl x1 (Rn 147 (9, [x0, x1, some (.int i)], st, a, h)) := Rn_st1 (k := 2) (v := .int i) x1 c147_8 rfl rfl rfl rfl
theorem c147_9 : mcode 147 9 = some (.aload_n 0, 1, 0, 0, 0) := rfl
theorem r147_9 : Rn 147 (9, [some (.ref q), x1, x2], st, a, h) = Rn 147 (10, [some (.ref q), x1, x2], .ref q :: st, a, h) := Rn_go c147_9 rfl
theorem c147_10 : mcode 147 10 = some (.iload_n 1, 1, 0, 0, 0) := rfl
theorem r147_10 : Rn 147 (10, [x0, some (.int i), x2], st, a, h) = Rn 147 (11, [x0, some (.int i), x2], .int i :: st, a, h) := Rn_go c147_10 rfl
theorem c147_11 : mcode 147 11 = some (.iconst 0, 1, 0, 0, 0) := rfl
theorem r147_11 : Rn 147 (11, [x0, x1, x2], st, a, h) = Rn 147 (12, [x0, x1, x2], .int (0 : Int32) :: st, a, h) := Rn_go c147_11 rfl
theorem c147_12 : mcode 147 12 = some (.invokevirtual 63, 3, 131, 2, 6) := rfl
theorem r147_12 : Rn 147 (12, [x0, x1, x2], [v1, v0, .ref q], a, h) = if mis h q 6 = true then Bk 147 15 [x0, x1, x2] [] (Ec 131 [.ref q, v0, v1] a h) else none := Rn_call1 c147_12 rfl (Nat.le_of_ble_eq_true rfl) rfl rfl (Nat.le_of_ble_eq_true rfl)
theorem c147_15 : mcode 147 15 = some (.tableswitch 73 1 6 #[37, 41, 45, 51, 69, 71], 37, 0, 0, 0) := rfl
theorem r147_15_1 : Rn 147 (15, [x0, x1, x2], .int (1 : Int32) :: st, a, h) = Rn 147 (52, [x0, x1, x2], st, a, h) := Rn_swAt c147_15 rfl rfl
theorem r147_15_2 : Rn 147 (15, [x0, x1, x2], .int (2 : Int32) :: st, a, h) = Rn 147 (56, [x0, x1, x2], st, a, h) := Rn_swAt c147_15 rfl rfl
theorem r147_15_3 : Rn 147 (15, [x0, x1, x2], .int (3 : Int32) :: st, a, h) = Rn 147 (60, [x0, x1, x2], st, a, h) := Rn_swAt c147_15 rfl rfl
theorem r147_15_4 : Rn 147 (15, [x0, x1, x2], .int (4 : Int32) :: st, a, h) = Rn 147 (66, [x0, x1, x2], st, a, h) := Rn_swAt c147_15 rfl rfl
theorem r147_15_5 : Rn 147 (15, [x0, x1, x2], .int (5 : Int32) :: st, a, h) = Rn 147 (84, [x0, x1, x2], st, a, h) := Rn_swAt c147_15 rfl rfl
theorem r147_15_6 : Rn 147 (15, [x0, x1, x2], .int (6 : Int32) :: st, a, h) = Rn 147 (86, [x0, x1, x2], st, a, h) := Rn_swAt c147_15 rfl rfl
theorem r147_15_d (hi : i.toInt < 1 ∨ 6 < i.toInt) : Rn 147 (15, [x0, x1, x2], .int i :: st, a, h) = Rn 147 (88, [x0, x1, x2], st, a, h) := Rn_swAt c147_15 (if_pos hi) rfl
theorem c147_52 : mcode 147 52 = some (.iload_n 2, 1, 0, 0, 0) := rfl
theorem r147_52 : Rn 147 (52, [x0, x1, some (.int i)], st, a, h) = Rn 147 (53, [x0, x1, some (.int i)], .int i :: st, a, h) := Rn_go c147_52 rfl
theorem c147_53 : mcode 147 53 = some (.iconst 3, 1, 0, 0, 0) := rfl
theorem r147_53 : Rn 147 (53, [x0, x1, x2], st, a, h) = Rn 147 (54, [x0, x1, x2], .int (3 : Int32) :: st, a, h) := Rn_go c147_53 rfl
theorem c147_54 : mcode 147 54 = some (.iadd, 1, 0, 0, 0) := rfl
theorem r147_54 : Rn 147 (54, [x0, x1, x2], .int j :: .int i :: st, a, h) = Rn 147 (55, [x0, x1, x2], .int (i + j) :: st, a, h) := Rn_go c147_54 rfl
theorem c147_55 : mcode 147 55 = some (.ireturn, 1, 0, 0, 0) := rfl
theorem r147_55 : Rn 147 (55, [x0, x1, x2], [.int i], a, h) = some (some (.int i), a, h) := Rn_ireti c147_55
theorem c147_56 : mcode 147 56 = some (.iload_n 2, 1, 0, 0, 0) := rfl
theorem r147_56 : Rn 147 (56, [x0, x1, some (.int i)], st, a, h) = Rn 147 (57, [x0, x1, some (.int i)], .int i :: st, a, h) := Rn_go c147_56 rfl
theorem c147_57 : mcode 147 57 = some (.iconst 2, 1, 0, 0, 0) := rfl
theorem r147_57 : Rn 147 (57, [x0, x1, x2], st, a, h) = Rn 147 (58, [x0, x1, x2], .int (2 : Int32) :: st, a, h) := Rn_go c147_57 rfl
theorem c147_58 : mcode 147 58 = some (.idiv, 1, 0, 0, 0) := rfl
theorem r147_58 : Rn 147 (58, [x0, x1, x2], .int j :: .int i :: st, a, h) = if j = 0 then none else Rn 147 (59, [x0, x1, x2], .int (i / j) :: st, a, h) := Rn_idiv c147_58 rfl
theorem c147_59 : mcode 147 59 = some (.ireturn, 1, 0, 0, 0) := rfl
theorem r147_59 : Rn 147 (59, [x0, x1, x2], [.int i], a, h) = some (some (.int i), a, h) := Rn_ireti c147_59
theorem c147_60 : mcode 147 60 = some (.iload_n 2, 1, 0, 0, 0) := rfl
theorem r147_60 : Rn 147 (60, [x0, x1, some (.int i)], st, a, h) = Rn 147 (61, [x0, x1, some (.int i)], .int i :: st, a, h) := Rn_go c147_60 rfl
theorem c147_61 : mcode 147 61 = some (.iconst 2, 1, 0, 0, 0) := rfl
theorem r147_61 : Rn 147 (61, [x0, x1, x2], st, a, h) = Rn 147 (62, [x0, x1, x2], .int (2 : Int32) :: st, a, h) := Rn_go c147_61 rfl
theorem c147_62 : mcode 147 62 = some (.idiv, 1, 0, 0, 0) := rfl
theorem r147_62 : Rn 147 (62, [x0, x1, x2], .int j :: .int i :: st, a, h) = if j = 0 then none else Rn 147 (63, [x0, x1, x2], .int (i / j) :: st, a, h) := Rn_idiv c147_62 rfl
theorem c147_63 : mcode 147 63 = some (.iconst 5, 1, 0, 0, 0) := rfl
theorem r147_63 : Rn 147 (63, [x0, x1, x2], st, a, h) = Rn 147 (64, [x0, x1, x2], .int (5 : Int32) :: st, a, h) := Rn_go c147_63 rfl
theorem c147_64 : mcode 147 64 = some (.iadd, 1, 0, 0, 0) := rfl
theorem r147_64 : Rn 147 (64, [x0, x1, x2], .int j :: .int i :: st, a, h) = Rn 147 (65, [x0, x1, x2], .int (i + j) :: st, a, h) := Rn_go c147_64 rfl
theorem c147_65 : mcode 147 65 = some (.ireturn, 1, 0, 0, 0) := rfl
theorem r147_65 : Rn 147 (65, [x0, x1, x2], [.int i], a, h) = some (some (.int i), a, h) := Rn_ireti c147_65
theorem c147_66 : mcode 147 66 = some (.iload_n 2, 1, 0, 0, 0) := rfl
theorem r147_66 : Rn 147 (66, [x0, x1, some (.int i)], st, a, h) = Rn 147 (67, [x0, x1, some (.int i)], .int i :: st, a, h) := Rn_go c147_66 rfl
theorem c147_67 : mcode 147 67 = some (.iconst 2, 1, 0, 0, 0) := rfl
theorem r147_67 : Rn 147 (67, [x0, x1, x2], st, a, h) = Rn 147 (68, [x0, x1, x2], .int (2 : Int32) :: st, a, h) := Rn_go c147_67 rfl
theorem c147_68 : mcode 147 68 = some (.idiv, 1, 0, 0, 0) := rfl
theorem r147_68 : Rn 147 (68, [x0, x1, x2], .int j :: .int i :: st, a, h) = if j = 0 then none else Rn 147 (69, [x0, x1, x2], .int (i / j) :: st, a, h) := Rn_idiv c147_68 rfl
theorem c147_69 : mcode 147 69 = some (.iconst 5, 1, 0, 0, 0) := rfl
theorem r147_69 : Rn 147 (69, [x0, x1, x2], st, a, h) = Rn 147 (70, [x0, x1, x2], .int (5 : Int32) :: st, a, h) := Rn_go c147_69 rfl
theorem c147_70 : mcode 147 70 = some (.iadd, 1, 0, 0, 0) := rfl
theorem r147_70 : Rn 147 (70, [x0, x1, x2], .int j :: .int i :: st, a, h) = Rn 147 (71, [x0, x1, x2], .int (i + j) :: st, a, h) := Rn_go c147_70 rfl
theorem c147_71 : mcode 147 71 = some (.bipush 9, 2, 0, 0, 0) := rfl
theorem r147_71 : Rn 147 (71, [x0, x1, x2], st, a, h) = Rn 147 (73, [x0, x1, x2], .int (9 : Int32) :: st, a, h) := Rn_go c147_71 rfl
theorem c147_73 : mcode 147 73 = some (.aload_n 0, 1, 0, 0, 0) := rfl
theorem r147_73 : Rn 147 (73, [some (.ref q), x1, x2], st, a, h) = Rn 147 (74, [some (.ref q), x1, x2], .ref q :: st, a, h) := Rn_go c147_73 rfl
theorem c147_74 : mcode 147 74 = some (.iload_n 1, 1, 0, 0, 0) := rfl
theorem r147_74 : Rn 147 (74, [x0, some (.int i), x2], st, a, h) = Rn 147 (75, [x0, some (.int i), x2], .int i :: st, a, h) := Rn_go c147_74 rfl
theorem c147_75 : mcode 147 75 = some (.iconst 5, 1, 0, 0, 0) := rfl
theorem r147_75 : Rn 147 (75, [x0, x1, x2], st, a, h) = Rn 147 (76, [x0, x1, x2], .int (5 : Int32) :: st, a, h) := Rn_go c147_75 rfl
theorem c147_76 : mcode 147 76 = some (.invokevirtual 63, 3, 131, 2, 6) := rfl
theorem r147_76 : Rn 147 (76, [x0, x1, x2], [v1, v0, .ref q, .int i0, .int i1], a, h) = if mis h q 6 = true then Bk 147 79 [x0, x1, x2] [.int i0, .int i1] (Ec 131 [.ref q, v0, v1] a h) else none := Rn_call1 c147_76 rfl (Nat.le_of_ble_eq_true rfl) rfl rfl (Nat.le_of_ble_eq_true rfl)
theorem c147_79 : mcode 147 79 = some (.invokestatic 95, 3, 133, 2, 0) := rfl
theorem r147_79 : Rn 147 (79, [x0, x1, x2], [v1, v0, .int i0], a, h) = Bk 147 82 [x0, x1, x2] [.int i0] (Ec 133 [v0, v1] a h) := Rn_call0 c147_79 (fun z => nomatch z) rfl (Nat.le_of_ble_eq_true rfl) rfl rfl (Nat.le_of_ble_eq_true rfl)
theorem c147_82 : mcode 147 82 = some (.iadd, 1, 0, 0, 0) := rfl
theorem r147_82 : Rn 147 (82, [x0, x1, x2], .int j :: .int i :: st, a, h) = Rn 147 (83, [x0, x1, x2], .int (i + j) :: st, a, h) := Rn_go c147_82 rfl
theorem c147_83 : mcode 147 83 = some (.ireturn, 1, 0, 0, 0) := rfl
theorem r147_83 : Rn 147 (83, [x0, x1, x2], [.int i], a, h) = some (some (.int i), a, h) := Rn_ireti c147_83
theorem c147_84 : mcode 147 84 = some (.iconst 0, 1, 0, 0, 0) := rfl
theorem r147_84 : Rn 147 (84, [x0, x1, x2], st, a, h) = Rn 147 (85, [x0, x1, x2], .int (0 : Int32) :: st, a, h) := Rn_go c147_84 rfl
theorem c147_85 : mcode 147 85 = some (.ireturn, 1, 0, 0, 0) := rfl
theorem r147_85 : Rn 147 (85, [x0, x1, x2], [.int i], a, h) = some (some (.int i), a, h) := Rn_ireti c147_85
theorem c147_86 : mcode 147 86 = some (.iconst 1, 1, 0, 0, 0) := rfl
theorem r147_86 : Rn 147 (86, [x0, x1, x2], st, a, h) = Rn 147 (87, [x0, x1, x2], .int (1 : Int32) :: st, a, h) := Rn_go c147_86 rfl
theorem c147_87 : mcode 147 87 = some (.ireturn, 1, 0, 0, 0) := rfl
theorem r147_87 : Rn 147 (87, [x0, x1, x2], [.int i], a, h) = some (some (.int i), a, h) := Rn_ireti c147_87
theorem c147_88 : mcode 147 88 = some (.iload_n 2, 1, 0, 0, 0) := rfl
theorem r147_88 : Rn 147 (88, [x0, x1, some (.int i)], st, a, h) = Rn 147 (89, [x0, x1, some (.int i)], .int i :: st, a, h) := Rn_go c147_88 rfl
theorem c147_89 : mcode 147 89 = some (.ireturn, 1, 0, 0, 0) := rfl
theorem r147_89 : Rn 147 (89, [x0, x1, x2], [.int i], a, h) = some (some (.int i), a, h) := Rn_ireti c147_89
theorem c148_0 : mcode 148 0 = some (.aload_n 0, 1, 0, 0, 0) := rfl
theorem r148_0 : Rn 148 (0, [some (.ref q), x1, x2], st, a, h) = Rn 148 (1, [some (.ref q), x1, x2], .ref q :: st, a, h) := Rn_go c148_0 rfl
theorem c148_1 : mcode 148 1 = some (.iload_n 1, 1, 0, 0, 0) := rfl
theorem r148_1 : Rn 148 (1, [x0, some (.int i), x2], st, a, h) = Rn 148 (2, [x0, some (.int i), x2], .int i :: st, a, h) := Rn_go c148_1 rfl
theorem c148_2 : mcode 148 2 = some (.iconst 3, 1, 0, 0, 0) := rfl
theorem r148_2 : Rn 148 (2, [x0, x1, x2], st, a, h) = Rn 148 (3, [x0, x1, x2], .int (3 : Int32) :: st, a, h) := Rn_go c148_2 rfl
theorem c148_3 : mcode 148 3 = some (.invokevirtual 63, 3, 131, 2, 6) := rfl
theorem r148_3 : Rn 148 (3, [x0, x1, x2], [v1, v0, .ref q], a, h) = if mis h q 6 = true then Bk 148 6 [x0, x1, x2] [] (Ec 131 [.ref q, v0, v1] a h) else none := Rn_call1 c148_3 rfl (Nat.le_of_ble_eq_true rfl) rfl rfl (Nat.le_of_ble_eq_true rfl)
theorem c148_6 : mcode 148 6 = some (.bipush 40, 2, 0, 0, 0) := rfl
theorem r148_6 : Rn 148 (6, [x0, x1, x2], st, a, h) = Rn 148 (8, [x0, x1, x2], .int (40 : Int32) :: st, a, h) := Rn_go c148_6 rfl
theorem c148_8 : mcode 148 8 = some (.if_icmp .lt 7, 3, 0, 0, 0) := rfl
theorem r148_8 : Rn 148 (8, [x0, x1, x2], .int j :: .int i :: st, a, h) = if i < j then Rn 148 (15, [x0, x1, x2], st, a, h) else Rn 148 (11, [x0, x1, x2], st, a, h) := Rn_icmp c148_8 mc_lt rfl rfl
theorem c148_11 : mcode 148 11 = some (.iconst (-1), 1, 0, 0, 0) := rfl
theorem r148_11 : Rn 148 (11, [x0, x1, x2], st, a, h) = Rn 148 (12, [x0, x1, x2], .int (-1 : Int32) :: st, a, h) := Rn_go c148_11 rfl
theorem c148_12 : mcode 148 12 = some (.goto 4, 3, 0, 0, 0) := rfl
theorem r148_12 : Rn 148 (12, [x0, x1, x2], st, a, h) = Rn 148 (16, [x0, x1, x2], st, a, h) := Rn_goto c148_12 rfl
theorem c148_15 : mcode 148 15 = some (.iconst 1, 1, 0, 0, 0) := rfl
theorem r148_15 : Rn 148 (15, [x0, x1, x2], st, a, h) = Rn 148 (16, [x0, x1, x2], .int (1 : Int32) :: st, a, h) := Rn_go c148_15 rfl
theorem c148_16 : mcode 148 16 = some (.istore_n 2, 1, 0, 0, 0) := rfl
theorem r148_16 : Rn 148 (16, [x0, x1, x2], .int i :: st, a, h) = Nl x1 (Rn 148 (17, [x0, x1, some (.int i)], st, a, h)) := Rn_st1 (k := 2) (v := .int i) x1 c148_16 rfl rfl rfl rfl
theorem c148_17 : mcode 148 17 = some (.aload_n 0, 1, 0, 0, 0) := rfl
theorem r148_17 : Rn 148 (17, [some (.ref q), x1, x2], st, a, h) = Rn 148 (18, [some (.ref q), x1, x2], .ref q :: st, a, h) := Rn_go c148_17 rfl
theorem c148_18 : mcode 148 18 = some (.iload_n 1, 1, 0, 0, 0) := rfl
theorem r148_18 : Rn 148 (18, [x0, some (.int i), x2], st, a, h) = Rn 148 (19, [x0, some (.int i), x2], .int i :: st, a, h) := Rn_go c148_18 rfl
theorem c148_19 : mcode 148 19 = some (.iconst 0, 1, 0, 0, 0) := rfl
theorem r148_19 : Rn 148 (19, [x0, x1, x2], st, a, h) = Rn 148 (20, [x0, x1, x2], .int (0 : Int32) :: st, a, h) := Rn_go c148_19 rfl
theorem c148_20 : mcode 148 20 = some (.invokevirtual 63, 3, 131, 2, 6) := rfl
theorem r148_20 : Rn 148 (20, [x0, x1, x2], [v1, v0, .ref q], a, h) = if mis h q 6 = true then Bk 148 23 [x0, x1, x2] [] (Ec 131 [.ref q, v0, v1] a h) else none := Rn_call1 c148_20 rfl (Nat.le_of_ble_eq_true rfl) rfl rfl (Nat.le_of_ble_eq_true rfl)
theorem c148_23 : mcode 148 23 = some (.tableswitch 82 1 6 #[37, 54, 56, 58, 77, 79], 37, 0, 0, 0) := rfl
theorem r148_23_1 : Rn 148 (23, [x0, x1, x2], .int (1 : Int32) :: st, a, h) = Rn 148 (60, [x0, x1, x2], st, a, h) := Rn_swAt c148_23 rfl rfl
theorem r148_23_2 : Rn 148 (23, [x0, x1, x2], .int (2 : Int32) :: st, a, h) = Rn 148 (77, [x0, x1, x2], st, a, h) := Rn_swAt c148_23 rfl rfl
theorem r148_23_3 : Rn 148 (23, [x0, x1, x2], .int (3 : Int32) :: st, a, h) = Rn 148 (79, [x0, x1, x2], st, a, h) := Rn_swAt c148_23 rfl rfl
theorem r148_23_4 : Rn 148 (23, [x0, x1, x2], .int (4 : Int32) :: st, a, h) = Rn 148 (81, [x0, x1, x2], st, a, h) := Rn_swAt c148_23 rfl rfl
theorem r148_23_5 : Rn 148 (23, [x0, x1, x2], .int (5 : Int32) :: st, a, h) = Rn 148 (100, [x0, x1, x2], st, a, h) := Rn_swAt c148_23 rfl rfl
theorem r148_23_6 : Rn 148 (23, [x0, x1, x2], .int (6 : Int32) :: st, a, h) = Rn 148 (102, [x0, x1, x2], st, a, h) := Rn_swAt c148_23 rfl rfl
theorem r148_23_d (hi : i.toInt < 1 ∨ 6 < i.toInt) : Rn 148 (23, [x0, x1, x2], .int i :: st, a, h) = Rn 148 (105, [x0, x1, x2], st, a, h) := Rn_swAt c148_23 (if_pos hi) rfl
theorem c148_60 : mcode 148 60 = some (.aload_n 0, 1, 0, 0, 0) := rfl
theorem r148_60 : Rn 148 (60, [some (.ref q), x1, x2], st, a, h) = Rn 148 (61, [some (.ref q), x1, x2], .ref q :: st, a, h) := Rn_go c148_60 rfl
theorem c148_61 : mcode 148 61 = some (.iload_n 1, 1, 0, 0, 0) := rfl
theorem r148_61 : Rn 148 (61, [x0, some (.int i), x2], st, a, h) = Rn 148 (62, [x0, some (.int i), x2], .int i :: st, a, h) := Rn_go c148_61 rfl
theorem c148_62 : mcode 148 62 = some (.iconst 4, 1, 0, 0, 0) := rfl
theorem r148_62 : Rn 148 (62, [x0, x1, x2], st, a, h) = Rn 148 (63, [x0, x1, x2], .int (4 : Int32) :: st, a, h) := Rn_go c148_62 rfl
theorem c148_63 : mcode 148 63 = some (.invokevirtual 63, 3, 131, 2, 6) := rfl
theorem r148_63 : Rn 148 (63, [x0, x1, x2], [v1, v0, .ref q], a, h) = if mis h q 6 = true then Bk 148 66 [x0, x1, x2] [] (Ec 131 [.ref q, v0, v1] a h) else none := Rn_call1 c148_63 rfl (Nat.le_of_ble_eq_true rfl) rfl rfl (Nat.le_of_ble_eq_true rfl)
theorem c148_66 : mcode 148 66 = some (.iconst 3, 1, 0, 0, 0) := rfl
theorem r148_66 : Rn 148 (66, [x0, x1, x2], st, a, h) = Rn 148 (67, [x0, x1, x2], .int (3 : Int32) :: st, a, h) := Rn_go c148_66 rfl
theorem c148_67 : mcode 148 67 = some (.irem, 1, 0, 0, 0) := rfl
theorem r148_67 : Rn 148 (67, [x0, x1, x2], .int j :: .int i :: st, a, h) = if j = 0 then none else Rn 148 (68, [x0, x1, x2], .int (i % j) :: st, a, h) := Rn_irem c148_67 rfl
theorem c148_68 : mcode 148 68 = some (.ifCond .ne 7, 3, 0, 0, 0) := rfl
theorem r148_68 : Rn 148 (68, [x0, x1, x2], .int i :: st, a, h) = if i = 0 then Rn 148 (71, [x0, x1, x2], st, a, h) else Rn 148 (75, [x0, x1, x2], st, a, h) := Rn_ifcn c148_68 mc_ne rfl rfl
theorem c148_71 : mcode 148 71 = some (.iconst 1, 1, 0, 0, 0) := rfl
theorem r148_71 : Rn 148 (71, [x0, x1, x2], st, a, h) = Rn 148 (72, [x0, x1, x2], .int (1 : Int32) :: st, a, h) := Rn_go c148_71 rfl
theorem c148_72 : mcode 148 72 = some (.goto 4, 3, 0, 0, 0) := rfl
theorem r148_72 : Rn 148 (72, [x0, x1, x2], st, a, h) = Rn 148 (76, [x0, x1, x2], st, a, h) := Rn_goto c148_72 rfl
theorem c148_75 : mcode 148 75 = some (.iconst 0, 1, 0, 0, 0) := rfl
theorem r148_75 : Rn 148 (75, [x0, x1, x2], st, a, h) = Rn 148 (76, [x0, x1, x2], .int (0 : Int32) :: st, a, h) := Rn_go c148_75 rfl
theorem c148_76 : mcode 148 76 = some (.ireturn, 1, 0, 0, 0) := rfl
theorem r148_76 : Rn 148 (76, [x0, x1, x2], [.int i], a, h) = some (some (.int i), a, h) := Rn_ireti c148_76
theorem c148_77 : mcode 148 77 = some (.iconst 1, 1, 0, 0, 0) := rfl
theorem r148_77 : Rn 148 (77, [x0, x1, x2], st, a, h) = Rn 148 (78, [x0, x1, x2], .int (1 : Int32) :: st, a, h) := Rn_go c148_77 rfl
theorem c148_78 : mcode 148 78 = some (.ireturn, 1, 0, 0, 0) := rfl
theorem r148_78 : Rn 148 (78, [x0, x1, x2], [.int i], a, h) = some (some (.int i), a, h) := Rn_ireti c148_78
theorem c148_79 : mcode 148 79 = some (.iload_n 2, 1, 0, 0, 0) := rfl
theorem r148_79 : Rn 148 (79, [x0, x1, some (.int i)], st, a, h) = Rn 148 (80, [x0, x1, some (.int i)], .int i :: st, a, h) := Rn_go c148_79 rfl
theorem c148_80 : mcode 148 80 = some (.ireturn, 1, 0, 0, 0) := rfl
theorem r148_80 : Rn 148 (80, [x0, x1, x2], [.int i], a, h) = some (some (.int i), a, h) := Rn_ireti c148_80
theorem c148_81 : mcode 148 81 = some (.aload_n 0, 1, 0, 0, 0) := rfl
theorem r148_81 : Rn 148 (81, [some (.ref q), x1, x2], st, a, h) = Rn 148 (82, [some (.ref q), x1, x2], .ref q :: st, a, h) := Rn_go c148_81 rfl
theorem c148_82 : mcode 148 82 = some (.getfield 7, 3, 6, 0, 0) := rfl
theorem r148_82 : Rn 148 (82, [x0, x1, x2], .ref q :: st, a, h) = Kv 148 85 [x0, x1, x2] st a h (mgf h q 6 0) := Rn_getf c148_82 rfl
theorem c148_85 : mcode 148 85 = some (.iconst 1, 1, 0, 0, 0) := rfl
theorem r148_85 : Rn 148 (85, [x0, x1, x2], st, a, h) = Rn 148 (86, [x0, x1, x2], .int (1 : Int32) :: st, a, h) := Rn_go c148_85 rfl
theorem c148_86 : mcode 148 86 = some (.iaload, 1, 0, 0, 0) := rfl
theorem r148_86 : Rn 148 (86, [x0, x1, x2], .int i :: .ref q :: st, a, h) = Ki 148 87 [x0, x1, x2] st a h (mld h q i false) := Rn_iald c148_86 rfl
theorem c148_87 : mcode 148 87 = some (.iconst 2, 1, 0, 0, 0) := rfl
theorem r148_87 : Rn 148 (87, [x0, x1, x2], st, a, h) = Rn 148 (88, [x0, x1, x2], .int (2 : Int32) :: st, a, h) := Rn_go c148_87 rfl
theorem c148_88 : mcode 148 88 = some (.irem, 1, 0, 0, 0) := rfl
theorem r148_88 : Rn 148 (88, [x0, x1, x2], .int j :: .int i :: st, a, h) = if j = 0 then none else Rn 148 (89, [x0, x1, x2], .int (i % j) :: st, a, h) := Rn_irem c148_88 rfl
theorem c148_89 : mcode 148 89 = some (.ifCond .ne 9, 3, 0, 0, 0) := rfl
theorem r148_89 : Rn 148 (89, [x0, x1, x2], .int i :: st, a, h) = if i = 0 then Rn 148 (92, [x0, x1, x2], st, a, h) else Rn 148 (98, [x0, x1, x2], st, a, h) := Rn_ifcn c148_89 mc_ne rfl rfl
theorem c148_92 : mcode 148 92 = some (.iload_n 2, 1, 0, 0, 0) := rfl
theorem r148_92 : Rn 148 (92, [x0, x1, some (.int i)], st, a, h) = Rn 148 (93, [x0, x1, some (.int i)], .int i :: st, a, h) := Rn_go c148_92 rfl
theorem c148_93 : mcode 148 93 = some (.iconst 1, 1, 0, 0, 0) := rfl
theorem r148_93 : Rn 148 (93, [x0, x1, x2], st, a, h) = Rn 148 (94, [x0, x1, x2], .int (1 : Int32) :: st, a, h) := Rn_go c148_93 rfl
theorem c148_94 : mcode 148 94 = some (.iadd, 1, 0, 0, 0) := rfl
theorem r148_94 : Rn 148 (94, [x0, x1, x2], .int j :: .int i :: st, a, h) = Rn 148 (95, [x0, x1, x2], .int (i + j) :: st, a, h) := Rn_go c148_94 rfl
theorem c148_95 : mcode 148 95 = some (.goto 4, 3, 0, 0, 0) := rfl
theorem r148_95 : Rn 148 (95, [x0, x1, x2], st, a, h) = Rn 148 (99, [x0, x1, x2], st, a, h) := Rn_goto c148_95 rfl
theorem c148_98 : mcode 148 98 = some (.iload_n 2, 1, 0, 0, 0) := rfl
theorem r148_98 : Rn 148 (98, [x0, x1, some (.int i)], st, a, h) = Rn 148 (99, [x0, x1, some (.int i)], .int i :: st, a, h) := Rn_go c148_98 rfl
theorem c148_99 : mcode 148 99 = some (.ireturn, 1, 0, 0, 0) := rfl
theorem r148_99 : Rn 148 (99, [x0, x1, x2], [.int i], a, h) = some (some (.int i), a, h) := Rn_ireti c148_99
theorem c148_100 : mcode 148 100 = some (.iconst (-1), 1, 0, 0, 0) := rfl
theorem r148_100 : Rn 148 (100, [x0, x1, x2], st, a, h) = Rn 148 (101, [x0, x1, x2], .int (-1 : Int32) :: st, a, h) := Rn_go c148_100 rfl
theorem c148_101 : mcode 148 101 = some (.ireturn, 1, 0, 0, 0) := rfl
theorem r148_101 : Rn 148 (101, [x0, x1, x2], [.int i], a, h) = some (some (.int i), a, h) := Rn_ireti c148_101
theorem c148_102 : mcode 148 102 = some (.bipush (-2), 2, 0, 0, 0) := rfl
theorem r148_102 : Rn 148 (102, [x0, x1, x2], st, a, h) = Rn 148 (104, [x0, x1, x2], .int (-2 : Int32) :: st, a, h) := Rn_go c148_102 rfl
theorem c148_104 : mcode 148 104 = some (.ireturn, 1, 0, 0, 0) := rfl
theorem r148_104 : Rn 148 (104, [x0, x1, x2], [.int i], a, h) = some (some (.int i), a, h) := Rn_ireti c148_104
theorem c148_105 : mcode 148 105 = some (.iconst 0, 1, 0, 0, 0) := rfl
theorem r148_105 : Rn 148 (105, [x0, x1, x2], st, a, h) = Rn 148 (106, [x0, x1, x2], .int (0 : Int32) :: st, a, h) := Rn_go c148_105 rfl
theorem c148_106 : mcode 148 106 = some (.ireturn, 1, 0, 0, 0) := rfl
theorem r148_106 : Rn 148 (106, [x0, x1, x2], [.int i], a, h) = some (some (.int i), a, h) := Rn_ireti c148_106
theorem c149_0 : mcode 149 0 = some (.aload_n 0, 1, 0, 0, 0) := rfl
theorem r149_0 : Rn 149 (0, [some (.ref q), x1], st, a, h) = Rn 149 (1, [some (.ref q), x1], .ref q :: st, a, h) := Rn_go c149_0 rfl
theorem c149_1 : mcode 149 1 = some (.iload_n 1, 1, 0, 0, 0) := rfl
theorem r149_1 : Rn 149 (1, [x0, some (.int i)], st, a, h) = Rn 149 (2, [x0, some (.int i)], .int i :: st, a, h) := Rn_go c149_1 rfl
theorem c149_2 : mcode 149 2 = some (.iconst 0, 1, 0, 0, 0) := rfl
theorem r149_2 : Rn 149 (2, [x0, x1], st, a, h) = Rn 149 (3, [x0, x1], .int (0 : Int32) :: st, a, h) := Rn_go c149_2 rfl
theorem c149_3 : mcode 149 3 = some (.invokevirtual 63, 3, 131, 2, 6) := rfl
theorem r149_3 : Rn 149 (3, [x0, x1], [v1, v0, .ref q], a, h) = if mis h q 6 = true then Bk 149 6 [x0, x1] [] (Ec 131 [.ref q, v0, v1] a h) else none := Rn_call1 c149_3 rfl (Nat.le_of_ble_eq_true rfl) rfl rfl (Nat.le_of_ble_eq_true rfl)
theorem c149_6 : mcode 149 6 = some (.tableswitch 66 1 6 #[38, 41, 43, 52, 62, 62], 38, 0, 0, 0) := rfl
theorem r149_6_1 : Rn 149 (6, [x0, x1], .int (1 : Int32) :: st, a, h) = Rn 149 (44, [x0, x1], st, a, h) := Rn_swAt c149_6 rfl rfl
theorem r149_6_2 : Rn 149 (6, [x0, x1], .int (2 : Int32) :: st, a, h) = Rn 149 (47, [x0, x1], st, a, h) := Rn_swAt c149_6 rfl rfl
theorem r149_6_3 : Rn 149 (6, [x0, x1], .int (3 : Int32) :: st, a, h) = Rn 149 (49, [x0, x1], st, a, h) := Rn_swAt c149_6 rfl rfl
theorem r149_6_4 : Rn 149 (6, [x0, x1], .int (4 : Int32) :: st, a, h) = Rn 149 (58, [x0, x1], st, a, h) := Rn_swAt c149_6 rfl rfl
theorem r149_6_5 : Rn 149 (6, [x0, x1], .int (5 : Int32) :: st, a, h) = Rn 149 (68, [x0, x1], st, a, h) := Rn_swAt c149_6 rfl rfl
theorem r149_6_6 : Rn 149 (6, [x0, x1], .int (6 : Int32) :: st, a, h) = Rn 149 (68, [x0, x1], st, a, h) := Rn_swAt c149_6 rfl rfl
theorem r149_6_d (hi : i.toInt < 1 ∨ 6 < i.toInt) : Rn 149 (6, [x0, x1], .int i :: st, a, h) = Rn 149 (72, [x0, x1], st, a, h) := Rn_swAt c149_6 (if_pos hi) rfl
theorem c149_44 : mcode 149 44 = some (.bipush 10, 2, 0, 0, 0) := rfl
theorem r149_44 : Rn 149 (44, [x0, x1], st, a, h) = Rn 149 (46, [x0, x1], .int (10 : Int32) :: st, a, h) := Rn_go c149_44 rfl
theorem c149_46 : mcode 149 46 = some (.ireturn, 1, 0, 0, 0) := rfl
theorem r149_46 : Rn 149 (46, [x0, x1], [.int i], a, h) = some (some (.int i), a, h) := Rn_ireti c149_46
theorem c149_47 : mcode 149 47 = some (.iconst 5, 1, 0, 0, 0) := rfl
theorem r149_47 : Rn 149 (47, [x0, x1], st, a, h) = Rn 149 (48, [x0, x1], .int (5 : Int32) :: st, a, h) := Rn_go c149_47 rfl
theorem c149_48 : mcode 149 48 = some (.ireturn, 1, 0, 0, 0) := rfl
theorem r149_48 : Rn 149 (48, [x0, x1], [.int i], a, h) = some (some (.int i), a, h) := Rn_ireti c149_48
theorem c149_49 : mcode 149 49 = some (.iconst 5, 1, 0, 0, 0) := rfl
theorem r149_49 : Rn 149 (49, [x0, x1], st, a, h) = Rn 149 (50, [x0, x1], .int (5 : Int32) :: st, a, h) := Rn_go c149_49 rfl
theorem c149_50 : mcode 149 50 = some (.aload_n 0, 1, 0, 0, 0) := rfl
theorem r149_50 : Rn 149 (50, [some (.ref q), x1], st, a, h) = Rn 149 (51, [some (.ref q), x1], .ref q :: st, a, h) := Rn_go c149_50 rfl
theorem c149_51 : mcode 149 51 = some (.getfield 7, 3, 6, 0, 0) := rfl
theorem r149_51 : Rn 149 (51, [x0, x1], .ref q :: st, a, h) = Kv 149 54 [x0, x1] st a h (mgf h q 6 0) := Rn_getf c149_51 rfl
theorem c149_54 : mcode 149 54 = some (.iconst 3, 1, 0, 0, 0) := rfl
theorem r149_54 : Rn 149 (54, [x0, x1], st, a, h) = Rn 149 (55, [x0, x1], .int (3 : Int32) :: st, a, h) := Rn_go c149_54 rfl
theorem c149_55 : mcode 149 55 = some (.iaload, 1, 0, 0, 0) := rfl
theorem r149_55 : Rn 149 (55, [x0, x1], .int i :: .ref q :: st, a, h) = Ki 149 56 [x0, x1] st a h (mld h q i false) := Rn_iald c149_55 rfl
theorem c149_56 : mcode 149 56 = some (.iadd, 1, 0, 0, 0) := rfl
theorem r149_56 : Rn 149 (56, [x0, x1], .int j :: .int i :: st, a, h) = Rn 149 (57, [x0, x1], .int (i + j) :: st, a, h) := Rn_go c149_56 rfl
theorem c149_57 : mcode 149 57 = some (.ireturn, 1, 0, 0, 0) := rfl
theorem r149_57 : Rn 149 (57, [x0, x1], [.int i], a, h) = some (some (.int i), a, h) := Rn_ireti c149_57
theorem c149_58 : mcode 149 58 = some (.bipush 9, 2, 0, 0, 0) := rfl
theorem r149_58 : Rn 149 (58, [x0, x1], st, a, h) = Rn 149 (60, [x0, x1], .int (9 : Int32) :: st, a, h) := Rn_go c149_58 rfl
theorem c149_60 : mcode 149 60 = some (.aload_n 0, 1, 0, 0, 0) := rfl
theorem r149_60 : Rn 149 (60, [some (.ref q), x1], st, a, h) = Rn 149 (61, [some (.ref q), x1], .ref q :: st, a, h) := Rn_go c149_60 rfl
theorem c149_61 : mcode 149 61 = some (.getfield 7, 3, 6, 0, 0) := rfl
theorem r149_61 : Rn 149 (61, [x0, x1], .ref q :: st, a, h) = Kv 149 64 [x0, x1] st a h (mgf h q 6 0) := Rn_getf c149_61 rfl
theorem c149_64 : mcode 149 64 = some (.iconst 3, 1, 0, 0, 0) := rfl
theorem r149_64 : Rn 149 (64, [x0, x1], st, a, h) = Rn 149 (65, [x0, x1], .int (3 : Int32) :: st, a, h) := Rn_go c149_64 rfl
theorem c149_65 : mcode 149 65 = some (.iaload, 1, 0, 0, 0) := rfl
theorem r149_65 : Rn 149 (65, [x0, x1], .int i :: .ref q :: st, a, h) = Ki 149 66 [x0, x1] st a h (mld h q i false) := Rn_iald c149_65 rfl
theorem c149_66 : mcode 149 66 = some (.iadd, 1, 0, 0, 0) := rfl
theorem r149_66 : Rn 149 (66, [x0, x1], .int j :: .int i :: st, a, h) = Rn 149 (67, [x0, x1], .int (i + j) :: st, a, h) := Rn_go c149_66 rfl
theorem c149_67 : mcode 149 67 = some (.ireturn, 1, 0, 0, 0) := rfl
theorem r149_67 : Rn 149 (67, [x0, x1], [.int i], a, h) = some (some (.int i), a, h) := Rn_ireti c149_67
theorem c149_68 : mcode 149 68 = some (.sipush 999, 3, 0, 0, 0) := rfl
theorem r149_68 : Rn 149 (68, [x0, x1], st, a, h) = Rn 149 (71, [x0, x1], .int (999 : Int32) :: st, a, h) := Rn_go c149_68 rfl
theorem c149_71 : mcode 149 71 = some (.ireturn, 1, 0, 0, 0) := rfl
theorem r149_71 : Rn 149 (71, [x0, x1], [.int i], a, h) = some (some (.int i), a, h) := Rn_ireti c149_71
theorem c149_72 : mcode 149 72 = some (.bipush 20, 2, 0, 0, 0) := rfl
theorem r149_72 : Rn 149 (72, [x0, x1], st, a, h) = Rn 149 (74, [x0, x1], .int (20 : Int32) :: st, a, h) := Rn_go c149_72 rfl
theorem c149_74 : mcode 149 74 = some (.ireturn, 1, 0, 0, 0) := rfl
theorem r149_74 : Rn 149 (74, [x0, x1], [.int i], a, h) = some (some (.int i), a, h) := Rn_ireti c149_74
theorem c150_0 : mcode 150 0 = some (.aload_n 0, 1, 0, 0, 0) := rfl
theorem r150_0 : Rn 150 (0, [some (.ref q), x1, x2], st, a, h) = Rn 150 (1, [some (.ref q), x1, x2], .ref q :: st, a, h) := Rn_go c150_0 rfl
theorem c150_1 : mcode 150 1 = some (.iload_n 1, 1, 0, 0, 0) := rfl
theorem r150_1 : Rn 150 (1, [x0, some (.int i), x2], st, a, h) = Rn 150 (2, [x0, some (.int i), x2], .int i :: st, a, h) := Rn_go c150_1 rfl
theorem c150_2 : mcode 150 2 = some (.invokevirtual 98, 3, 129, 1, 6) := rfl
theorem r150_2 : Rn 150 (2, [x0, x1, x2], [v0, .ref q], a, h) = if mis h q 6 = true then Bk 150 5 [x0, x1, x2] [] (Ec 129 [.ref q, v0] a h) else none := Rn_call1 c150_2 rfl (Nat.le_of_ble_eq_true rfl) rfl rfl (Nat.le_of_ble_eq_true rfl)
theorem c150_5 : mcode 150 5 = some (.ifCond .eq 15, 3, 0, 0, 0) := rfl
theorem r150_5 : Rn 150 (5, [x0, x1, x2], .int i :: st, a, h) = if i = 0 then Rn 150 (20, [x0, x1, x2], st, a, h) else Rn 150 (8, [x0, x1, x2], st, a, h) := Rn_ifc c150_5 mc_eq rfl rfl
theorem c150_8 : mcode 150 8 = some (.iload_n 2, 1, 0, 0, 0) := rfl
theorem r150_8 : Rn 150 (8, [x0, x1, some (.int i)], st, a, h) = Rn 150 (9, [x0, x1, some (.int i)], .int i :: st, a, h) := Rn_go c150_8 rfl
theorem c150_9 : mcode 150 9 = some (.i2l, 1, 0, 0, 0) := rfl
theorem r150_9 : Rn 150 (9, [x0, x1, x2], .int i :: st, a, h) = Rn 150 (10, [x0, x1, x2], .long i.toInt64 :: st, a, h) := Rn_go c150_9 rfl
theorem c150_10 : mcode 150 10 = some (.lconst 0, 1, 0, 0, 0) := rfl
theorem r150_10 : Rn 150 (10, [x0, x1, x2], st, a, h) = Rn 150 (11, [x0, x1, x2], .long (0 : Int64) :: st, a, h) := Rn_go c150_10 rfl
theorem c150_11 : mcode 150 11 = some (.ldc2_w 101, 3, 0, 0, 8) := rfl
theorem r150_11 : Rn 150 (11, [x0, x1, x2], st, a, h) = Rn 150 (14, [x0, x1, x2], .long (8 : Int64) :: st, a, h) := Rn_go c150_11 rfl
theorem c150_14 : mcode 150 14 = some (.invokestatic 52, 3, 123, 3, 0) := rfl
theorem r150_14 : Rn 150 (14, [x0, x1, x2], [v2, v1, v0], a, h) = Bk 150 17 [x0, x1, x2] [] (Ec 123 [v0, v1, v2] a h) := Rn_call0 c150_14 (fun z => nomatch z) rfl (Nat.le_of_ble_eq_true rfl) rfl rfl (Nat.le_of_ble_eq_true rfl)
theorem c150_17 : mcode 150 17 = some (.ifCond .ne 10, 3, 0, 0, 0) := rfl
theorem r150_17 : Rn 150 (17, [x0, x1, x2], .int i :: st, a, h) = if i = 0 then Rn 150 (20, [x0, x1, x2], st, a, h) else Rn 150 (27, [x0, x1, x2], st, a, h) := Rn_ifcn c150_17 mc_ne rfl rfl
theorem c150_20 : mcode 150 20 = some (.aload_n 0, 1, 0, 0, 0) := rfl
theorem r150_20 : Rn 150 (20, [some (.ref q), x1, x2], st, a, h) = Rn 150 (21, [some (.ref q), x1, x2], .ref q :: st, a, h) := Rn_go c150_20 rfl
theorem c150_21 : mcode 150 21 = some (.ldc 37, 2, 0, 0, -1000001) := rfl
theorem r150_21 : Rn 150 (21, [x0, x1, x2], st, a, h) = Rn 150 (23, [x0, x1, x2], .int (-1000001 : Int32) :: st, a, h) := Rn_go c150_21 rfl
theorem c150_23 : mcode 150 23 = some (.invokevirtual 39, 3, 124, 1, 6) := rfl
theorem r150_23 : Rn 150 (23, [x0, x1, x2], [v0, .ref q], a, h) = if mis h q 6 = true then Bk 150 26 [x0, x1, x2] [] (Ec 124 [.ref q, v0] a h) else none := Rn_call1 c150_23 rfl (Nat.le_of_ble_eq_true rfl) rfl rfl (Nat.le_of_ble_eq_true rfl)
theorem c150_26 : mcode 150 26 = some (.ireturn, 1, 0, 0, 0) := rfl
theorem r150_26 : Rn 150 (26, [x0, x1, x2], [.int i], a, h) = some (some (.int i), a, h) := Rn_ireti c150_26
theorem c150_27 : mcode 150 27 = some (.iload_n 2, 1, 0, 0, 0) := rfl
theorem r150_27 : Rn 150 (27, [x0, x1, some (.int i)], st, a, h) = Rn 150 (28, [x0, x1, some (.int i)], .int i :: st, a, h) := Rn_go c150_27 rfl
theorem c150_28 : mcode 150 28 = some (.tableswitch 46 6 8 #[28, 34, 40], 28, 0, 0, 0) := rfl
theorem r150_28_6 : Rn 150 (28, [x0, x1, x2], .int (6 : Int32) :: st, a, h) = Rn 150 (56, [x0, x1, x2], st, a, h) := Rn_swAt c150_28 rfl rfl
theorem r150_28_7 : Rn 150 (28, [x0, x1, x2], .int (7 : Int32) :: st, a, h) = Rn 150 (62, [x0, x1, x2], st, a, h) := Rn_swAt c150_28 rfl rfl
theorem r150_28_8 : Rn 150 (28, [x0, x1, x2], .int (8 : Int32) :: st, a, h) = Rn 150 (68, [x0, x1, x2], st, a, h) := Rn_swAt c150_28 rfl rfl
theorem r150_28_d (hi : i.toInt < 6 ∨ 8 < i.toInt) : Rn 150 (28, [x0, x1, x2], .int i :: st, a, h) = Rn 150 (74, [x0, x1, x2], st, a, h) := Rn_swAt c150_28 (if_pos hi) rfl
theorem c150_56 : mcode 150 56 = some (.aload_n 0, 1, 0, 0, 0) := rfl
theorem r150_56 : Rn 150 (56, [some (.ref q), x1, x2], st, a, h) = Rn 150 (57, [some (.ref q), x1, x2], .ref q :: st, a, h) := Rn_go c150_56 rfl
theorem c150_57 : mcode 150 57 = some (.iload_n 1, 1, 0, 0, 0) := rfl
theorem r150_57 : Rn 150 (57, [x0, some (.int i), x2], st, a, h) = Rn 150 (58, [x0, some (.int i), x2], .int i :: st, a, h) := Rn_go c150_57 rfl
theorem c150_58 : mcode 150 58 = some (.invokevirtual 103, 3, 147, 1, 6) := rfl
theorem r150_58 : Rn 150 (58, [x0, x1, x2], [v0, .ref q], a, h) = if mis h q 6 = true then Bk 150 61 [x0, x1, x2] [] (Ec 147 [.ref q, v0] a h) else none := Rn_call1 c150_58 rfl (Nat.le_of_ble_eq_true rfl) rfl rfl (Nat.le_of_ble_eq_true rfl)
theorem c150_61 : mcode 150 61 = some (.ireturn, 1, 0, 0, 0) := rfl
theorem r150_61 : Rn 150 (61, [x0, x1, x2], [.int i], a, h) = some (some (.int i), a, h) := Rn_ireti c150_61
theorem c150_62 : mcode 150 62 = some (.aload_n 0, 1, 0, 0, 0) := rfl
theorem r150_62 : Rn 150 (62, [some (.ref q), x1, x2], st, a, h) = Rn 150 (63, [some (.ref q), x1, x2], .ref q :: st, a, h) := Rn_go c150_62 rfl
theorem c150_63 : mcode 150 63 = some (.iload_n 1, 1, 0, 0, 0) := rfl
theorem r150_63 : Rn 150 (63, [x0, some (.int i), x2], st, a, h) = Rn 150 (64, [x0, some (.int i), x2], .int i :: st, a, h) := Rn_go c150_63 rfl
theorem c150_64 : mcode 150 64 = some (.invokevirtual 106, 3, 148, 1, 6) := rfl
theorem r150_64 : Rn 150 (64, [x0, x1, x2], [v0, .ref q], a, h) = if mis h q 6 = true then Bk 150 67 [x0, x1, x2] [] (Ec 148 [.ref q, v0] a h) else none := Rn_call1 c150_64 rfl (Nat.le_of_ble_eq_true rfl) rfl rfl (Nat.le_of_ble_eq_true rfl)
theorem c150_67 : mcode 150 67 = some (.ireturn, 1, 0, 0, 0) := rfl
theorem r150_67 : Rn 150 (67, [x0, x1, x2], [.int i], a, h) = some (some (.int i), a, h) := Rn_ireti c150_67
theorem c150_68 : mcode 150 68 = some (.aload_n 0, 1, 0, 0, 0) := rfl
theorem r150_68 : Rn 150 (68, [some (.ref q), x1, x2], st, a, h) = Rn 150 (69, [some (.ref q), x1, x2], .ref q :: st, a, h) := Rn_go c150_68 rfl
theorem c150_69 : mcode 150 69 = some (.iload_n 1, 1, 0, 0, 0) := rfl
theorem r150_69 : Rn 150 (69, [x0, some (.int i), x2], st, a, h) = Rn 150 (70, [x0, some (.int i), x2], .int i :: st, a, h) := Rn_go c150_69 rfl
theorem c150_70 : mcode 150 70 = some (.invokevirtual 109, 3, 149, 1, 6) := rfl
theorem r150_70 : Rn 150 (70, [x0, x1, x2], [v0, .ref q], a, h) = if mis h q 6 = true then Bk 150 73 [x0, x1, x2] [] (Ec 149 [.ref q, v0] a h) else none := Rn_call1 c150_70 rfl (Nat.le_of_ble_eq_true rfl) rfl rfl (Nat.le_of_ble_eq_true rfl)
theorem c150_73 : mcode 150 73 = some (.ireturn, 1, 0, 0, 0) := rfl
theorem r150_73 : Rn 150 (73, [x0, x1, x2], [.int i], a, h) = some (some (.int i), a, h) := Rn_ireti c150_73
theorem c150_74 : mcode 150 74 = some (.aload_n 0, 1, 0, 0, 0) := rfl
theorem r150_74 : Rn 150 (74, [some (.ref q), x1, x2], st, a, h) = Rn 150 (75, [some (.ref q), x1, x2], .ref q :: st, a, h) := Rn_go c150_74 rfl
theorem c150_75 : mcode 150 75 = some (.iload_n 1, 1, 0, 0, 0) := rfl
theorem r150_75 : Rn 150 (75, [x0, some (.int i), x2], st, a, h) = Rn 150 (76, [x0, some (.int i), x2], .int i :: st, a, h) := Rn_go c150_75 rfl
theorem c150_76 : mcode 150 76 = some (.iload_n 2, 1, 0, 0, 0) := rfl
theorem r150_76 : Rn 150 (76, [x0, x1, some (.int i)], st, a, h) = Rn 150 (77, [x0, x1, some (.int i)], .int i :: st, a, h) := Rn_go c150_76 rfl
theorem c150_77 : mcode 150 77 = some (.invokevirtual 63, 3, 131, 2, 6) := rfl
theorem r150_77 : Rn 150 (77, [x0, x1, x2], [v1, v0, .ref q], a, h) = if mis h q 6 = true then Bk 150 80 [x0, x1, x2] [] (Ec 131 [.ref q, v0, v1] a h) else none := Rn_call1 c150_77 rfl (Nat.le_of_ble_eq_true rfl) rfl rfl (Nat.le_of_ble_eq_true rfl)
theorem c150_80 : mcode 150 80 = some (.ireturn, 1, 0, 0, 0) := rfl
theorem r150_80 : Rn 150 (80, [x0, x1, x2], [.int i], a, h) = some (some (.int i), a, h) := Rn_ireti c150_80
theorem c151_0 : mcode 151 0 = some (.iload_n 0, 1, 0, 0, 0) := rfl
theorem r151_0 : Rn 151 (0, [some (.int i)], st, a, h) = Rn 151 (1, [some (.int i)], .int i :: st, a, h) := Rn_go c151_0 rfl
theorem c151_1 : mcode 151 1 = some (.ifCond .ne 8, 3, 0, 0, 0) := rfl
theorem r151_1 : Rn 151 (1, [x0], .int i :: st, a, h) = if i = 0 then Rn 151 (4, [x0], st, a, h) else Rn 151 (9, [x0], st, a, h) := Rn_ifcn c151_1 mc_ne rfl rfl
theorem c151_4 : mcode 151 4 = some (.bipush 6, 2, 0, 0, 0) := rfl
theorem r151_4 : Rn 151 (4, [x0], st, a, h) = Rn 151 (6, [x0], .int (6 : Int32) :: st, a, h) := Rn_go c151_4 rfl
theorem c151_6 : mcode 151 6 = some (.goto 25, 3, 0, 0, 0) := rfl
theorem r151_6 : Rn 151 (6, [x0], st, a, h) = Rn 151 (31, [x0], st, a, h) := Rn_goto c151_6 rfl
theorem c151_9 : mcode 151 9 = some (.iload_n 0, 1, 0, 0, 0) := rfl
theorem r151_9 : Rn 151 (9, [some (.int i)], st, a, h) = Rn 151 (10, [some (.int i)], .int i :: st, a, h) := Rn_go c151_9 rfl
theorem c151_10 : mcode 151 10 = some (.iconst 1, 1, 0, 0, 0) := rfl
theorem r151_10 : Rn 151 (10, [x0], st, a, h) = Rn 151 (11, [x0], .int (1 : Int32) :: st, a, h) := Rn_go c151_10 rfl
theorem c151_11 : mcode 151 11 = some (.if_icmp .ne 8, 3, 0, 0, 0) := rfl
theorem r151_11 : Rn 151 (11, [x0], .int j :: .int i :: st, a, h) = if i = j then Rn 151 (14, [x0], st, a, h) else Rn 151 (19, [x0], st, a, h) := Rn_icmpn c151_11 mc_ne rfl rfl
theorem c151_14 : mcode 151 14 = some (.bipush 7, 2, 0, 0, 0) := rfl
theorem r151_14 : Rn 151 (14, [x0], st, a, h) = Rn 151 (16, [x0], .int (7 : Int32) :: st, a, h) := Rn_go c151_14 rfl
theorem c151_16 : mcode 151 16 = some (.goto 15, 3, 0, 0, 0) := rfl
theorem r151_16 : Rn 151 (16, [x0], st, a, h) = Rn 151 (31, [x0], st, a, h) := Rn_goto c151_16 rfl
theorem c151_19 : mcode 151 19 = some (.iload_n 0, 1, 0, 0, 0) := rfl
theorem r151_19 : Rn 151 (19, [some (.int i)], st, a, h) = Rn 151 (20, [some (.int i)], .int i :: st, a, h) := Rn_go c151_19 rfl
theorem c151_20 : mcode 151 20 = some (.iconst 2, 1, 0, 0, 0) := rfl
theorem r151_20 : Rn 151 (20, [x0], st, a, h) = Rn 151 (21, [x0], .int (2 : Int32) :: st, a, h) := Rn_go c151_20 rfl
theorem c151_21 : mcode 151 21 = some (.if_icmp .ne 7, 3, 0, 0, 0) := rfl
theorem r151_21 : Rn 151 (21, [x0], .int j :: .int i :: st, a, h) = if i = j then Rn 151 (24, [x0], st, a, h) else Rn 151 (28, [x0], st, a, h) := Rn_icmpn c151_21 mc_ne rfl rfl
theorem c151_24 : mcode 151 24 = some (.iconst 2, 1, 0, 0, 0) := rfl
theorem r151_24 : Rn 151 (24, [x0], st, a, h) = Rn 151 (25, [x0], .int (2 : Int32) :: st, a, h) := Rn_go c151_24 rfl
theorem c151_25 : mcode 151 25 = some (.goto 6, 3, 0, 0, 0) := rfl
theorem r151_25 : Rn 151 (25, [x0], st, a, h) = Rn 151 (31, [x0], st, a, h) := Rn_goto c151_25 rfl
theorem c151_28 : mcode 151 28 = some (.sipush 999, 3, 0, 0, 0) := rfl
theorem r151_28 : Rn 151 (28, [x0], st, a, h) = Rn 151 (31, [x0], .int (999 : Int32) :: st, a, h) := Rn_go c151_28 rfl
theorem c151_31 : mcode 151 31 = some (.ireturn, 1, 0, 0, 0) := rfl
theorem r151_31 : Rn 151 (31, [x0], [.int i], a, h) = some (some (.int i), a, h) := Rn_ireti c151_31
theorem c152_0 : mcode 152 0 = some (.aload_n 0, 1, 0, 0, 0) := rfl
theorem r152_0 : Rn 152 (0, [some (.ref q), x1, x2, x3, x4], st, a, h) = Rn 152 (1, [some (.ref q), x1, x2, x3, x4], .ref q :: st, a, h) := Rn_go c152_0 rfl
theorem c152_1 : mcode 152 1 = some (.iload_n 1, 1, 0, 0, 0) := rfl
theorem r152_1 : Rn 152 (1, [x0, some (.int i), x2, x3, x4], st, a, h) = Rn 152 (2, [x0, some (.int i), x2, x3, x4], .int i :: st, a, h) := Rn_go c152_1 rfl
theorem c152_2 : mcode 152 2 = some (.invokevirtual 98, 3, 129, 1, 6) := rfl
theorem r152_2 : Rn 152 (2, [x0, x1, x2, x3, x4], [v0, .ref q], a, h) = if mis h q 6 = true then Bk 152 5 [x0, x1, x2, x3, x4] [] (Ec 129 [.ref q, v0] a h) else none := Rn_call1 c152_2 rfl (Nat.le_of_ble_eq_true rfl) rfl rfl (Nat.le_of_ble_eq_true rfl)
theorem c152_5 : mcode 152 5 = some (.ifCond .eq 33, 3, 0, 0, 0) := rfl
theorem r152_5 : Rn 152 (5, [x0, x1, x2, x3, x4], .int i :: st, a, h) = if i = 0 then Rn 152 (38, [x0, x1, x2, x3, x4], st, a, h) else Rn 152 (8, [x0, x1, x2, x3, x4], st, a, h) := Rn_ifc c152_5 mc_eq rfl rfl
theorem c152_8 : mcode 152 8 = some (.iload_n 2, 1, 0, 0, 0) := rfl
theorem r152_8 : Rn 152 (8, [x0, x1, some (.int i), x3, x4], st, a, h) = Rn 152 (9, [x0, x1, some (.int i), x3, x4], .int i :: st, a, h) := Rn_go c152_8 rfl
theorem c152_9 : mcode 152 9 = some (.i2l, 1, 0, 0, 0) := rfl
theorem r152_9 : Rn 152 (9, [x0, x1, x2, x3, x4], .int i :: st, a, h) = Rn 152 (10, [x0, x1, x2, x3, x4], .long i.toInt64 :: st, a, h) := Rn_go c152_9 rfl
theorem c152_10 : mcode 152 10 = some (.lconst 0, 1, 0, 0, 0) := rfl
theorem r152_10 : Rn 152 (10, [x0, x1, x2, x3, x4], st, a, h) = Rn 152 (11, [x0, x1, x2, x3, x4], .long (0 : Int64) :: st, a, h) := Rn_go c152_10 rfl
theorem c152_11 : mcode 152 11 = some (.ldc2_w 66, 3, 0, 0, 5) := rfl
theorem r152_11 : Rn 152 (11, [x0, x1, x2, x3, x4], st, a, h) = Rn 152 (14, [x0, x1, x2, x3, x4], .long (5 : Int64) :: st, a, h) := Rn_go c152_11 rfl
theorem c152_14 : mcode 152 14 = some (.invokestatic 52, 3, 123, 3, 0) := rfl
theorem r152_14 : Rn 152 (14, [x0, x1, x2, x3, x4], [v2, v1, v0], a, h) = Bk 152 17 [x0, x1, x2, x3, x4] [] (Ec 123 [v0, v1, v2] a h) := Rn_call0 c152_14 (fun z => nomatch z) rfl (Nat.le_of_ble_eq_true rfl) rfl rfl (Nat.le_of_ble_eq_true rfl)
theorem c152_17 : mcode 152 17 = some (.ifCond .eq 21, 3, 0, 0, 0) := rfl
theorem r152_17 : Rn 152 (17, [x0, x1, x2, x3, x4], .int i :: st, a, h) = if i = 0 then Rn 152 (38, [x0, x1, x2, x3, x4], st, a, h) else Rn 152 (20, [x0, x1, x2, x3, x4], st, a, h) := Rn_ifc c152_17 mc_eq rfl rfl
theorem c152_20 : mcode 152 20 = some (.iload_n 3, 1, 0, 0, 0) := rfl
theorem r152_20 : Rn 152 (20, [x0, x1, x2, some (.int i), x4], st, a, h) = Rn 152 (21, [x0, x1, x2, some (.int i), x4], .int i :: st, a, h) := Rn_go c152_20 rfl
theorem c152_21 : mcode 152 21 = some (.i2l, 1, 0, 0, 0) := rfl
theorem r152_21 : Rn 152 (21, [x0, x1, x2, x3, x4], .int i :: st, a, h) = Rn 152 (22, [x0, x1, x2, x3, x4], .long i.toInt64 :: st, a, h) := Rn_go c152_21 rfl
theorem c152_22 : mcode 152 22 = some (.lconst 0, 1, 0, 0, 0) := rfl
theorem r152_22 : Rn 152 (22, [x0, x1, x2, x3, x4], st, a, h) = Rn 152 (23, [x0, x1, x2, x3, x4], .long (0 : Int64) :: st, a, h) := Rn_go c152_22 rfl
theorem c152_23 : mcode 152 23 = some (.iload_n 2, 1, 0, 0, 0) := rfl
theorem r152_23 : Rn 152 (23, [x0, x1, some (.int i), x3, x4], st, a, h) = Rn 152 (24, [x0, x1, some (.int i), x3, x4], .int i :: st, a, h) := Rn_go c152_23 rfl
theorem c152_24 : mcode 152 24 = some (.invokestatic 112, 3, 151, 1, 0) := rfl
theorem r152_24 : Rn 152 (24, [x0, x1, x2, x3, x4], [v0, .long l0, .long l1], a, h) = Bk 152 27 [x0, x1, x2, x3, x4] [.long l0, .long l1] (Ec 151 [v0] a h) := Rn_call0 c152_24 (fun z => nomatch z) rfl (Nat.le_of_ble_eq_true rfl) rfl rfl (Nat.le_of_ble_eq_true rfl)
theorem c152_27 : mcode 152 27 = some (.i2l, 1, 0, 0, 0) := rfl
theorem r152_27 : Rn 152 (27, [x0, x1, x2, x3, x4], .int i :: st, a, h) = Rn 152 (28, [x0, x1, x2, x3, x4], .long i.toInt64 :: st, a, h) := Rn_go c152_27 rfl
theorem c152_28 : mcode 152 28 = some (.invokestatic 52, 3, 123, 3, 0) := rfl
theorem r152_28 : Rn 152 (28, [x0, x1, x2, x3, x4], [v2, v1, v0], a, h) = Bk 152 31 [x0, x1, x2, x3, x4] [] (Ec 123 [v0, v1, v2] a h) := Rn_call0 c152_28 (fun z => nomatch z) rfl (Nat.le_of_ble_eq_true rfl) rfl rfl (Nat.le_of_ble_eq_true rfl)
theorem c152_31 : mcode 152 31 = some (.ifCond .eq 7, 3, 0, 0, 0) := rfl
theorem r152_31 : Rn 152 (31, [x0, x1, x2, x3, x4], .int i :: st, a, h) = if i = 0 then Rn 152 (38, [x0, x1, x2, x3, x4], st, a, h) else Rn 152 (34, [x0, x1, x2, x3, x4], st, a, h) := Rn_ifc c152_31 mc_eq rfl rfl
theorem c152_34 : mcode 152 34 = some (.iconst 1, 1, 0, 0, 0) := rfl
theorem r152_34 : Rn 152 (34, [x0, x1, x2, x3, x4], st, a, h) = Rn 152 (35, [x0, x1, x2, x3, x4], .int (1 : Int32) :: st, a, h) := Rn_go c152_34 rfl
theorem c152_35 : mcode 152 35 = some (.goto 4, 3, 0, 0, 0) := rfl
theorem r152_35 : Rn 152 (35, [x0, x1, x2, x3, x4], st, a, h) = Rn 152 (39, [x0, x1, x2, x3, x4], st, a, h) := Rn_goto c152_35 rfl
theorem c152_38 : mcode 152 38 = some (.iconst 0, 1, 0, 0, 0) := rfl
theorem r152_38 : Rn 152 (38, [x0, x1, x2, x3, x4], st, a, h) = Rn 152 (39, [x0, x1, x2, x3, x4], .int (0 : Int32) :: st, a, h) := Rn_go c152_38 rfl
theorem c152_39 : mcode 152 39 = some (.istore 4, 2, 0, 0, 0) := rfl
theorem r152_39 : Rn 152 (39, [x0, x1, x2, x3, x4], .int i :: st, a, h) = Nl x3 (Rn 152 (41, [x0, x1, x2, x3, some (.int i)], st, a, h)) := Rn_st1 (k := 4) (v := .int i) x3 c152_39 rfl rfl rfl rfl
theorem c152_41 : mcode 152 41 = some (.iload 4, 2, 0, 0, 0) := rfl
theorem r152_41 : Rn 152 (41, [x0, x1, x2, x3, some (.int i)], st, a, h) = Rn 152 (43, [x0, x1, x2, x3, some (.int i)], .int i :: st, a, h) := Rn_go c152_41 rfl
theorem c152_43 : mcode 152 43 = some (.ifCond .eq 16, 3, 0, 0, 0) := rfl
theorem r152_43 : Rn 152 (43, [x0, x1, x2, x3, x4], .int i :: st, a, h) = if i = 0 then Rn 152 (59, [x0, x1, x2, x3, x4], st, a, h) else Rn 152 (46, [x0, x1, x2, x3, x4], st, a, h) := Rn_ifc c152_43 mc_eq rfl rfl
theorem c152_46 : mcode 152 46 = some (.aload_n 0, 1, 0, 0, 0) := rfl
theorem r152_46 : Rn 152 (46, [some (.ref q), x1, x2, x3, x4], st, a, h) = Rn 152 (47, [some (.ref q), x1, x2, x3, x4], .ref q :: st, a, h) := Rn_go c152_46 rfl
theorem c152_47 : mcode 152 47 = some (.iload_n 1, 1, 0, 0, 0) := rfl
theorem r152_47 : Rn 152 (47, [x0, some (.int i), x2, x3, x4], st, a, h) = Rn 152 (48, [x0, some (.int i), x2, x3, x4], .int i :: st, a, h) := Rn_go c152_47 rfl
theorem c152_48 : mcode 152 48 = some (.iload_n 2, 1, 0, 0, 0) := rfl
theorem r152_48 : Rn 152 (48, [x0, x1, some (.int i), x3, x4], st, a, h) = Rn 152 (49, [x0, x1, some (.int i), x3, x4], .int i :: st, a, h) := Rn_go c152_48 rfl
theorem c152_49 : mcode 152 49 = some (.invokestatic 79, 3, 130, 2, 0) := rfl
theorem r152_49 : Rn 152 (49, [x0, x1, x2, x3, x4], [v1, v0, .ref q0], a, h) = Bk 152 52 [x0, x1, x2, x3, x4] [.ref q0] (Ec 130 [v0, v1] a h) := Rn_call0 c152_49 (fun z => nomatch z) rfl (Nat.le_of_ble_eq_true rfl) rfl rfl (Nat.le_of_ble_eq_true rfl)
theorem c152_52 : mcode 152 52 = some (.iload_n 3, 1, 0, 0, 0) := rfl
theorem r152_52 : Rn 152 (52, [x0, x1, x2, some (.int i), x4], st, a, h) = Rn 152 (53, [x0, x1, x2, some (.int i), x4], .int i :: st, a, h) := Rn_go c152_52 rfl
theorem c152_53 : mcode 152 53 = some (.invokevirtual 56, 3, 125, 2, 6) := rfl
theorem r152_53 : Rn 152 (53, [x0, x1, x2, x3, x4], [v1, v0, .ref q], a, h) = if mis h q 6 = true then Bk 152 56 [x0, x1, x2, x3, x4] [] (Ec 125 [.ref q, v0, v1] a h) else none := Rn_call1 c152_53 rfl (Nat.le_of_ble_eq_true rfl) rfl rfl (Nat.le_of_ble_eq_true rfl)
theorem c152_56 : mcode 152 56 = some (.goto 9, 3, 0, 0, 0) := rfl
theorem r152_56 : Rn 152 (56, [x0, x1, x2, x3, x4], st, a, h) = Rn 152 (65, [x0, x1, x2, x3, x4], st, a, h) := Rn_goto c152_56 rfl
theorem c152_59 : mcode 152 59 = some (.aload_n 0, 1, 0, 0, 0) := rfl
theorem r152_59 : Rn 152 (59, [some (.ref q), x1, x2, x3, x4], st, a, h) = Rn 152 (60, [some (.ref q), x1, x2, x3, x4], .ref q :: st, a, h) := Rn_go c152_59 rfl
theorem c152_60 : mcode 152 60 = some (.ldc 37, 2, 0, 0, -1000001) := rfl
theorem r152_60 : Rn 152 (60, [x0, x1, x2, x3, x4], st, a, h) = Rn 152 (62, [x0, x1, x2, x3, x4], .int (-1000001 : Int32) :: st, a, h) := Rn_go c152_60 rfl
theorem c152_62 : mcode 152 62 = some (.invokevirtual 39, 3, 124, 1, 6) := rfl
theorem r152_62 : Rn 152 (62, [x0, x1, x2, x3, x4], [v0, .ref q], a, h) = if mis h q 6 = true then Bk 152 65 [x0, x1, x2, x3, x4] [] (Ec 124 [.ref q, v0] a h) else none := Rn_call1 c152_62 rfl (Nat.le_of_ble_eq_true rfl) rfl rfl (Nat.le_of_ble_eq_true rfl)
theorem c152_65 : mcode 152 65 = some (.ireturn, 1, 0, 0, 0) := rfl
theorem r152_65 : Rn 152 (65, [x0, x1, x2, x3, x4], [.int i], a, h) = some (some (.int i), a, h) := Rn_ireti c152_65
theorem c153_0 : mcode 153 0 = some (.aload_n 0, 1, 0, 0, 0) := rfl
theorem r153_0 : Rn 153 (0, [some (.ref q), x1, x2, x3], st, a, h) = Rn 153 (1, [some (.ref q), x1, x2, x3], .ref q :: st, a, h) := Rn_go c153_0 rfl
theorem c153_1 : mcode 153 1 = some (.iload_n 1, 1, 0, 0, 0) := rfl
theorem r153_1 : Rn 153 (1, [x0, some (.int i), x2, x3], st, a, h) = Rn 153 (2, [x0, some (.int i), x2, x3], .int i :: st, a, h) := Rn_go c153_1 rfl
theorem c153_2 : mcode 153 2 = some (.invokevirtual 103, 3, 147, 1, 6) := rfl
theorem r153_2 : Rn 153 (2, [x0, x1, x2, x3], [v0, .ref q], a, h) = if mis h q 6 = true then Bk 153 5 [x0, x1, x2, x3] [] (Ec 147 [.ref q, v0] a h) else none := Rn_call1 c153_2 rfl (Nat.le_of_ble_eq_true rfl) rfl rfl (Nat.le_of_ble_eq_true rfl)
theorem c153_5 : mcode 153 5 = some (.aload_n 0, 1, 0, 0, 0) := rfl
theorem r153_5 : Rn 153 (5, [some (.ref q), x1, x2, x3], st, a, h) = Rn 153 (6, [some (.ref q), x1, x2, x3], .ref q :: st, a, h) := Rn_go c153_5 rfl
theorem c153_6 : mcode 153 6 = some (.iload_n 1, 1, 0, 0, 0) := rfl
theorem r153_6 : Rn 153 (6, [x0, some (.int i), x2, x3], st, a, h) = Rn 153 (7, [x0, some (.int i), x2, x3], .int i :: st, a, h) := Rn_go c153_6 rfl
theorem c153_7 : mcode 153 7 = some (.iconst 3, 1, 0, 0, 0) := rfl
theorem r153_7 : Rn 153 (7, [x0, x1, x2, x3], st, a, h) = Rn 153 (8, [x0, x1, x2, x3], .int (3 : Int32) :: st, a, h) := Rn_go c153_7 rfl
theorem c153_8 : mcode 153 8 = some (.invokevirtual 63, 3, 131, 2, 6) := rfl
theorem r153_8 : Rn 153 (8, [x0, x1, x2, x3], [v1, v0, .ref q, .int i0], a, h) = if mis h q 6 = true then Bk 153 11 [x0, x1, x2, x3] [.int i0] (Ec 131 [.ref q, v0, v1] a h) else none := Rn_call1 c153_8 rfl (Nat.le_of_ble_eq_true rfl) rfl rfl (Nat.le_of_ble_eq_true rfl)
theorem c153_11 : mcode 153 11 = some (.invokestatic 95, 3, 133, 2, 0) := rfl
theorem r153_11 : Rn 153 (11, [x0, x1, x2, x3], [v1, v0], a, h) = Bk 153 14 [x0, x1, x2, x3] [] (Ec 133 [v0, v1] a h) := Rn_call0 c153_11 (fun z => nomatch z) rfl (Nat.le_of_ble_eq_true rfl) rfl rfl (Nat.le_of_ble_eq_true rfl)
theorem c153_14 : mcode 153 14 = some (.istore_n 2, 1, 0, 0, 0) := rfl
theorem r153_14 : Rn 153 (14, [x0, x1, x2, x3], .int i :: st, a, h) = Nl x1 (Rn 153 (15, [x0, x1, some (.int i), x3], st, a, h)) := Rn_st1 (k := 2) (v := .int i) x1 c153_14 rfl rfl rfl rfl
theorem c153_15 : mcode 153 15 = some (.iconst 4, 1, 0, 0, 0) := rfl
theorem r153_15 : Rn 153 (15, [x0, x1, x2, x3], st, a, h) = Rn 153 (16, [x0, x1, x2, x3], .int (4 : Int32) :: st, a, h) := Rn_go c153_15 rfl
theorem c153_16 : mcode 153 16 = some (.iconst 3, 1, 0, 0, 0) := rfl
theorem r153_16 : Rn 153 (16, [x0, x1, x2, x3], st, a, h) = Rn 153 (17, [x0, x1, x2, x3], .int (3 : Int32) :: st, a, h) := Rn_go c153_16 rfl
theorem c153_17 : mcode 153 17 = some (.aload_n 0, 1, 0, 0, 0) := rfl
theorem r153_17 : Rn 153 (17, [some (.ref q), x1, x2, x3], st, a, h) = Rn 153 (18, [some (.ref q), x1, x2, x3], .ref q :: st, a, h) := Rn_go c153_17 rfl
theorem c153_18 : mcode 153 18 = some (.iload_n 1, 1, 0, 0, 0) := rfl
theorem r153_18 : Rn 153 (18, [x0, some (.int i), x2, x3], st, a, h) = Rn 153 (19, [x0, some (.int i), x2, x3], .int i :: st, a, h) := Rn_go c153_18 rfl
theorem c153_19 : mcode 153 19 = some (.iconst 1, 1, 0, 0, 0) := rfl
theorem r153_19 : Rn 153 (19, [x0, x1, x2, x3], st, a, h) = Rn 153 (20, [x0, x1, x2, x3], .int (1 : Int32) :: st, a, h) := Rn_go c153_19 rfl
theorem c153_20 : mcode 153 20 = some (.invokevirtual 63, 3, 131, 2, 6) := rfl
theorem r153_20 : Rn 153 (20, [x0, x1, x2, x3], [v1, v0, .ref q, .int i0, .int i1], a, h) = if mis h q 6 = true then Bk 153 23 [x0, x1, x2, x3] [.int i0, .int i1] (Ec 131 [.ref q, v0, v1] a h) else none := Rn_call1 c153_20 rfl (Nat.le_of_ble_eq_true rfl) rfl rfl (Nat.le_of_ble_eq_true rfl)
theorem c153_23 : mcode 153 23 = some (.imul, 1, 0, 0, 0) := rfl
theorem r153_23 : Rn 153 (23, [x0, x1, x2, x3], .int j :: .int i :: st, a, h) = Rn 153 (24, [x0, x1, x2, x3], .int (i * j) :: st, a, h) := Rn_go c153_23 rfl
theorem c153_24 : mcode 153 24 = some (.iadd, 1, 0, 0, 0) := rfl
theorem r153_24 : Rn 153 (24, [x0, x1, x2, x3], .int j :: .int i :: st, a, h) = Rn 153 (25, [x0, x1, x2, x3], .int (i + j) :: st, a, h) := Rn_go c153_24 rfl
theorem c153_25 : mcode 153 25 = some (.aload_n 0, 1, 0, 0, 0) := rfl
theorem r153_25 : Rn 153 (25, [some (.ref q), x1, x2, x3], st, a, h) = Rn 153 (26, [some (.ref q), x1, x2, x3], .ref q :: st, a, h) := Rn_go c153_25 rfl
theorem c153_26 : mcode 153 26 = some (.iload_n 1, 1, 0, 0, 0) := rfl
theorem r153_26 : Rn 153 (26, [x0, some (.int i), x2, x3], st, a, h) = Rn 153 (27, [x0, some (.int i), x2, x3], .int i :: st, a, h) := Rn_go c153_26 rfl
theorem c153_27 : mcode 153 27 = some (.iconst 2, 1, 0, 0, 0) := rfl
theorem r153_27 : Rn 153 (27, [x0, x1, x2, x3], st, a, h) = Rn 153 (28, [x0, x1, x2, x3], .int (2 : Int32) :: st, a, h) := Rn_go c153_27 rfl
theorem c153_28 : mcode 153 28 = some (.invokevirtual 63, 3, 131, 2, 6) := rfl
theorem r153_28 : Rn 153 (28, [x0, x1, x2, x3], [v1, v0, .ref q, .int i0], a, h) = if mis h q 6 = true then Bk 153 31 [x0, x1, x2, x3] [.int i0] (Ec 131 [.ref q, v0, v1] a h) else none := Rn_call1 c153_28 rfl (Nat.le_of_ble_eq_true rfl) rfl rfl (Nat.le_of_ble_eq_true rfl)
theorem c153_31 : mcode 153 31 = some (.iadd, 1, 0, 0, 0) := rfl
theorem r153_31 : Rn 153 (31, [x0, x1, x2, x3], .int j :: .int i :: st, a, h) = Rn 153 (32, [x0, x1, x2, x3], .int (i + j) :: st, a, h) := Rn_go c153_31 rfl
theorem c153_32 : mcode 153 32 = some (.istore_n 3, 1, 0, 0, 0) := rfl
theorem r153_32 : Rn 153 (32, [x0, x1, x2, x3], .int i :: st, a, h) = Nl x2 (Rn 153 (33, [x0, x1, x2, some (.int i)], st, a, h)) := Rn_st1 (k := 3) (v := .int i) x2 c153_32 rfl rfl rfl rfl
theorem c153_33 : mcode 153 33 = some (.aload_n 0, 1, 0, 0, 0) := rfl
theorem r153_33 : Rn 153 (33, [some (.ref q), x1, x2, x3], st, a, h) = Rn 153 (34, [some (.ref q), x1, x2, x3], .ref q :: st, a, h) := Rn_go c153_33 rfl
theorem c153_34 : mcode 153 34 = some (.getfield 7, 3, 6, 0, 0) := rfl
theorem r153_34 : Rn 153 (34, [x0, x1, x2, x3], .ref q :: st, a, h) = Kv 153 37 [x0, x1, x2, x3] st a h (mgf h q 6 0) := Rn_getf c153_34 rfl
theorem c153_37 : mcode 153 37 = some (.iload_n 1, 1, 0, 0, 0) := rfl
theorem r153_37 : Rn 153 (37, [x0, some (.int i), x2, x3], st, a, h) = Rn 153 (38, [x0, some (.int i), x2, x3], .int i :: st, a, h) := Rn_go c153_37 rfl
theorem c153_38 : mcode 153 38 = some (.iconst 3, 1, 0, 0, 0) := rfl
theorem r153_38 : Rn 153 (38, [x0, x1, x2, x3], st, a, h) = Rn 153 (39, [x0, x1, x2, x3], .int (3 : Int32) :: st, a, h) := Rn_go c153_38 rfl
theorem c153_39 : mcode 153 39 = some (.invokestatic 79, 3, 130, 2, 0) := rfl
theorem r153_39 : Rn 153 (39, [x0, x1, x2, x3], [v1, v0, .ref q0], a, h) = Bk 153 42 [x0, x1, x2, x3] [.ref q0] (Ec 130 [v0, v1] a h) := Rn_call0 c153_39 (fun z => nomatch z) rfl (Nat.le_of_ble_eq_true rfl) rfl rfl (Nat.le_of_ble_eq_true rfl)
theorem c153_42 : mcode 153 42 = some (.dup2, 1, 0, 0, 0) := rfl
theorem r153_42 : Rn 153 (42, [x0, x1, x2, x3], .int i :: .ref p :: st, a, h) = Rn 153 (43, [x0, x1, x2, x3], .int i :: .ref p :: .int i :: .ref p :: st, a, h) := Rn_go c153_42 rfl
theorem c153_43 : mcode 153 43 = some (.iaload, 1, 0, 0, 0) := rfl
theorem r153_43 : Rn 153 (43, [x0, x1, x2, x3], .int i :: .ref q :: st, a, h) = Ki 153 44 [x0, x1, x2, x3] st a h (mld h q i false) := Rn_iald c153_43 rfl
theorem c153_44 : mcode 153 44 = some (.iload_n 2, 1, 0, 0, 0) := rfl
theorem r153_44 : Rn 153 (44, [x0, x1, some (.int i), x3], st, a, h) = Rn 153 (45, [x0, x1, some (.int i), x3], .int i :: st, a, h) := Rn_go c153_44 rfl
theorem c153_45 : mcode 153 45 = some (.isub, 1, 0, 0, 0) := rfl
theorem r153_45 : Rn 153 (45, [x0, x1, x2, x3], .int j :: .int i :: st, a, h) = Rn 153 (46, [x0, x1, x2, x3], .int (i - j) :: st, a, h) := Rn_go c153_45 rfl
theorem c153_46 : mcode 153 46 = some (.iastore, 1, 0, 0, 0) := rfl
theorem r153_46 : Rn 153 (46, [x0, x1, x2, x3], .int j :: .int i :: .ref q :: st, a, h) = Kh 153 47 [x0, x1, x2, x3] st a (mias h q i j) := Rn_iast c153_46 rfl
theorem c153_47 : mcode 153 47 = some (.aload_n 0, 1, 0, 0, 0) := rfl
theorem r153_47 : Rn 153 (47, [some (.ref q), x1, x2, x3], st, a, h) = Rn 153 (48, [some (.ref q), x1, x2, x3], .ref q :: st, a, h) := Rn_go c153_47 rfl
theorem c153_48 : mcode 153 48 = some (.getfield 7, 3, 6, 0, 0) := rfl
theorem r153_48 : Rn 153 (48, [x0, x1, x2, x3], .ref q :: st, a, h) = Kv 153 51 [x0, x1, x2, x3] st a h (mgf h q 6 0) := Rn_getf c153_48 rfl
theorem c153_51 : mcode 153 51 = some (.iload_n 3, 1, 0, 0, 0) := rfl
theorem r153_51 : Rn 153 (51, [x0, x1, x2, some (.int i)], st, a, h) = Rn 153 (52, [x0, x1, x2, some (.int i)], .int i :: st, a, h) := Rn_go c153_51 rfl
theorem c153_52 : mcode 153 52 = some (.sipush 999, 3, 0, 0, 0) := rfl
theorem r153_52 : Rn 153 (52, [x0, x1, x2, x3], st, a, h) = Rn 153 (55, [x0, x1, x2, x3], .int (999 : Int32) :: st, a, h) := Rn_go c153_52 rfl
theorem c153_55 : mcode 153 55 = some (.aload_n 0, 1, 0, 0, 0) := rfl
theorem r153_55 : Rn 153 (55, [some (.ref q), x1, x2, x3], st, a, h) = Rn 153 (56, [some (.ref q), x1, x2, x3], .ref q :: st, a, h) := Rn_go c153_55 rfl
theorem c153_56 : mcode 153 56 = some (.getfield 7, 3, 6, 0, 0) := rfl
theorem r153_56 : Rn 153 (56, [x0, x1, x2, x3], .ref q :: st, a, h) = Kv 153 59 [x0, x1, x2, x3] st a h (mgf h q 6 0) := Rn_getf c153_56 rfl
theorem c153_59 : mcode 153 59 = some (.iload_n 3, 1, 0, 0, 0) := rfl
theorem r153_59 : Rn 153 (59, [x0, x1, x2, some (.int i)], st, a, h) = Rn 153 (60, [x0, x1, x2, some (.int i)], .int i :: st, a, h) := Rn_go c153_59 rfl
theorem c153_60 : mcode 153 60 = some (.iaload, 1, 0, 0, 0) := rfl
theorem r153_60 : Rn 153 (60, [x0, x1, x2, x3], .int i :: .ref q :: st, a, h) = Ki 153 61 [x0, x1, x2, x3] st a h (mld h q i false) := Rn_iald c153_60 rfl
theorem c153_61 : mcode 153 61 = some (.iload_n 2, 1, 0, 0, 0) := rfl
theorem r153_61 : Rn 153 (61, [x0, x1, some (.int i), x3], st, a, h) = Rn 153 (62, [x0, x1, some (.int i), x3], .int i :: st, a, h) := Rn_go c153_61 rfl
theorem c153_62 : mcode 153 62 = some (.iadd, 1, 0, 0, 0) := rfl
theorem r153_62 : Rn 153 (62, [x0, x1, x2, x3], .int j :: .int i :: st, a, h) = Rn 153 (63, [x0, x1, x2, x3], .int (i + j) :: st, a, h) := Rn_go c153_62 rfl
theorem c153_63 : mcode 153 63 = some (.invokestatic 95, 3, 133, 2, 0) := rfl
theorem r153_63 : Rn 153 (63, [x0, x1, x2, x3], [v1, v0, .int i0, .ref q1], a, h) = Bk 153 66 [x0, x1, x2, x3] [.int i0, .ref q1] (Ec 133 [v0, v1] a h) := Rn_call0 c153_63 (fun z => nomatch z) rfl (Nat.le_of_ble_eq_true rfl) rfl rfl (Nat.le_of_ble_eq_true rfl)
theorem c153_66 : mcode 153 66 = some (.iastore, 1, 0, 0, 0) := rfl
theorem r153_66 : Rn 153 (66, [x0, x1, x2, x3], .int j :: .int i :: .ref q :: st, a, h) = Kh 153 67 [x0, x1, x2, x3] st a (mias h q i j) := Rn_iast c153_66 rfl
theorem c153_67 : mcode 153 67 = some (.return_, 1, 0, 0, 0) := rfl
theorem r153_67 : Rn 153 (67, [x0, x1, x2, x3], [], a, h) = some (none, a, h) := Rn_act c153_67
theorem c154_0 : mcode 154 0 = some (.bipush 20, 2, 0, 0, 0) := rfl
theorem r154_0 : Rn 154 (0, [x0, x1, x2], st, a, h) = Rn 154 (2, [x0, x1, x2], .int (20 : Int32) :: st, a, h) := Rn_go c154_0 rfl
theorem c154_2 : mcode 154 2 = some (.istore_n 1, 1, 0, 0, 0) := rfl
theorem r154_2 : Rn 154 (2, [x0, x1, x2], .int i :: st, a, h) = Nl x0 (Rn 154 (3, [x0, some (.int i), x2], st, a, h)) := Rn_st1 (k := 1) (v := .int i) x0 c154_2 rfl rfl rfl rfl
theorem c154_3 : mcode 154 3 = some (.iload_n 1, 1, 0, 0, 0) := rfl
theorem r154_3 : Rn 154 (3, [x0, some (.int i), x2], st, a, h) = Rn 154 (4, [x0, some (.int i), x2], .int i :: st, a, h) := Rn_go c154_3 rfl
theorem c154_4 : mcode 154 4 = some (.ifCond .lt 60, 3, 0, 0, 0) := rfl
theorem r154_4 : Rn 154 (4, [x0, x1, x2], .int i :: st, a, h) = if i < 0 then Rn 154 (64, [x0, x1, x2], st, a, h) else Rn 154 (7, [x0, x1, x2], st, a, h) := Rn_ifc c154_4 mc_lt rfl rfl
theorem c154_7 : mcode 154 7 = some (.aload_n 0, 1, 0, 0, 0) := rfl
theorem r154_7 : Rn 154 (7, [some (.ref q), x1, x2], st, a, h) = Rn 154 (8, [some (.ref q), x1, x2], .ref q :: st, a, h) := Rn_go c154_7 rfl
theorem c154_8 : mcode 154 8 = some (.getfield 7, 3, 6, 0, 0) := rfl
theorem r154_8 : Rn 154 (8, [x0, x1, x2], .ref q :: st, a, h) = Kv 154 11 [x0, x1, x2] st a h (mgf h q 6 0) := Rn_getf c154_8 rfl
theorem c154_11 : mcode 154 11 = some (.iconst 4, 1, 0, 0, 0) := rfl
theorem r154_11 : Rn 154 (11, [x0, x1, x2], st, a, h) = Rn 154 (12, [x0, x1, x2], .int (4 : Int32) :: st, a, h) := Rn_go c154_11 rfl
theorem c154_12 : mcode 154 12 = some (.iload_n 1, 1, 0, 0, 0) := rfl
theorem r154_12 : Rn 154 (12, [x0, some (.int i), x2], st, a, h) = Rn 154 (13, [x0, some (.int i), x2], .int i :: st, a, h) := Rn_go c154_12 rfl
theorem c154_13 : mcode 154 13 = some (.iadd, 1, 0, 0, 0) := rfl
theorem r154_13 : Rn 154 (13, [x0, x1, x2], .int j :: .int i :: st, a, h) = Rn 154 (14, [x0, x1, x2], .int (i + j) :: st, a, h) := Rn_go c154_13 rfl
theorem c154_14 : mcode 154 14 = some (.iaload, 1, 0, 0, 0) := rfl
theorem r154_14 : Rn 154 (14, [x0, x1, x2], .int i :: .ref q :: st, a, h) = Ki 154 15 [x0, x1, x2] st a h (mld h q i false) := Rn_iald c154_14 rfl
theorem c154_15 : mcode 154 15 = some (.iconst 4, 1, 0, 0, 0) := rfl
theorem r154_15 : Rn 154 (15, [x0, x1, x2], st, a, h) = Rn 154 (16, [x0, x1, x2], .int (4 : Int32) :: st, a, h) := Rn_go c154_15 rfl
theorem c154_16 : mcode 154 16 = some (.idiv, 1, 0, 0, 0) := rfl
theorem r154_16 : Rn 154 (16, [x0, x1, x2], .int j :: .int i :: st, a, h) = if j = 0 then none else Rn 154 (17, [x0, x1, x2], .int (i / j) :: st, a, h) := Rn_idiv c154_16 rfl
theorem c154_17 : mcode 154 17 = some (.istore_n 2, 1, 0, 0, 0) := rfl
theorem r154_17 : Rn 154 (17, [x0, x1, x2], .int i :: st, a, h) = Nl x1 (Rn 154 (18, [x0, x1, some (.int i)], st, a, h)) := Rn_st1 (k := 2) (v := .int i) x1 c154_17 rfl rfl rfl rfl
theorem c154_18 : mcode 154 18 = some (.aload_n 0, 1, 0, 0, 0) := rfl
theorem r154_18 : Rn 154 (18, [some (.ref q), x1, x2], st, a, h) = Rn 154 (19, [some (.ref q), x1, x2], .ref q :: st, a, h) := Rn_go c154_18 rfl
theorem c154_19 : mcode 154 19 = some (.getfield 7, 3, 6, 0, 0) := rfl
theorem r154_19 : Rn 154 (19, [x0, x1, x2], .ref q :: st, a, h) = Kv 154 22 [x0, x1, x2] st a h (mgf h q 6 0) := Rn_getf c154_19 rfl
theorem c154_22 : mcode 154 22 = some (.iconst 4, 1, 0, 0, 0) := rfl
theorem r154_22 : Rn 154 (22, [x0, x1, x2], st, a, h) = Rn 154 (23, [x0, x1, x2], .int (4 : Int32) :: st, a, h) := Rn_go c154_22 rfl
theorem c154_23 : mcode 154 23 = some (.iload_n 1, 1, 0, 0, 0) := rfl
theorem r154_23 : Rn 154 (23, [x0, some (.int i), x2], st, a, h) = Rn 154 (24, [x0, some (.int i), x2], .int i :: st, a, h) := Rn_go c154_23 rfl
theorem c154_24 : mcode 154 24 = some (.iadd, 1, 0, 0, 0) := rfl
theorem r154_24 : Rn 154 (24, [x0, x1, x2], .int j :: .int i :: st, a, h) = Rn 154 (25, [x0, x1, x2], .int (i + j) :: st, a, h) := Rn_go c154_24 rfl
theorem c154_25 : mcode 154 25 = some (.dup2, 1, 0, 0, 0) := rfl
theorem r154_25 : Rn 154 (25, [x0, x1, x2], .int i :: .ref p :: st, a, h) = Rn 154 (26, [x0, x1, x2], .int i :: .ref p :: .int i :: .ref p :: st, a, h) := Rn_go c154_25 rfl
theorem c154_26 : mcode 154 26 = some (.iaload, 1, 0, 0, 0) := rfl
theorem r154_26 : Rn 154 (26, [x0, x1, x2], .int i :: .ref q :: st, a, h) = Ki 154 27 [x0, x1, x2] st a h (mld h q i false) := Rn_iald c154_26 rfl
theorem c154_27 : mcode 154 27 = some (.iload_n 2, 1, 0, 0, 0) := rfl
theorem r154_27 : Rn 154 (27, [x0, x1, some (.int i)], st, a, h) = Rn 154 (28, [x0, x1, some (.int i)], .int i :: st, a, h) := Rn_go c154_27 rfl
theorem c154_28 : mcode 154 28 = some (.isub, 1, 0, 0, 0) := rfl
theorem r154_28 : Rn 154 (28, [x0, x1, x2], .int j :: .int i :: st, a, h) = Rn 154 (29, [x0, x1, x2], .int (i - j) :: st, a, h) := Rn_go c154_28 rfl
theorem c154_29 : mcode 154 29 = some (.iastore, 1, 0, 0, 0) := rfl
theorem r154_29 : Rn 154 (29, [x0, x1, x2], .int j :: .int i :: .ref q :: st, a, h) = Kh 154 30 [x0, x1, x2] st a (mias h q i j) := Rn_iast c154_29 rfl
theorem c154_30 : mcode 154 30 = some (.aload_n 0, 1, 0, 0, 0) := rfl
theorem r154_30 : Rn 154 (30, [some (.ref q), x1, x2], st, a, h) = Rn 154 (31, [some (.ref q), x1, x2], .ref q :: st, a, h) := Rn_go c154_30 rfl
theorem c154_31 : mcode 154 31 = some (.getfield 7, 3, 6, 0, 0) := rfl
theorem r154_31 : Rn 154 (31, [x0, x1, x2], .ref q :: st, a, h) = Kv 154 34 [x0, x1, x2] st a h (mgf h q 6 0) := Rn_getf c154_31 rfl
theorem c154_34 : mcode 154 34 = some (.iconst 4, 1, 0, 0, 0) := rfl
theorem r154_34 : Rn 154 (34, [x0, x1, x2], st, a, h) = Rn 154 (35, [x0, x1, x2], .int (4 : Int32) :: st, a, h) := Rn_go c154_34 rfl
theorem c154_35 : mcode 154 35 = some (.iload_n 1, 1, 0, 0, 0) := rfl
theorem r154_35 : Rn 154 (35, [x0, some (.int i), x2], st, a, h) = Rn 154 (36, [x0, some (.int i), x2], .int i :: st, a, h) := Rn_go c154_35 rfl
theorem c154_36 : mcode 154 36 = some (.iadd, 1, 0, 0, 0) := rfl
theorem r154_36 : Rn 154 (36, [x0, x1, x2], .int j :: .int i :: st, a, h) = Rn 154 (37, [x0, x1, x2], .int (i + j) :: st, a, h) := Rn_go c154_36 rfl
theorem c154_37 : mcode 154 37 = some (.iconst 3, 1, 0, 0, 0) := rfl
theorem r154_37 : Rn 154 (37, [x0, x1, x2], st, a, h) = Rn 154 (38, [x0, x1, x2], .int (3 : Int32) :: st, a, h) := Rn_go c154_37 rfl
theorem c154_38 : mcode 154 38 = some (.iadd, 1, 0, 0, 0) := rfl
theorem r154_38 : Rn 154 (38, [x0, x1, x2], .int j :: .int i :: st, a, h) = Rn 154 (39, [x0, x1, x2], .int (i + j) :: st, a, h) := Rn_go c154_38 rfl
theorem c154_39 : mcode 154 39 = some (.sipush 999, 3, 0, 0, 0) := rfl
theorem r154_39 : Rn 154 (39, [x0, x1, x2], st, a, h) = Rn 154 (42, [x0, x1, x2], .int (999 : Int32) :: st, a, h) := Rn_go c154_39 rfl
theorem c154_42 : mcode 154 42 = some (.aload_n 0, 1, 0, 0, 0) := rfl
theorem r154_42 : Rn 154 (42, [some (.ref q), x1, x2], st, a, h) = Rn 154 (43, [some (.ref q), x1, x2], .ref q :: st, a, h) := Rn_go c154_42 rfl
theorem c154_43 : mcode 154 43 = some (.getfield 7, 3, 6, 0, 0) := rfl
theorem r154_43 : Rn 154 (43, [x0, x1, x2], .ref q :: st, a, h) = Kv 154 46 [x0, x1, x2] st a h (mgf h q 6 0) := Rn_getf c154_43 rfl
theorem c154_46 : mcode 154 46 = some (.iconst 4, 1, 0, 0, 0) := rfl
theorem r154_46 : Rn 154 (46, [x0, x1, x2], st, a, h) = Rn 154 (47, [x0, x1, x2], .int (4 : Int32) :: st, a, h) := Rn_go c154_46 rfl
theorem c154_47 : mcode 154 47 = some (.iload_n 1, 1, 0, 0, 0) := rfl
theorem r154_47 : Rn 154 (47, [x0, some (.int i), x2], st, a, h) = Rn 154 (48, [x0, some (.int i), x2], .int i :: st, a, h) := Rn_go c154_47 rfl
theorem c154_48 : mcode 154 48 = some (.iadd, 1, 0, 0, 0) := rfl
theorem r154_48 : Rn 154 (48, [x0, x1, x2], .int j :: .int i :: st, a, h) = Rn 154 (49, [x0, x1, x2], .int (i + j) :: st, a, h) := Rn_go c154_48 rfl
theorem c154_49 : mcode 154 49 = some (.iconst 3, 1, 0, 0, 0) := rfl
theorem r154_49 : Rn 154 (49, [x0, x1, x2], st, a, h) = Rn 154 (50, [x0, x1, x2], .int (3 : Int32) :: st, a, h) := Rn_go c154_49 rfl
theorem c154_50 : mcode 154 50 = some (.iadd, 1, 0, 0, 0) := rfl
theorem r154_50 : Rn 154 (50, [x0, x1, x2], .int j :: .int i :: st, a, h) = Rn 154 (51, [x0, x1, x2], .int (i + j) :: st, a, h) := Rn_go c154_50 rfl
theorem c154_51 : mcode 154 51 = some (.iaload, 1, 0, 0, 0) := rfl
theorem r154_51 : Rn 154 (51, [x0, x1, x2], .int i :: .ref q :: st, a, h) = Ki 154 52 [x0, x1, x2] st a h (mld h q i false) := Rn_iald c154_51 rfl
theorem c154_52 : mcode 154 52 = some (.iload_n 2, 1, 0, 0, 0) := rfl
theorem r154_52 : Rn 154 (52, [x0, x1, some (.int i)], st, a, h) = Rn 154 (53, [x0, x1, some (.int i)], .int i :: st, a, h) := Rn_go c154_52 rfl
theorem c154_53 : mcode 154 53 = some (.iadd, 1, 0, 0, 0) := rfl
theorem r154_53 : Rn 154 (53, [x0, x1, x2], .int j :: .int i :: st, a, h) = Rn 154 (54, [x0, x1, x2], .int (i + j) :: st, a, h) := Rn_go c154_53 rfl
theorem c154_54 : mcode 154 54 = some (.invokestatic 95, 3, 133, 2, 0) := rfl
theorem r154_54 : Rn 154 (54, [x0, x1, x2], [v1, v0, .int i0, .ref q1], a, h) = Bk 154 57 [x0, x1, x2] [.int i0, .ref q1] (Ec 133 [v0, v1] a h) := Rn_call0 c154_54 (fun z => nomatch z) rfl (Nat.le_of_ble_eq_true rfl) rfl rfl (Nat.le_of_ble_eq_true rfl)
theorem c154_57 : mcode 154 57 = some (.iastore, 1, 0, 0, 0) := rfl
theorem r154_57 : Rn 154 (57, [x0, x1, x2], .int j :: .int i :: .ref q :: st, a, h) = Kh 154 58 [x0, x1, x2] st a (mias h q i j) := Rn_iast c154_57 rfl
theorem c154_58 : mcode 154 58 = some (.iinc 1 (-1), 3, 0, 0, 0) := rfl
theorem r154_58 : Rn 154 (58, [x0, some (.int i), x2], st, a, h) = Nl x0 (Rn 154 (61, [x0, some (.int (i + (-1 : Int32))), x2], st, a, h)) := Rn_st1 (k := 1) (v := .int (i + (-1 : Int32))) x0 c154_58 rfl rfl rfl rfl
theorem c154_61 : mcode 154 61 = some (.goto (-58), 3, 0, 0, 0) := rfl
theorem r154_61 : Rn 154 (61, [x0, x1, x2], st, a, h) = Rn 154 (3, [x0, x1, x2], st, a, h) := Rn_goto c154_61 rfl
theorem c154_64 : mcode 154 64 = some (.return_, 1, 0, 0, 0) := rfl
theorem r154_64 : Rn 154 (64, [x0, x1, x2], [], a, h) = some (none, a, h) := Rn_act c154_64
theorem c155_0 : mcode 155 0 = some (.aload_n 0, 1, 0, 0, 0) := rfl
theorem r155_0 : Rn 155 (0, [some (.ref q), x1, x2, x3, x4, x5], st, a, h) = Rn 155 (1, [some (.ref q), x1, x2, x3, x4, x5], .ref q :: st, a, h) := Rn_go c155_0 rfl
theorem c155_1 : mcode 155 1 = some (.iload_n 1, 1, 0, 0, 0) := rfl
theorem r155_1 : Rn 155 (1, [x0, some (.int i), x2, x3, x4, x5], st, a, h) = Rn 155 (2, [x0, some (.int i), x2, x3, x4, x5], .int i :: st, a, h) := Rn_go c155_1 rfl
theorem c155_2 : mcode 155 2 = some (.iconst 2, 1, 0, 0, 0) := rfl
theorem r155_2 : Rn 155 (2, [x0, x1, x2, x3, x4, x5], st, a, h) = Rn 155 (3, [x0, x1, x2, x3, x4, x5], .int (2 : Int32) :: st, a, h) := Rn_go c155_2 rfl
theorem c155_3 : mcode 155 3 = some (.invokevirtual 63, 3, 131, 2, 6) := rfl
theorem r155_3 : Rn 155 (3, [x0, x1, x2, x3, x4, x5], [v1, v0, .ref q], a, h) = if mis h q 6 = true then Bk 155 6 [x0, x1, x2, x3, x4, x5] [] (Ec 131 [.ref q, v0, v1] a h) else none := Rn_call1 c155_3 rfl (Nat.le_of_ble_eq_true rfl) rfl rfl (Nat.le_of_ble_eq_true rfl)
theorem c155_6 : mcode 155 6 = some (.istore_n 2, 1, 0, 0, 0) := rfl
theorem r155_6 : Rn 155 (6, [x0, x1, x2, x3, x4, x5], .int i :: st, a, h) = Nl x1 (Rn 155 (7, [x0, x1, some (.int i), x3, x4, x5], st, a, h)) := Rn_st1 (k := 2) (v := .int i) x1 c155_6 rfl rfl rfl rfl
theorem c155_7 : mcode 155 7 = some (.aload_n 0, 1, 0, 0, 0) := rfl
theorem r155_7 : Rn 155 (7, [some (.ref q), x1, x2, x3, x4, x5], st, a, h) = Rn 155 (8, [some (.ref q), x1, x2, x3, x4, x5], .ref q :: st, a, h) := Rn_go c155_7 rfl
theorem c155_8 : mcode 155 8 = some (.iload_n 1, 1, 0, 0, 0) := rfl
theorem r155_8 : Rn 155 (8, [x0, some (.int i), x2, x3, x4, x5], st, a, h) = Rn 155 (9, [x0, some (.int i), x2, x3, x4, x5], .int i :: st, a, h) := Rn_go c155_8 rfl
theorem c155_9 : mcode 155 9 = some (.iconst 1, 1, 0, 0, 0) := rfl
theorem r155_9 : Rn 155 (9, [x0, x1, x2, x3, x4, x5], st, a, h) = Rn 155 (10, [x0, x1, x2, x3, x4, x5], .int (1 : Int32) :: st, a, h) := Rn_go c155_9 rfl
theorem c155_10 : mcode 155 10 = some (.invokevirtual 63, 3, 131, 2, 6) := rfl
theorem r155_10 : Rn 155 (10, [x0, x1, x2, x3, x4, x5], [v1, v0, .ref q], a, h) = if mis h q 6 = true then Bk 155 13 [x0, x1, x2, x3, x4, x5] [] (Ec 131 [.ref q, v0, v1] a h) else none := Rn_call1 c155_10 rfl (Nat.le_of_ble_eq_true rfl) rfl rfl (Nat.le_of_ble_eq_true rfl)
theorem c155_13 : mcode 155 13 = some (.istore_n 3, 1, 0, 0, 0) := rfl
theorem r155_13 : Rn 155 (13, [x0, x1, x2, x3, x4, x5], .int i :: st, a, h) = Nl x2 (Rn 155 (14, [x0, x1, x2, some (.int i), x4, x5], st, a, h)) := Rn_st1 (k := 3) (v := .int i) x2 c155_13 rfl rfl rfl rfl
theorem c155_14 : mcode 155 14 = some (.iconst (-1), 1, 0, 0, 0) := rfl
theorem r155_14 : Rn 155 (14, [x0, x1, x2, x3, x4, x5], st, a, h) = Rn 155 (15, [x0, x1, x2, x3, x4, x5], .int (-1 : Int32) :: st, a, h) := Rn_go c155_14 rfl
theorem c155_15 : mcode 155 15 = some (.istore 4, 2, 0, 0, 0) := rfl
theorem r155_15 : Rn 155 (15, [x0, x1, x2, x3, x4, x5], .int i :: st, a, h) = Nl x3 (Rn 155 (17, [x0, x1, x2, x3, some (.int i), x5], st, a, h)) := Rn_st1 (k := 4) (v := .int i) x3 c155_15 rfl rfl rfl rfl
theorem c155_17 : mcode 155 17 = some (.iconst 0, 1, 0, 0, 0) := rfl
theorem r155_17 : Rn 155 (17, [x0, x1, x2, x3, x4, x5], st, a, h) = Rn 155 (18, [x0, x1, x2, x3, x4, x5], .int (0 : Int32) :: st, a, h) := Rn_go c155_17 rfl
theorem c155_18 : mcode 155 18 = some (.istore 5, 2, 0, 0, 0) := rfl
theorem r155_18 : Rn 155 (18, [x0, x1, x2, x3, x4, x5], .int i :: st, a, h) = Nl x4 (Rn 155 (20, [x0, x1, x2, x3, x4, some (.int i)], st, a, h)) := Rn_st1 (k := 5) (v := .int i) x4 c155_18 rfl rfl rfl rfl
theorem c155_20 : mcode 155 20 = some (.iload 5, 2, 0, 0, 0) := rfl
theorem r155_20 : Rn 155 (20, [x0, x1, x2, x3, x4, some (.int i)], st, a, h) = Rn 155 (22, [x0, x1, x2, x3, x4, some (.int i)], .int i :: st, a, h) := Rn_go c155_20 rfl
theorem c155_22 : mcode 155 22 = some (.iconst 3, 1, 0, 0, 0) := rfl
theorem r155_22 : Rn 155 (22, [x0, x1, x2, x3, x4, x5], st, a, h) = Rn 155 (23, [x0, x1, x2, x3, x4, x5], .int (3 : Int32) :: st, a, h) := Rn_go c155_22 rfl
theorem c155_23 : mcode 155 23 = some (.if_icmp .ge 46, 3, 0, 0, 0) := rfl
theorem r155_23 : Rn 155 (23, [x0, x1, x2, x3, x4, x5], .int j :: .int i :: st, a, h) = if i < j then Rn 155 (26, [x0, x1, x2, x3, x4, x5], st, a, h) else Rn 155 (69, [x0, x1, x2, x3, x4, x5], st, a, h) := Rn_icmpn c155_23 mc_ge rfl rfl
theorem c155_26 : mcode 155 26 = some (.iload 5, 2, 0, 0, 0) := rfl
theorem r155_26 : Rn 155 (26, [x0, x1, x2, x3, x4, some (.int i)], st, a, h) = Rn 155 (28, [x0, x1, x2, x3, x4, some (.int i)], .int i :: st, a, h) := Rn_go c155_26 rfl
theorem c155_28 : mcode 155 28 = some (.iload_n 2, 1, 0, 0, 0) := rfl
theorem r155_28 : Rn 155 (28, [x0, x1, some (.int i), x3, x4, x5], st, a, h) = Rn 155 (29, [x0, x1, some (.int i), x3, x4, x5], .int i :: st, a, h) := Rn_go c155_28 rfl
theorem c155_29 : mcode 155 29 = some (.if_icmp .eq 30, 3, 0, 0, 0) := rfl
theorem r155_29 : Rn 155 (29, [x0, x1, x2, x3, x4, x5], .int j :: .int i :: st, a, h) = if i = j then Rn 155 (59, [x0, x1, x2, x3, x4, x5], st, a, h) else Rn 155 (32, [x0, x1, x2, x3, x4, x5], st, a, h) := Rn_icmp c155_29 mc_eq rfl rfl
theorem c155_32 : mcode 155 32 = some (.iload 4, 2, 0, 0, 0) := rfl
theorem r155_32 : Rn 155 (32, [x0, x1, x2, x3, some (.int i), x5], st, a, h) = Rn 155 (34, [x0, x1, x2, x3, some (.int i), x5], .int i :: st, a, h) := Rn_go c155_32 rfl
theorem c155_34 : mcode 155 34 = some (.ifCond .lt 20, 3, 0, 0, 0) := rfl
theorem r155_34 : Rn 155 (34, [x0, x1, x2, x3, x4, x5], .int i :: st, a, h) = if i < 0 then Rn 155 (54, [x0, x1, x2, x3, x4, x5], st, a, h) else Rn 155 (37, [x0, x1, x2, x3, x4, x5], st, a, h) := Rn_ifc c155_34 mc_lt rfl rfl
theorem c155_37 : mcode 155 37 = some (.aload_n 0, 1, 0, 0, 0) := rfl
theorem r155_37 : Rn 155 (37, [some (.ref q), x1, x2, x3, x4, x5], st, a, h) = Rn 155 (38, [some (.ref q), x1, x2, x3, x4, x5], .ref q :: st, a, h) := Rn_go c155_37 rfl
theorem c155_38 : mcode 155 38 = some (.iload_n 3, 1, 0, 0, 0) := rfl
theorem r155_38 : Rn 155 (38, [x0, x1, x2, some (.int i), x4, x5], st, a, h) = Rn 155 (39, [x0, x1, x2, some (.int i), x4, x5], .int i :: st, a, h) := Rn_go c155_38 rfl
theorem c155_39 : mcode 155 39 = some (.iload 5, 2, 0, 0, 0) := rfl
theorem r155_39 : Rn 155 (39, [x0, x1, x2, x3, x4, some (.int i)], st, a, h) = Rn 155 (41, [x0, x1, x2, x3, x4, some (.int i)], .int i :: st, a, h) := Rn_go c155_39 rfl
theorem c155_41 : mcode 155 41 = some (.invokevirtual 60, 3, 132, 2, 6) := rfl
theorem r155_41 : Rn 155 (41, [x0, x1, x2, x3, x4, x5], [v1, v0, .ref q], a, h) = if mis h q 6 = true then Bk 155 44 [x0, x1, x2, x3, x4, x5] [] (Ec 132 [.ref q, v0, v1] a h) else none := Rn_call1 c155_41 rfl (Nat.le_of_ble_eq_true rfl) rfl rfl (Nat.le_of_ble_eq_true rfl)
theorem c155_44 : mcode 155 44 = some (.aload_n 0, 1, 0, 0, 0) := rfl
theorem r155_44 : Rn 155 (44, [some (.ref q), x1, x2, x3, x4, x5], st, a, h) = Rn 155 (45, [some (.ref q), x1, x2, x3, x4, x5], .ref q :: st, a, h) := Rn_go c155_44 rfl
theorem c155_45 : mcode 155 45 = some (.iload_n 3, 1, 0, 0, 0) := rfl
theorem r155_45 : Rn 155 (45, [x0, x1, x2, some (.int i), x4, x5], st, a, h) = Rn 155 (46, [x0, x1, x2, some (.int i), x4, x5], .int i :: st, a, h) := Rn_go c155_45 rfl
theorem c155_46 : mcode 155 46 = some (.iload 4, 2, 0, 0, 0) := rfl
theorem r155_46 : Rn 155 (46, [x0, x1, x2, x3, some (.int i), x5], st, a, h) = Rn 155 (48, [x0, x1, x2, x3, some (.int i), x5], .int i :: st, a, h) := Rn_go c155_46 rfl
theorem c155_48 : mcode 155 48 = some (.invokevirtual 60, 3, 132, 2, 6) := rfl
theorem r155_48 : Rn 155 (48, [x0, x1, x2, x3, x4, x5], [v1, v0, .ref q, .int i0], a, h) = if mis h q 6 = true then Bk 155 51 [x0, x1, x2, x3, x4, x5] [.int i0] (Ec 132 [.ref q, v0, v1] a h) else none := Rn_call1 c155_48 rfl (Nat.le_of_ble_eq_true rfl) rfl rfl (Nat.le_of_ble_eq_true rfl)
theorem c155_51 : mcode 155 51 = some (.if_icmp .le 8, 3, 0, 0, 0) := rfl
theorem r155_51 : Rn 155 (51, [x0, x1, x2, x3, x4, x5], .int j :: .int i :: st, a, h) = if j < i then Rn 155 (54, [x0, x1, x2, x3, x4, x5], st, a, h) else Rn 155 (59, [x0, x1, x2, x3, x4, x5], st, a, h) := Rn_icmpn c155_51 mc_le rfl rfl
theorem c155_54 : mcode 155 54 = some (.iload 5, 2, 0, 0, 0) := rfl
theorem r155_54 : Rn 155 (54, [x0, x1, x2, x3, x4, some (.int i)], st, a, h) = Rn 155 (56, [x0, x1, x2, x3, x4, some (.int i)], .int i :: st, a, h) := Rn_go c155_54 rfl
theorem c155_56 : mcode 155 56 = some (.goto 5, 3, 0, 0, 0) := rfl
theorem r155_56 : Rn 155 (56, [x0, x1, x2, x3, x4, x5], st, a, h) = Rn 155 (61, [x0, x1, x2, x3, x4, x5], st, a, h) := Rn_goto c155_56 rfl
theorem c155_59 : mcode 155 59 = some (.iload 4, 2, 0, 0, 0) := rfl
theorem r155_59 : Rn 155 (59, [x0, x1, x2, x3, some (.int i), x5], st, a, h) = Rn 155 (61, [x0, x1, x2, x3, some (.int i), x5], .int i :: st, a, h) := Rn_go c155_59 rfl
theorem c155_61 : mcode 155 61 = some (.istore 4, 2, 0, 0, 0) := rfl
theorem r155_61 : Rn 155 (61, [x0, x1, x2, x3, x4, x5], .int i :: st, a, h) = Nl x3 (Rn 155 (63, [x0, x1, x2, x3, some (.int i), x5], st, a, h)) := Rn_st1 (k := 4) (v := .int i) x3 c155_61 rfl rfl rfl rfl
theorem c155_63 : mcode 155 63 = some (.iinc 5 1, 3, 0, 0, 0) := rfl
theorem r155_63 : Rn 155 (63, [x0, x1, x2, x3, x4, some (.int i)], st, a, h) = Nl x4 (Rn 155 (66, [x0, x1, x2, x3, x4, some (.int (i + (1 : Int32)))], st, a, h)) := Rn_st1 (k := 5) (v := .int (i + (1 : Int32))) x4 c155_63 rfl rfl rfl rfl
theorem c155_66 : mcode 155 66 = some (.goto (-46), 3, 0, 0, 0) := rfl
theorem r155_66 : Rn 155 (66, [x0, x1, x2, x3, x4, x5], st, a, h) = Rn 155 (20, [x0, x1, x2, x3, x4, x5], st, a, h) := Rn_goto c155_66 rfl
theorem c155_69 : mcode 155 69 = some (.aload_n 0, 1, 0, 0, 0) := rfl
theorem r155_69 : Rn 155 (69, [some (.ref q), x1, x2, x3, x4, x5], st, a, h) = Rn 155 (70, [some (.ref q), x1, x2, x3, x4, x5], .ref q :: st, a, h) := Rn_go c155_69 rfl
theorem c155_70 : mcode 155 70 = some (.iload_n 3, 1, 0, 0, 0) := rfl
theorem r155_70 : Rn 155 (70, [x0, x1, x2, some (.int i), x4, x5], st, a, h) = Rn 155 (71, [x0, x1, x2, some (.int i), x4, x5], .int i :: st, a, h) := Rn_go c155_70 rfl
theorem c155_71 : mcode 155 71 = some (.iload 4, 2, 0, 0, 0) := rfl
theorem r155_71 : Rn 155 (71, [x0, x1, x2, x3, some (.int i), x5], st, a, h) = Rn 155 (73, [x0, x1, x2, x3, some (.int i), x5], .int i :: st, a, h) := Rn_go c155_71 rfl
theorem c155_73 : mcode 155 73 = some (.invokevirtual 60, 3, 132, 2, 6) := rfl
theorem r155_73 : Rn 155 (73, [x0, x1, x2, x3, x4, x5], [v1, v0, .ref q], a, h) = if mis h q 6 = true then Bk 155 76 [x0, x1, x2, x3, x4, x5] [] (Ec 132 [.ref q, v0, v1] a h) else none := Rn_call1 c155_73 rfl (Nat.le_of_ble_eq_true rfl) rfl rfl (Nat.le_of_ble_eq_true rfl)
theorem c155_76 : mcode 155 76 = some (.aload_n 0, 1, 0, 0, 0) := rfl
theorem r155_76 : Rn 155 (76, [some (.ref q), x1, x2, x3, x4, x5], st, a, h) = Rn 155 (77, [some (.ref q), x1, x2, x3, x4, x5], .ref q :: st, a, h) := Rn_go c155_76 rfl
theorem c155_77 : mcode 155 77 = some (.iload_n 1, 1, 0, 0, 0) := rfl
theorem r155_77 : Rn 155 (77, [x0, some (.int i), x2, x3, x4, x5], st, a, h) = Rn 155 (78, [x0, some (.int i), x2, x3, x4, x5], .int i :: st, a, h) := Rn_go c155_77 rfl
theorem c155_78 : mcode 155 78 = some (.invokevirtual 109, 3, 149, 1, 6) := rfl
theorem r155_78 : Rn 155 (78, [x0, x1, x2, x3, x4, x5], [v0, .ref q, .int i0], a, h) = if mis h q 6 = true then Bk 155 81 [x0, x1, x2, x3, x4, x5] [.int i0] (Ec 149 [.ref q, v0] a h) else none := Rn_call1 c155_78 rfl (Nat.le_of_ble_eq_true rfl) rfl rfl (Nat.le_of_ble_eq_true rfl)
theorem c155_81 : mcode 155 81 = some (.if_icmp .le 56, 3, 0, 0, 0) := rfl
theorem r155_81 : Rn 155 (81, [x0, x1, x2, x3, x4, x5], .int j :: .int i :: st, a, h) = if j < i then Rn 155 (84, [x0, x1, x2, x3, x4, x5], st, a, h) else Rn 155 (137, [x0, x1, x2, x3, x4, x5], st, a, h) := Rn_icmpn c155_81 mc_le rfl rfl
theorem c155_84 : mcode 155 84 = some (.aload_n 0, 1, 0, 0, 0) := rfl
theorem r155_84 : Rn 155 (84, [some (.ref q), x1, x2, x3, x4, x5], st, a, h) = Rn 155 (85, [some (.ref q), x1, x2, x3, x4, x5], .ref q :: st, a, h) := Rn_go c155_84 rfl
theorem c155_85 : mcode 155 85 = some (.iload_n 3, 1, 0, 0, 0) := rfl
theorem r155_85 : Rn 155 (85, [x0, x1, x2, some (.int i), x4, x5], st, a, h) = Rn 155 (86, [x0, x1, x2, some (.int i), x4, x5], .int i :: st, a, h) := Rn_go c155_85 rfl
theorem c155_86 : mcode 155 86 = some (.iload 4, 2, 0, 0, 0) := rfl
theorem r155_86 : Rn 155 (86, [x0, x1, x2, x3, some (.int i), x5], st, a, h) = Rn 155 (88, [x0, x1, x2, x3, some (.int i), x5], .int i :: st, a, h) := Rn_go c155_86 rfl
theorem c155_88 : mcode 155 88 = some (.invokevirtual 60, 3, 132, 2, 6) := rfl
theorem r155_88 : Rn 155 (88, [x0, x1, x2, x3, x4, x5], [v1, v0, .ref q], a, h) = if mis h q 6 = true then Bk 155 91 [x0, x1, x2, x3, x4, x5] [] (Ec 132 [.ref q, v0, v1] a h) else none := Rn_call1 c155_88 rfl (Nat.le_of_ble_eq_true rfl) rfl rfl (Nat.le_of_ble_eq_true rfl)
theorem c155_91 : mcode 155 91 = some (.aload_n 0, 1, 0, 0, 0) := rfl
theorem r155_91 : Rn 155 (91, [some (.ref q), x1, x2, x3, x4, x5], st, a, h) = Rn 155 (92, [some (.ref q), x1, x2, x3, x4, x5], .ref q :: st, a, h) := Rn_go c155_91 rfl
theorem c155_92 : mcode 155 92 = some (.iload_n 3, 1, 0, 0, 0) := rfl
theorem r155_92 : Rn 155 (92, [x0, x1, x2, some (.int i), x4, x5], st, a, h) = Rn 155 (93, [x0, x1, x2, some (.int i), x4, x5], .int i :: st, a, h) := Rn_go c155_92 rfl
theorem c155_93 : mcode 155 93 = some (.iload_n 2, 1, 0, 0, 0) := rfl
theorem r155_93 : Rn 155 (93, [x0, x1, some (.int i), x3, x4, x5], st, a, h) = Rn 155 (94, [x0, x1, some (.int i), x3, x4, x5], .int i :: st, a, h) := Rn_go c155_93 rfl
theorem c155_94 : mcode 155 94 = some (.invokevirtual 60, 3, 132, 2, 6) := rfl
theorem r155_94 : Rn 155 (94, [x0, x1, x2, x3, x4, x5], [v1, v0, .ref q, .int i0], a, h) = if mis h q 6 = true then Bk 155 97 [x0, x1, x2, x3, x4, x5] [.int i0] (Ec 132 [.ref q, v0, v1] a h) else none := Rn_call1 c155_94 rfl (Nat.le_of_ble_eq_true rfl) rfl rfl (Nat.le_of_ble_eq_true rfl)
theorem c155_97 : mcode 155 97 = some (.if_icmp .le 40, 3, 0, 0, 0) := rfl
theorem r155_97 : Rn 155 (97, [x0, x1, x2, x3, x4, x5], .int j :: .int i :: st, a, h) = if j < i then Rn 155 (100, [x0, x1, x2, x3, x4, x5], st, a, h) else Rn 155 (137, [x0, x1, x2, x3, x4, x5], st, a, h) := Rn_icmpn c155_97 mc_le rfl rfl
theorem c155_100 : mcode 155 100 = some (.aload_n 0, 1, 0, 0, 0) := rfl
theorem r155_100 : Rn 155 (100, [some (.ref q), x1, x2, x3, x4, x5], st, a, h) = Rn 155 (101, [some (.ref q), x1, x2, x3, x4, x5], .ref q :: st, a, h) := Rn_go c155_100 rfl
theorem c155_101 : mcode 155 101 = some (.getfield 7, 3, 6, 0, 0) := rfl
theorem r155_101 : Rn 155 (101, [x0, x1, x2, x3, x4, x5], .ref q :: st, a, h) = Kv 155 104 [x0, x1, x2, x3, x4, x5] st a h (mgf h q 6 0) := Rn_getf c155_101 rfl
theorem c155_104 : mcode 155 104 = some (.iload_n 1, 1, 0, 0, 0) := rfl
theorem r155_104 : Rn 155 (104, [x0, some (.int i), x2, x3, x4, x5], st, a, h) = Rn 155 (105, [x0, some (.int i), x2, x3, x4, x5], .int i :: st, a, h) := Rn_go c155_104 rfl
theorem c155_105 : mcode 155 105 = some (.iconst 2, 1, 0, 0, 0) := rfl
theorem r155_105 : Rn 155 (105, [x0, x1, x2, x3, x4, x5], st, a, h) = Rn 155 (106, [x0, x1, x2, x3, x4, x5], .int (2 : Int32) :: st, a, h) := Rn_go c155_105 rfl
theorem c155_106 : mcode 155 106 = some (.invokestatic 79, 3, 130, 2, 0) := rfl
theorem r155_106 : Rn 155 (106, [x0, x1, x2, x3, x4, x5], [v1, v0, .ref q0], a, h) = Bk 155 109 [x0, x1, x2, x3, x4, x5] [.ref q0] (Ec 130 [v0, v1] a h) := Rn_call0 c155_106 (fun z => nomatch z) rfl (Nat.le_of_ble_eq_true rfl) rfl rfl (Nat.le_of_ble_eq_true rfl)
theorem c155_109 : mcode 155 109 = some (.iload 4, 2, 0, 0, 0) := rfl
theorem r155_109 : Rn 155 (109, [x0, x1, x2, x3, some (.int i), x5], st, a, h) = Rn 155 (111, [x0, x1, x2, x3, some (.int i), x5], .int i :: st, a, h) := Rn_go c155_109 rfl
theorem c155_111 : mcode 155 111 = some (.iastore, 1, 0, 0, 0) := rfl
theorem r155_111 : Rn 155 (111, [x0, x1, x2, x3, x4, x5], .int j :: .int i :: .ref q :: st, a, h) = Kh 155 112 [x0, x1, x2, x3, x4, x5] st a (mias h q i j) := Rn_iast c155_111 rfl
theorem c155_112 : mcode 155 112 = some (.aload_n 0, 1, 0, 0, 0) := rfl
theorem r155_112 : Rn 155 (112, [some (.ref q), x1, x2, x3, x4, x5], st, a, h) = Rn 155 (113, [some (.ref q), x1, x2, x3, x4, x5], .ref q :: st, a, h) := Rn_go c155_112 rfl
theorem c155_113 : mcode 155 113 = some (.getfield 7, 3, 6, 0, 0) := rfl
theorem r155_113 : Rn 155 (113, [x0, x1, x2, x3, x4, x5], .ref q :: st, a, h) = Kv 155 116 [x0, x1, x2, x3, x4, x5] st a h (mgf h q 6 0) := Rn_getf c155_113 rfl
theorem c155_116 : mcode 155 116 = some (.iload_n 1, 1, 0, 0, 0) := rfl
theorem r155_116 : Rn 155 (116, [x0, some (.int i), x2, x3, x4, x5], st, a, h) = Rn 155 (117, [x0, some (.int i), x2, x3, x4, x5], .int i :: st, a, h) := Rn_go c155_116 rfl
theorem c155_117 : mcode 155 117 = some (.iconst 3, 1, 0, 0, 0) := rfl
theorem r155_117 : Rn 155 (117, [x0, x1, x2, x3, x4, x5], st, a, h) = Rn 155 (118, [x0, x1, x2, x3, x4, x5], .int (3 : Int32) :: st, a, h) := Rn_go c155_117 rfl
theorem c155_118 : mcode 155 118 = some (.invokestatic 79, 3, 130, 2, 0) := rfl
theorem r155_118 : Rn 155 (118, [x0, x1, x2, x3, x4, x5], [v1, v0, .ref q0], a, h) = Bk 155 121 [x0, x1, x2, x3, x4, x5] [.ref q0] (Ec 130 [v0, v1] a h) := Rn_call0 c155_118 (fun z => nomatch z) rfl (Nat.le_of_ble_eq_true rfl) rfl rfl (Nat.le_of_ble_eq_true rfl)
theorem c155_121 : mcode 155 121 = some (.sipush 999, 3, 0, 0, 0) := rfl
theorem r155_121 : Rn 155 (121, [x0, x1, x2, x3, x4, x5], st, a, h) = Rn 155 (124, [x0, x1, x2, x3, x4, x5], .int (999 : Int32) :: st, a, h) := Rn_go c155_121 rfl
theorem c155_124 : mcode 155 124 = some (.aload_n 0, 1, 0, 0, 0) := rfl
theorem r155_124 : Rn 155 (124, [some (.ref q), x1, x2, x3, x4, x5], st, a, h) = Rn 155 (125, [some (.ref q), x1, x2, x3, x4, x5], .ref q :: st, a, h) := Rn_go c155_124 rfl
theorem c155_125 : mcode 155 125 = some (.iload_n 1, 1, 0, 0, 0) := rfl
theorem r155_125 : Rn 155 (125, [x0, some (.int i), x2, x3, x4, x5], st, a, h) = Rn 155 (126, [x0, some (.int i), x2, x3, x4, x5], .int i :: st, a, h) := Rn_go c155_125 rfl
theorem c155_126 : mcode 155 126 = some (.iconst 3, 1, 0, 0, 0) := rfl
theorem r155_126 : Rn 155 (126, [x0, x1, x2, x3, x4, x5], st, a, h) = Rn 155 (127, [x0, x1, x2, x3, x4, x5], .int (3 : Int32) :: st, a, h) := Rn_go c155_126 rfl
theorem c155_127 : mcode 155 127 = some (.invokevirtual 63, 3, 131, 2, 6) := rfl
theorem r155_127 : Rn 155 (127, [x0, x1, x2, x3, x4, x5], [v1, v0, .ref q, .int i0, .int i1, .ref q2], a, h) = if mis h q 6 = true then Bk 155 130 [x0, x1, x2, x3, x4, x5] [.int i0, .int i1, .ref q2] (Ec 131 [.ref q, v0, v1] a h) else none := Rn_call1 c155_127 rfl (Nat.le_of_ble_eq_true rfl) rfl rfl (Nat.le_of_ble_eq_true rfl)
theorem c155_130 : mcode 155 130 = some (.bipush 10, 2, 0, 0, 0) := rfl
theorem r155_130 : Rn 155 (130, [x0, x1, x2, x3, x4, x5], st, a, h) = Rn 155 (132, [x0, x1, x2, x3, x4, x5], .int (10 : Int32) :: st, a, h) := Rn_go c155_130 rfl
theorem c155_132 : mcode 155 132 = some (.iadd, 1, 0, 0, 0) := rfl
theorem r155_132 : Rn 155 (132, [x0, x1, x2, x3, x4, x5], .int j :: .int i :: st, a, h) = Rn 155 (133, [x0, x1, x2, x3, x4, x5], .int (i + j) :: st, a, h) := Rn_go c155_132 rfl
theorem c155_133 : mcode 155 133 = some (.invokestatic 95, 3, 133, 2, 0) := rfl
theorem r155_133 : Rn 155 (133, [x0, x1, x2, x3, x4, x5], [v1, v0, .int i0, .ref q1], a, h) = Bk 155 136 [x0, x1, x2, x3, x4, x5] [.int i0, .ref q1] (Ec 133 [v0, v1] a h) := Rn_call0 c155_133 (fun z => nomatch z) rfl (Nat.le_of_ble_eq_true rfl) rfl rfl (Nat.le_of_ble_eq_true rfl)
theorem c155_136 : mcode 155 136 = some (.iastore, 1, 0, 0, 0) := rfl
theorem r155_136 : Rn 155 (136, [x0, x1, x2, x3, x4, x5], .int j :: .int i :: .ref q :: st, a, h) = Kh 155 137 [x0, x1, x2, x3, x4, x5] st a (mias h q i j) := Rn_iast c155_136 rfl
theorem c155_137 : mcode 155 137 = some (.return_, 1, 0, 0, 0) := rfl
theorem r155_137 : Rn 155 (137, [x0, x1, x2, x3, x4, x5], [], a, h) = some (none, a, h) := Rn_act c155_137
theorem c156_0 : mcode 156 0 = some (.aload_n 0, 1, 0, 0, 0) := rfl
theorem r156_0 : Rn 156 (0, [some (.ref q), x1, x2, x3], st, a, h) = Rn 156 (1, [some (.ref q), x1, x2, x3], .ref q :: st, a, h) := Rn_go c156_0 rfl
theorem c156_1 : mcode 156 1 = some (.iload_n 1, 1, 0, 0, 0) := rfl
theorem r156_1 : Rn 156 (1, [x0, some (.int i), x2, x3], st, a, h) = Rn 156 (2, [x0, some (.int i), x2, x3], .int i :: st, a, h) := Rn_go c156_1 rfl
theorem c156_2 : mcode 156 2 = some (.iconst 1, 1, 0, 0, 0) := rfl
theorem r156_2 : Rn 156 (2, [x0, x1, x2, x3], st, a, h) = Rn 156 (3, [x0, x1, x2, x3], .int (1 : Int32) :: st, a, h) := Rn_go c156_2 rfl
theorem c156_3 : mcode 156 3 = some (.invokevirtual 63, 3, 131, 2, 6) := rfl
theorem r156_3 : Rn 156 (3, [x0, x1, x2, x3], [v1, v0, .ref q], a, h) = if mis h q 6 = true then Bk 156 6 [x0, x1, x2, x3] [] (Ec 131 [.ref q, v0, v1] a h) else none := Rn_call1 c156_3 rfl (Nat.le_of_ble_eq_true rfl) rfl rfl (Nat.le_of_ble_eq_true rfl)
theorem c156_6 : mcode 156 6 = some (.istore_n 2, 1, 0, 0, 0) := rfl
theorem r156_6 : Rn 156 (6, [x0, x1, x2, x3], .int i :: st, a, h) = Nl x1 (Rn 156 (7, [x0, x1, some (.int i), x3], st, a, h)) := Rn_st1 (k := 2) (v := .int i) x1 c156_6 rfl rfl rfl rfl
theorem c156_7 : mcode 156 7 = some (.iconst 0, 1, 0, 0, 0) := rfl
theorem r156_7 : Rn 156 (7, [x0, x1, x2, x3], st, a, h) = Rn 156 (8, [x0, x1, x2, x3], .int (0 : Int32) :: st, a, h) := Rn_go c156_7 rfl
theorem c156_8 : mcode 156 8 = some (.bipush 7, 2, 0, 0, 0) := rfl
theorem r156_8 : Rn 156 (8, [x0, x1, x2, x3], st, a, h) = Rn 156 (10, [x0, x1, x2, x3], .int (7 : Int32) :: st, a, h) := Rn_go c156_8 rfl
theorem c156_10 : mcode 156 10 = some (.iload_n 2, 1, 0, 0, 0) := rfl
theorem r156_10 : Rn 156 (10, [x0, x1, some (.int i), x3], st, a, h) = Rn 156 (11, [x0, x1, some (.int i), x3], .int i :: st, a, h) := Rn_go c156_10 rfl
theorem c156_11 : mcode 156 11 = some (.aload_n 0, 1, 0, 0, 0) := rfl
theorem r156_11 : Rn 156 (11, [some (.ref q), x1, x2, x3], st, a, h) = Rn 156 (12, [some (.ref q), x1, x2, x3], .ref q :: st, a, h) := Rn_go c156_11 rfl
theorem c156_12 : mcode 156 12 = some (.iload_n 1, 1, 0, 0, 0) := rfl
theorem r156_12 : Rn 156 (12, [x0, some (.int i), x2, x3], st, a, h) = Rn 156 (13, [x0, some (.int i), x2, x3], .int i :: st, a, h) := Rn_go c156_12 rfl
theorem c156_13 : mcode 156 13 = some (.invokevirtual 106, 3, 148, 1, 6) := rfl
theorem r156_13 : Rn 156 (13, [x0, x1, x2, x3], [v0, .ref q, .int i0, .int i1, .int i2], a, h) = if mis h q 6 = true then Bk 156 16 [x0, x1, x2, x3] [.int i0, .int i1, .int i2] (Ec 148 [.ref q, v0] a h) else none := Rn_call1 c156_13 rfl (Nat.le_of_ble_eq_true rfl) rfl rfl (Nat.le_of_ble_eq_true rfl)
theorem c156_16 : mcode 156 16 = some (.isub, 1, 0, 0, 0) := rfl
theorem r156_16 : Rn 156 (16, [x0, x1, x2, x3], .int j :: .int i :: st, a, h) = Rn 156 (17, [x0, x1, x2, x3], .int (i - j) :: st, a, h) := Rn_go c156_16 rfl
theorem c156_17 : mcode 156 17 = some (.invokestatic 95, 3, 133, 2, 0) := rfl
theorem r156_17 : Rn 156 (17, [x0, x1, x2, x3], [v1, v0, .int i0], a, h) = Bk 156 20 [x0, x1, x2, x3] [.int i0] (Ec 133 [v0, v1] a h) := Rn_call0 c156_17 (fun z => nomatch z) rfl (Nat.le_of_ble_eq_true rfl) rfl rfl (Nat.le_of_ble_eq_true rfl)
theorem c156_20 : mcode 156 20 = some (.invokestatic 115, 3, 134, 2, 0) := rfl
theorem r156_20 : Rn 156 (20, [x0, x1, x2, x3], [v1, v0], a, h) = Bk 156 23 [x0, x1, x2, x3] [] (Ec 134 [v0, v1] a h) := Rn_call0 c156_20 (fun z => nomatch z) rfl (Nat.le_of_ble_eq_true rfl) rfl rfl (Nat.le_of_ble_eq_true rfl)
theorem c156_23 : mcode 156 23 = some (.istore_n 3, 1, 0, 0, 0) := rfl
theorem r156_23 : Rn 156 (23, [x0, x1, x2, x3], .int i :: st, a, h) = Nl x2 (Rn 156 (24, [x0, x1, x2, some (.int i)], st, a, h)) := Rn_st1 (k := 3) (v := .int i) x2 c156_23 rfl rfl rfl rfl
theorem c156_24 : mcode 156 24 = some (.aload_n 0, 1, 0, 0, 0) := rfl
theorem r156_24 : Rn 156 (24, [some (.ref q), x1, x2, x3], st, a, h) = Rn 156 (25, [some (.ref q), x1, x2, x3], .ref q :: st, a, h) := Rn_go c156_24 rfl
theorem c156_25 : mcode 156 25 = some (.getfield 7, 3, 6, 0, 0) := rfl
theorem r156_25 : Rn 156 (25, [x0, x1, x2, x3], .ref q :: st, a, h) = Kv 156 28 [x0, x1, x2, x3] st a h (mgf h q 6 0) := Rn_getf c156_25 rfl
theorem c156_28 : mcode 156 28 = some (.iload_n 1, 1, 0, 0, 0) := rfl
theorem r156_28 : Rn 156 (28, [x0, some (.int i), x2, x3], st, a, h) = Rn 156 (29, [x0, some (.int i), x2, x3], .int i :: st, a, h) := Rn_go c156_28 rfl
theorem c156_29 : mcode 156 29 = some (.iconst 1, 1, 0, 0, 0) := rfl
theorem r156_29 : Rn 156 (29, [x0, x1, x2, x3], st, a, h) = Rn 156 (30, [x0, x1, x2, x3], .int (1 : Int32) :: st, a, h) := Rn_go c156_29 rfl
theorem c156_30 : mcode 156 30 = some (.invokestatic 79, 3, 130, 2, 0) := rfl
theorem r156_30 : Rn 156 (30, [x0, x1, x2, x3], [v1, v0, .ref q0], a, h) = Bk 156 33 [x0, x1, x2, x3] [.ref q0] (Ec 130 [v0, v1] a h) := Rn_call0 c156_30 (fun z => nomatch z) rfl (Nat.le_of_ble_eq_true rfl) rfl rfl (Nat.le_of_ble_eq_true rfl)
theorem c156_33 : mcode 156 33 = some (.iload_n 3, 1, 0, 0, 0) := rfl
theorem r156_33 : Rn 156 (33, [x0, x1, x2, some (.int i)], st, a, h) = Rn 156 (34, [x0, x1, x2, some (.int i)], .int i :: st, a, h) := Rn_go c156_33 rfl
theorem c156_34 : mcode 156 34 = some (.iastore, 1, 0, 0, 0) := rfl
theorem r156_34 : Rn 156 (34, [x0, x1, x2, x3], .int j :: .int i :: .ref q :: st, a, h) = Kh 156 35 [x0, x1, x2, x3] st a (mias h q i j) := Rn_iast c156_34 rfl
theorem c156_35 : mcode 156 35 = some (.aload_n 0, 1, 0, 0, 0) := rfl
theorem r156_35 : Rn 156 (35, [some (.ref q), x1, x2, x3], st, a, h) = Rn 156 (36, [some (.ref q), x1, x2, x3], .ref q :: st, a, h) := Rn_go c156_35 rfl
theorem c156_36 : mcode 156 36 = some (.getfield 7, 3, 6, 0, 0) := rfl
theorem r156_36 : Rn 156 (36, [x0, x1, x2, x3], .ref q :: st, a, h) = Kv 156 39 [x0, x1, x2, x3] st a h (mgf h q 6 0) := Rn_getf c156_36 rfl
theorem c156_39 : mcode 156 39 = some (.iload_n 1, 1, 0, 0, 0) := rfl
theorem r156_39 : Rn 156 (39, [x0, some (.int i), x2, x3], st, a, h) = Rn 156 (40, [x0, some (.int i), x2, x3], .int i :: st, a, h) := Rn_go c156_39 rfl
theorem c156_40 : mcode 156 40 = some (.iconst 5, 1, 0, 0, 0) := rfl
theorem r156_40 : Rn 156 (40, [x0, x1, x2, x3], st, a, h) = Rn 156 (41, [x0, x1, x2, x3], .int (5 : Int32) :: st, a, h) := Rn_go c156_40 rfl
theorem c156_41 : mcode 156 41 = some (.invokestatic 79, 3, 130, 2, 0) := rfl
theorem r156_41 : Rn 156 (41, [x0, x1, x2, x3], [v1, v0, .ref q0], a, h) = Bk 156 44 [x0, x1, x2, x3] [.ref q0] (Ec 130 [v0, v1] a h) := Rn_call0 c156_41 (fun z => nomatch z) rfl (Nat.le_of_ble_eq_true rfl) rfl rfl (Nat.le_of_ble_eq_true rfl)
theorem c156_44 : mcode 156 44 = some (.iload_n 2, 1, 0, 0, 0) := rfl
theorem r156_44 : Rn 156 (44, [x0, x1, some (.int i), x3], st, a, h) = Rn 156 (45, [x0, x1, some (.int i), x3], .int i :: st, a, h) := Rn_go c156_44 rfl
theorem c156_45 : mcode 156 45 = some (.ifCond .le 24, 3, 0, 0, 0) := rfl
theorem r156_45 : Rn 156 (45, [x0, x1, x2, x3], .int i :: st, a, h) = if 0 < i then Rn 156 (48, [x0, x1, x2, x3], st, a, h) else Rn 156 (69, [x0, x1, x2, x3], st, a, h) := Rn_ifcn c156_45 mc_le rfl rfl
theorem c156_48 : mcode 156 48 = some (.iload_n 3, 1, 0, 0, 0) := rfl
theorem r156_48 : Rn 156 (48, [x0, x1, x2, some (.int i)], st, a, h) = Rn 156 (49, [x0, x1, x2, some (.int i)], .int i :: st, a, h) := Rn_go c156_48 rfl
theorem c156_49 : mcode 156 49 = some (.ifCond .ne 20, 3, 0, 0, 0) := rfl
theorem r156_49 : Rn 156 (49, [x0, x1, x2, x3], .int i :: st, a, h) = if i = 0 then Rn 156 (52, [x0, x1, x2, x3], st, a, h) else Rn 156 (69, [x0, x1, x2, x3], st, a, h) := Rn_ifcn c156_49 mc_ne rfl rfl
theorem c156_52 : mcode 156 52 = some (.sipush 999, 3, 0, 0, 0) := rfl
theorem r156_52 : Rn 156 (52, [x0, x1, x2, x3], st, a, h) = Rn 156 (55, [x0, x1, x2, x3], .int (999 : Int32) :: st, a, h) := Rn_go c156_52 rfl
theorem c156_55 : mcode 156 55 = some (.aload_n 0, 1, 0, 0, 0) := rfl
theorem r156_55 : Rn 156 (55, [some (.ref q), x1, x2, x3], st, a, h) = Rn 156 (56, [some (.ref q), x1, x2, x3], .ref q :: st, a, h) := Rn_go c156_55 rfl
theorem c156_56 : mcode 156 56 = some (.iload_n 1, 1, 0, 0, 0) := rfl
theorem r156_56 : Rn 156 (56, [x0, some (.int i), x2, x3], st, a, h) = Rn 156 (57, [x0, some (.int i), x2, x3], .int i :: st, a, h) := Rn_go c156_56 rfl
theorem c156_57 : mcode 156 57 = some (.iconst 5, 1, 0, 0, 0) := rfl
theorem r156_57 : Rn 156 (57, [x0, x1, x2, x3], st, a, h) = Rn 156 (58, [x0, x1, x2, x3], .int (5 : Int32) :: st, a, h) := Rn_go c156_57 rfl
theorem c156_58 : mcode 156 58 = some (.invokevirtual 63, 3, 131, 2, 6) := rfl
theorem r156_58 : Rn 156 (58, [x0, x1, x2, x3], [v1, v0, .ref q, .int i0, .int i1, .ref q2], a, h) = if mis h q 6 = true then Bk 156 61 [x0, x1, x2, x3] [.int i0, .int i1, .ref q2] (Ec 131 [.ref q, v0, v1] a h) else none := Rn_call1 c156_58 rfl (Nat.le_of_ble_eq_true rfl) rfl rfl (Nat.le_of_ble_eq_true rfl)
theorem c156_61 : mcode 156 61 = some (.iconst 1, 1, 0, 0, 0) := rfl
theorem r156_61 : Rn 156 (61, [x0, x1, x2, x3], st, a, h) = Rn 156 (62, [x0, x1, x2, x3], .int (1 : Int32) :: st, a, h) := Rn_go c156_61 rfl
theorem c156_62 : mcode 156 62 = some (.iadd, 1, 0, 0, 0) := rfl
theorem r156_62 : Rn 156 (62, [x0, x1, x2, x3], .int j :: .int i :: st, a, h) = Rn 156 (63, [x0, x1, x2, x3], .int (i + j) :: st, a, h) := Rn_go c156_62 rfl
theorem c156_63 : mcode 156 63 = some (.invokestatic 95, 3, 133, 2, 0) := rfl
theorem r156_63 : Rn 156 (63, [x0, x1, x2, x3], [v1, v0, .int i0, .ref q1], a, h) = Bk 156 66 [x0, x1, x2, x3] [.int i0, .ref q1] (Ec 133 [v0, v1] a h) := Rn_call0 c156_63 (fun z => nomatch z) rfl (Nat.le_of_ble_eq_true rfl) rfl rfl (Nat.le_of_ble_eq_true rfl)
theorem c156_66 : mcode 156 66 = some (.goto 9, 3, 0, 0, 0) := rfl
theorem r156_66 : Rn 156 (66, [x0, x1, x2, x3], st, a, h) = Rn 156 (75, [x0, x1, x2, x3], st, a, h) := Rn_goto c156_66 rfl
theorem c156_69 : mcode 156 69 = some (.aload_n 0, 1, 0, 0, 0) := rfl
theorem r156_69 : Rn 156 (69, [some (.ref q), x1, x2, x3], st, a, h) = Rn 156 (70, [some (.ref q), x1, x2, x3], .ref q :: st, a, h) := Rn_go c156_69 rfl
theorem c156_70 : mcode 156 70 = some (.iload_n 1, 1, 0, 0, 0) := rfl
theorem r156_70 : Rn 156 (70, [x0, some (.int i), x2, x3], st, a, h) = Rn 156 (71, [x0, some (.int i), x2, x3], .int i :: st, a, h) := Rn_go c156_70 rfl
theorem c156_71 : mcode 156 71 = some (.iconst 5, 1, 0, 0, 0) := rfl
theorem r156_71 : Rn 156 (71, [x0, x1, x2, x3], st, a, h) = Rn 156 (72, [x0, x1, x2, x3], .int (5 : Int32) :: st, a, h) := Rn_go c156_71 rfl
theorem c156_72 : mcode 156 72 = some (.invokevirtual 63, 3, 131, 2, 6) := rfl
theorem r156_72 : Rn 156 (72, [x0, x1, x2, x3], [v1, v0, .ref q, .int i0, .ref q1], a, h) = if mis h q 6 = true then Bk 156 75 [x0, x1, x2, x3] [.int i0, .ref q1] (Ec 131 [.ref q, v0, v1] a h) else none := Rn_call1 c156_72 rfl (Nat.le_of_ble_eq_true rfl) rfl rfl (Nat.le_of_ble_eq_true rfl)
theorem c156_75 : mcode 156 75 = some (.iastore, 1, 0, 0, 0) := rfl
theorem r156_75 : Rn 156 (75, [x0, x1, x2, x3], .int j :: .int i :: .ref q :: st, a, h) = Kh 156 76 [x0, x1, x2, x3] st a (mias h q i j) := Rn_iast c156_75 rfl
theorem c156_76 : mcode 156 76 = some (.aload_n 0, 1, 0, 0, 0) := rfl
theorem r156_76 : Rn 156 (76, [some (.ref q), x1, x2, x3], st, a, h) = Rn 156 (77, [some (.ref q), x1, x2, x3], .ref q :: st, a, h) := Rn_go c156_76 rfl
theorem c156_77 : mcode 156 77 = some (.getfield 7, 3, 6, 0, 0) := rfl
theorem r156_77 : Rn 156 (77, [x0, x1, x2, x3], .ref q :: st, a, h) = Kv 156 80 [x0, x1, x2, x3] st a h (mgf h q 6 0) := Rn_getf c156_77 rfl
theorem c156_80 : mcode 156 80 = some (.iload_n 1, 1, 0, 0, 0) := rfl
theorem r156_80 : Rn 156 (80, [x0, some (.int i), x2, x3], st, a, h) = Rn 156 (81, [x0, some (.int i), x2, x3], .int i :: st, a, h) := Rn_go c156_80 rfl
theorem c156_81 : mcode 156 81 = some (.iconst 4, 1, 0, 0, 0) := rfl
theorem r156_81 : Rn 156 (81, [x0, x1, x2, x3], st, a, h) = Rn 156 (82, [x0, x1, x2, x3], .int (4 : Int32) :: st, a, h) := Rn_go c156_81 rfl
theorem c156_82 : mcode 156 82 = some (.invokestatic 79, 3, 130, 2, 0) := rfl
theorem r156_82 : Rn 156 (82, [x0, x1, x2, x3], [v1, v0, .ref q0], a, h) = Bk 156 85 [x0, x1, x2, x3] [.ref q0] (Ec 130 [v0, v1] a h) := Rn_call0 c156_82 (fun z => nomatch z) rfl (Nat.le_of_ble_eq_true rfl) rfl rfl (Nat.le_of_ble_eq_true rfl)
theorem c156_85 : mcode 156 85 = some (.sipush 999, 3, 0, 0, 0) := rfl
theorem r156_85 : Rn 156 (85, [x0, x1, x2, x3], st, a, h) = Rn 156 (88, [x0, x1, x2, x3], .int (999 : Int32) :: st, a, h) := Rn_go c156_85 rfl
theorem c156_88 : mcode 156 88 = some (.aload_n 0, 1, 0, 0, 0) := rfl
theorem r156_88 : Rn 156 (88, [some (.ref q), x1, x2, x3], st, a, h) = Rn 156 (89, [some (.ref q), x1, x2, x3], .ref q :: st, a, h) := Rn_go c156_88 rfl
theorem c156_89 : mcode 156 89 = some (.iload_n 1, 1, 0, 0, 0) := rfl
theorem r156_89 : Rn 156 (89, [x0, some (.int i), x2, x3], st, a, h) = Rn 156 (90, [x0, some (.int i), x2, x3], .int i :: st, a, h) := Rn_go c156_89 rfl
theorem c156_90 : mcode 156 90 = some (.iconst 4, 1, 0, 0, 0) := rfl
theorem r156_90 : Rn 156 (90, [x0, x1, x2, x3], st, a, h) = Rn 156 (91, [x0, x1, x2, x3], .int (4 : Int32) :: st, a, h) := Rn_go c156_90 rfl
theorem c156_91 : mcode 156 91 = some (.invokevirtual 63, 3, 131, 2, 6) := rfl
theorem r156_91 : Rn 156 (91, [x0, x1, x2, x3], [v1, v0, .ref q, .int i0, .int i1, .ref q2], a, h) = if mis h q 6 = true then Bk 156 94 [x0, x1, x2, x3] [.int i0, .int i1, .ref q2] (Ec 131 [.ref q, v0, v1] a h) else none := Rn_call1 c156_91 rfl (Nat.le_of_ble_eq_true rfl) rfl rfl (Nat.le_of_ble_eq_true rfl)
theorem c156_94 : mcode 156 94 = some (.iconst 1, 1, 0, 0, 0) := rfl
theorem r156_94 : Rn 156 (94, [x0, x1, x2, x3], st, a, h) = Rn 156 (95, [x0, x1, x2, x3], .int (1 : Int32) :: st, a, h) := Rn_go c156_94 rfl
theorem c156_95 : mcode 156 95 = some (.iadd, 1, 0, 0, 0) := rfl
theorem r156_95 : Rn 156 (95, [x0, x1, x2, x3], .int j :: .int i :: st, a, h) = Rn 156 (96, [x0, x1, x2, x3], .int (i + j) :: st, a, h) := Rn_go c156_95 rfl
theorem c156_96 : mcode 156 96 = some (.invokestatic 95, 3, 133, 2, 0) := rfl
theorem r156_96 : Rn 156 (96, [x0, x1, x2, x3], [v1, v0, .int i0, .ref q1], a, h) = Bk 156 99 [x0, x1, x2, x3] [.int i0, .ref q1] (Ec 133 [v0, v1] a h) := Rn_call0 c156_96 (fun z => nomatch z) rfl (Nat.le_of_ble_eq_true rfl) rfl rfl (Nat.le_of_ble_eq_true rfl)
theorem c156_99 : mcode 156 99 = some (.iastore, 1, 0, 0, 0) := rfl
theorem r156_99 : Rn 156 (99, [x0, x1, x2, x3], .int j :: .int i :: .ref q :: st, a, h) = Kh 156 100 [x0, x1, x2, x3] st a (mias h q i j) := Rn_iast c156_99 rfl
theorem c156_100 : mcode 156 100 = some (.return_, 1, 0, 0, 0) := rfl
theorem r156_100 : Rn 156 (100, [x0, x1, x2, x3], [], a, h) = some (none, a, h) := Rn_act c156_100
theorem c157_0 : mcode 157 0 = some (.iconst 0, 1, 0, 0, 0) := rfl
theorem r157_0 : Rn 157 (0, [x0, x1, x2], st, a, h) = Rn 157 (1, [x0, x1, x2], .int (0 : Int32) :: st, a, h) := Rn_go c157_0 rfl
theorem c157_1 : mcode 157 1 = some (.istore_n 2, 1, 0, 0, 0) := rfl
theorem r157_1 : Rn 157 (1, [x0, x1, x2], .int i :: st, a, h) = Nl x1 (Rn 157 (2, [x0, x1, some (.int i)], st, a, h)) := Rn_st1 (k := 2) (v := .int i) x1 c157_1 rfl rfl rfl rfl
theorem c157_2 : mcode 157 2 = some (.iload_n 2, 1, 0, 0, 0) := rfl
theorem r157_2 : Rn 157 (2, [x0, x1, some (.int i)], st, a, h) = Rn 157 (3, [x0, x1, some (.int i)], .int i :: st, a, h) := Rn_go c157_2 rfl
theorem c157_3 : mcode 157 3 = some (.aload_n 0, 1, 0, 0, 0) := rfl
theorem r157_3 : Rn 157 (3, [some (.ref q), x1, x2], st, a, h) = Rn 157 (4, [some (.ref q), x1, x2], .ref q :: st, a, h) := Rn_go c157_3 rfl
theorem c157_4 : mcode 157 4 = some (.getfield 7, 3, 6, 0, 0) := rfl
theorem r157_4 : Rn 157 (4, [x0, x1, x2], .ref q :: st, a, h) = Kv 157 7 [x0, x1, x2] st a h (mgf h q 6 0) := Rn_getf c157_4 rfl
theorem c157_7 : mcode 157 7 = some (.iconst 0, 1, 0, 0, 0) := rfl
theorem r157_7 : Rn 157 (7, [x0, x1, x2], st, a, h) = Rn 157 (8, [x0, x1, x2], .int (0 : Int32) :: st, a, h) := Rn_go c157_7 rfl
theorem c157_8 : mcode 157 8 = some (.iaload, 1, 0, 0, 0) := rfl
theorem r157_8 : Rn 157 (8, [x0, x1, x2], .int i :: .ref q :: st, a, h) = Ki 157 9 [x0, x1, x2] st a h (mld h q i false) := Rn_iald c157_8 rfl
theorem c157_9 : mcode 157 9 = some (.if_icmp .ge 22, 3, 0, 0, 0) := rfl
theorem r157_9 : Rn 157 (9, [x0, x1, x2], .int j :: .int i :: st, a, h) = if i < j then Rn 157 (12, [x0, x1, x2], st, a, h) else Rn 157 (31, [x0, x1, x2], st, a, h) := Rn_icmpn c157_9 mc_ge rfl rfl
theorem c157_12 : mcode 157 12 = some (.iload_n 1, 1, 0, 0, 0) := rfl
theorem r157_12 : Rn 157 (12, [x0, some (.int i), x2], st, a, h) = Rn 157 (13, [x0, some (.int i), x2], .int i :: st, a, h) := Rn_go c157_12 rfl
theorem c157_13 : mcode 157 13 = some (.iload_n 2, 1, 0, 0, 0) := rfl
theorem r157_13 : Rn 157 (13, [x0, x1, some (.int i)], st, a, h) = Rn 157 (14, [x0, x1, some (.int i)], .int i :: st, a, h) := Rn_go c157_13 rfl
theorem c157_14 : mcode 157 14 = some (.ishr, 1, 0, 0, 0) := rfl
theorem r157_14 : Rn 157 (14, [x0, x1, x2], .int j :: .int i :: st, a, h) = Rn 157 (15, [x0, x1, x2], .int (i >>> (j &&& 31)) :: st, a, h) := Rn_go c157_14 rfl
theorem c157_15 : mcode 157 15 = some (.iconst 1, 1, 0, 0, 0) := rfl
theorem r157_15 : Rn 157 (15, [x0, x1, x2], st, a, h) = Rn 157 (16, [x0, x1, x2], .int (1 : Int32) :: st, a, h) := Rn_go c157_15 rfl
theorem c157_16 : mcode 157 16 = some (.iand, 1, 0, 0, 0) := rfl
theorem r157_16 : Rn 157 (16, [x0, x1, x2], .int j :: .int i :: st, a, h) = Rn 157 (17, [x0, x1, x2], .int (i &&& j) :: st, a, h) := Rn_go c157_16 rfl
theorem c157_17 : mcode 157 17 = some (.ifCond .ne 8, 3, 0, 0, 0) := rfl
theorem r157_17 : Rn 157 (17, [x0, x1, x2], .int i :: st, a, h) = if i = 0 then Rn 157 (20, [x0, x1, x2], st, a, h) else Rn 157 (25, [x0, x1, x2], st, a, h) := Rn_ifcn c157_17 mc_ne rfl rfl
theorem c157_20 : mcode 157 20 = some (.aload_n 0, 1, 0, 0, 0) := rfl
theorem r157_20 : Rn 157 (20, [some (.ref q), x1, x2], st, a, h) = Rn 157 (21, [some (.ref q), x1, x2], .ref q :: st, a, h) := Rn_go c157_20 rfl
theorem c157_21 : mcode 157 21 = some (.iload_n 2, 1, 0, 0, 0) := rfl
theorem r157_21 : Rn 157 (21, [x0, x1, some (.int i)], st, a, h) = Rn 157 (22, [x0, x1, some (.int i)], .int i :: st, a, h) := Rn_go c157_21 rfl
theorem c157_22 : mcode 157 22 = some (.invokevirtual 118, 3, 153, 1, 6) := rfl
theorem r157_22 : Rn 157 (22, [x0, x1, x2], [v0, .ref q], a, h) = if mis h q 6 = true then Bk 157 25 [x0, x1, x2] [] (Ec 153 [.ref q, v0] a h) else none := Rn_call1 c157_22 rfl (Nat.le_of_ble_eq_true rfl) rfl rfl (Nat.le_of_ble_eq_true rfl)
theorem c157_25 : mcode 157 25 = some (.iinc 2 1, 3, 0, 0, 0) := rfl
theorem r157_25 : Rn 157 (25, [x0, x1, some (.int i)], st, a, h) = Nl x1 (Rn 157 (28, [x0, x1, some (.int (i + (1 : Int32)))], st, a, h)) := Rn_st1 (k := 2) (v := .int (i + (1 : Int32))) x1 c157_25 rfl rfl rfl rfl
theorem c157_28 : mcode 157 28 = some (.goto (-26), 3, 0, 0, 0) := rfl
theorem r157_28 : Rn 157 (28, [x0, x1, x2], st, a, h) = Rn 157 (2, [x0, x1, x2], st, a, h) := Rn_goto c157_28 rfl
theorem c157_31 : mcode 157 31 = some (.aload_n 0, 1, 0, 0, 0) := rfl
theorem r157_31 : Rn 157 (31, [some (.ref q), x1, x2], st, a, h) = Rn 157 (32, [some (.ref q), x1, x2], .ref q :: st, a, h) := Rn_go c157_31 rfl
theorem c157_32 : mcode 157 32 = some (.invokevirtual 122, 3, 154, 0, 6) := rfl
theorem r157_32 : Rn 157 (32, [x0, x1, x2], [.ref q], a, h) = if mis h q 6 = true then Bk 157 35 [x0, x1, x2] [] (Ec 154 [.ref q] a h) else none := Rn_call1 c157_32 rfl (Nat.le_of_ble_eq_true rfl) rfl rfl (Nat.le_of_ble_eq_true rfl)
theorem c157_35 : mcode 157 35 = some (.iconst 0, 1, 0, 0, 0) := rfl
theorem r157_35 : Rn 157 (35, [x0, x1, x2], st, a, h) = Rn 157 (36, [x0, x1, x2], .int (0 : Int32) :: st, a, h) := Rn_go c157_35 rfl
theorem c157_36 : mcode 157 36 = some (.istore_n 2, 1, 0, 0, 0) := rfl
theorem r157_36 : Rn 157 (36, [x0, x1, x2], .int i :: st, a, h) = Nl x1 (Rn 157 (37, [x0, x1, some (.int i)], st, a, h)) := Rn_st1 (k := 2) (v := .int i) x1 c157_36 rfl rfl rfl rfl
theorem c157_37 : mcode 157 37 = some (.iload_n 2, 1, 0, 0, 0) := rfl
theorem r157_37 : Rn 157 (37, [x0, x1, some (.int i)], st, a, h) = Rn 157 (38, [x0, x1, some (.int i)], .int i :: st, a, h) := Rn_go c157_37 rfl
theorem c157_38 : mcode 157 38 = some (.aload_n 0, 1, 0, 0, 0) := rfl
theorem r157_38 : Rn 157 (38, [some (.ref q), x1, x2], st, a, h) = Rn 157 (39, [some (.ref q), x1, x2], .ref q :: st, a, h) := Rn_go c157_38 rfl
theorem c157_39 : mcode 157 39 = some (.getfield 7, 3, 6, 0, 0) := rfl
theorem r157_39 : Rn 157 (39, [x0, x1, x2], .ref q :: st, a, h) = Kv 157 42 [x0, x1, x2] st a h (mgf h q 6 0) := Rn_getf c157_39 rfl
theorem c157_42 : mcode 157 42 = some (.iconst 0, 1, 0, 0, 0) := rfl
theorem r157_42 : Rn 157 (42, [x0, x1, x2], st, a, h) = Rn 157 (43, [x0, x1, x2], .int (0 : Int32) :: st, a, h) := Rn_go c157_42 rfl
theorem c157_43 : mcode 157 43 = some (.iaload, 1, 0, 0, 0) := rfl
theorem r157_43 : Rn 157 (43, [x0, x1, x2], .int i :: .ref q :: st, a, h) = Ki 157 44 [x0, x1, x2] st a h (mld h q i false) := Rn_iald c157_43 rfl
theorem c157_44 : mcode 157 44 = some (.if_icmp .ge 14, 3, 0, 0, 0) := rfl
theorem r157_44 : Rn 157 (44, [x0, x1, x2], .int j :: .int i :: st, a, h) = if i < j then Rn 157 (47, [x0, x1, x2], st, a, h) else Rn 157 (58, [x0, x1, x2], st, a, h) := Rn_icmpn c157_44 mc_ge rfl rfl
theorem c157_47 : mcode 157 47 = some (.aload_n 0, 1, 0, 0, 0) := rfl
theorem r157_47 : Rn 157 (47, [some (.ref q), x1, x2], st, a, h) = Rn 157 (48, [some (.ref q), x1, x2], .ref q :: st, a, h) := Rn_go c157_47 rfl
theorem c157_48 : mcode 157 48 = some (.iload_n 2, 1, 0, 0, 0) := rfl
theorem r157_48 : Rn 157 (48, [x0, x1, some (.int i)], st, a, h) = Rn 157 (49, [x0, x1, some (.int i)], .int i :: st, a, h) := Rn_go c157_48 rfl
theorem c157_49 : mcode 157 49 = some (.invokevirtual 125, 3, 155, 1, 6) := rfl
theorem r157_49 : Rn 157 (49, [x0, x1, x2], [v0, .ref q], a, h) = if mis h q 6 = true then Bk 157 52 [x0, x1, x2] [] (Ec 155 [.ref q, v0] a h) else none := Rn_call1 c157_49 rfl (Nat.le_of_ble_eq_true rfl) rfl rfl (Nat.le_of_ble_eq_true rfl)
theorem c157_52 : mcode 157 52 = some (.iinc 2 1, 3, 0, 0, 0) := rfl
theorem r157_52 : Rn 157 (52, [x0, x1, some (.int i)], st, a, h) = Nl x1 (Rn 157 (55, [x0, x1, some (.int (i + (1 : Int32)))], st, a, h)) := Rn_st1 (k := 2) (v := .int (i + (1 : Int32))) x1 c157_52 rfl rfl rfl rfl
theorem c157_55 : mcode 157 55 = some (.goto (-18), 3, 0, 0, 0) := rfl
theorem r157_55 : Rn 157 (55, [x0, x1, x2], st, a, h) = Rn 157 (37, [x0, x1, x2], st, a, h) := Rn_goto c157_55 rfl
theorem c157_58 : mcode 157 58 = some (.iconst 0, 1, 0, 0, 0) := rfl
theorem r157_58 : Rn 157 (58, [x0, x1, x2], st, a, h) = Rn 157 (59, [x0, x1, x2], .int (0 : Int32) :: st, a, h) := Rn_go c157_58 rfl
theorem c157_59 : mcode 157 59 = some (.istore_n 2, 1, 0, 0, 0) := rfl
theorem r157_59 : Rn 157 (59, [x0, x1, x2], .int i :: st, a, h) = Nl x1 (Rn 157 (60, [x0, x1, some (.int i)], st, a, h)) := Rn_st1 (k := 2) (v := .int i) x1 c157_59 rfl rfl rfl rfl
theorem c157_60 : mcode 157 60 = some (.iload_n 2, 1, 0, 0, 0) := rfl
theorem r157_60 : Rn 157 (60, [x0, x1, some (.int i)], st, a, h) = Rn 157 (61, [x0, x1, some (.int i)], .int i :: st, a, h) := Rn_go c157_60 rfl
theorem c157_61 : mcode 157 61 = some (.aload_n 0, 1, 0, 0, 0) := rfl
theorem r157_61 : Rn 157 (61, [some (.ref q), x1, x2], st, a, h) = Rn 157 (62, [some (.ref q), x1, x2], .ref q :: st, a, h) := Rn_go c157_61 rfl
theorem c157_62 : mcode 157 62 = some (.getfield 7, 3, 6, 0, 0) := rfl
theorem r157_62 : Rn 157 (62, [x0, x1, x2], .ref q :: st, a, h) = Kv 157 65 [x0, x1, x2] st a h (mgf h q 6 0) := Rn_getf c157_62 rfl
theorem c157_65 : mcode 157 65 = some (.iconst 0, 1, 0, 0, 0) := rfl
theorem r157_65 : Rn 157 (65, [x0, x1, x2], st, a, h) = Rn 157 (66, [x0, x1, x2], .int (0 : Int32) :: st, a, h) := Rn_go c157_65 rfl
theorem c157_66 : mcode 157 66 = some (.iaload, 1, 0, 0, 0) := rfl
theorem r157_66 : Rn 157 (66, [x0, x1, x2], .int i :: .ref q :: st, a, h) = Ki 157 67 [x0, x1, x2] st a h (mld h q i false) := Rn_iald c157_66 rfl
theorem c157_67 : mcode 157 67 = some (.if_icmp .ge 14, 3, 0, 0, 0) := rfl
theorem r157_67 : Rn 157 (67, [x0, x1, x2], .int j :: .int i :: st, a, h) = if i < j then Rn 157 (70, [x0, x1, x2], st, a, h) else Rn 157 (81, [x0, x1, x2], st, a, h) := Rn_icmpn c157_67 mc_ge rfl rfl
theorem c157_70 : mcode 157 70 = some (.aload_n 0, 1, 0, 0, 0) := rfl
theorem r157_70 : Rn 157 (70, [some (.ref q), x1, x2], st, a, h) = Rn 157 (71, [some (.ref q), x1, x2], .ref q :: st, a, h) := Rn_go c157_70 rfl
theorem c157_71 : mcode 157 71 = some (.iload_n 2, 1, 0, 0, 0) := rfl
theorem r157_71 : Rn 157 (71, [x0, x1, some (.int i)], st, a, h) = Rn 157 (72, [x0, x1, some (.int i)], .int i :: st, a, h) := Rn_go c157_71 rfl
theorem c157_72 : mcode 157 72 = some (.invokevirtual 128, 3, 156, 1, 6) := rfl
theorem r157_72 : Rn 157 (72, [x0, x1, x2], [v0, .ref q], a, h) = if mis h q 6 = true then Bk 157 75 [x0, x1, x2] [] (Ec 156 [.ref q, v0] a h) else none := Rn_call1 c157_72 rfl (Nat.le_of_ble_eq_true rfl) rfl rfl (Nat.le_of_ble_eq_true rfl)
theorem c157_75 : mcode 157 75 = some (.iinc 2 1, 3, 0, 0, 0) := rfl
theorem r157_75 : Rn 157 (75, [x0, x1, some (.int i)], st, a, h) = Nl x1 (Rn 157 (78, [x0, x1, some (.int (i + (1 : Int32)))], st, a, h)) := Rn_st1 (k := 2) (v := .int (i + (1 : Int32))) x1 c157_75 rfl rfl rfl rfl
theorem c157_78 : mcode 157 78 = some (.goto (-18), 3, 0, 0, 0) := rfl
theorem r157_78 : Rn 157 (78, [x0, x1, x2], st, a, h) = Rn 157 (60, [x0, x1, x2], st, a, h) := Rn_goto c157_78 rfl
theorem c157_81 : mcode 157 81 = some (.aload_n 0, 1, 0, 0, 0) := rfl
theorem r157_81 : Rn 157 (81, [some (.ref q), x1, x2], st, a, h) = Rn 157 (82, [some (.ref q), x1, x2], .ref q :: st, a, h) := Rn_go c157_81 rfl
theorem c157_82 : mcode 157 82 = some (.getfield 7, 3, 6, 0, 0) := rfl
theorem r157_82 : Rn 157 (82, [x0, x1, x2], .ref q :: st, a, h) = Kv 157 85 [x0, x1, x2] st a h (mgf h q 6 0) := Rn_getf c157_82 rfl
theorem c157_85 : mcode 157 85 = some (.iconst 1, 1, 0, 0, 0) := rfl
theorem r157_85 : Rn 157 (85, [x0, x1, x2], st, a, h) = Rn 157 (86, [x0, x1, x2], .int (1 : Int32) :: st, a, h) := Rn_go c157_85 rfl
theorem c157_86 : mcode 157 86 = some (.dup2, 1, 0, 0, 0) := rfl
theorem r157_86 : Rn 157 (86, [x0, x1, x2], .int i :: .ref p :: st, a, h) = Rn 157 (87, [x0, x1, x2], .int i :: .ref p :: .int i :: .ref p :: st, a, h) := Rn_go c157_86 rfl
theorem c157_87 : mcode 157 87 = some (.iaload, 1, 0, 0, 0) := rfl
theorem r157_87 : Rn 157 (87, [x0, x1, x2], .int i :: .ref q :: st, a, h) = Ki 157 88 [x0, x1, x2] st a h (mld h q i false) := Rn_iald c157_87 rfl
theorem c157_88 : mcode 157 88 = some (.iconst 1, 1, 0, 0, 0) := rfl
theorem r157_88 : Rn 157 (88, [x0, x1, x2], st, a, h) = Rn 157 (89, [x0, x1, x2], .int (1 : Int32) :: st, a, h) := Rn_go c157_88 rfl
theorem c157_89 : mcode 157 89 = some (.iadd, 1, 0, 0, 0) := rfl
theorem r157_89 : Rn 157 (89, [x0, x1, x2], .int j :: .int i :: st, a, h) = Rn 157 (90, [x0, x1, x2], .int (i + j) :: st, a, h) := Rn_go c157_89 rfl
theorem c157_90 : mcode 157 90 = some (.iastore, 1, 0, 0, 0) := rfl
theorem r157_90 : Rn 157 (90, [x0, x1, x2], .int j :: .int i :: .ref q :: st, a, h) = Kh 157 91 [x0, x1, x2] st a (mias h q i j) := Rn_iast c157_90 rfl
theorem c157_91 : mcode 157 91 = some (.return_, 1, 0, 0, 0) := rfl
theorem r157_91 : Rn 157 (91, [x0, x1, x2], [], a, h) = some (none, a, h) := Rn_act c157_91
theorem c158_0 : mcode 158 0 = some (.iconst 0, 1, 0, 0, 0) := rfl
theorem r158_0 : Rn 158 (0, [x0, x1, x2], st, a, h) = Rn 158 (1, [x0, x1, x2], .int (0 : Int32) :: st, a, h) := Rn_go c158_0 rfl
theorem c158_1 : mcode 158 1 = some (.istore_n 2, 1, 0, 0, 0) := rfl
theorem r158_1 : Rn 158 (1, [x0, x1, x2], .int i :: st, a, h) = Nl x1 (Rn 158 (2, [x0, x1, some (.int i)], st, a, h)) := Rn_st1 (k := 2) (v := .int i) x1 c158_1 rfl rfl rfl rfl
theorem c158_2 : mcode 158 2 = some (.iload_n 2, 1, 0, 0, 0) := rfl
theorem r158_2 : Rn 158 (2, [x0, x1, some (.int i)], st, a, h) = Rn 158 (3, [x0, x1, some (.int i)], .int i :: st, a, h) := Rn_go c158_2 rfl
theorem c158_3 : mcode 158 3 = some (.iload_n 1, 1, 0, 0, 0) := rfl
theorem r158_3 : Rn 158 (3, [x0, some (.int i), x2], st, a, h) = Rn 158 (4, [x0, some (.int i), x2], .int i :: st, a, h) := Rn_go c158_3 rfl
theorem c158_4 : mcode 158 4 = some (.if_icmp .ge 14, 3, 0, 0, 0) := rfl
theorem r158_4 : Rn 158 (4, [x0, x1, x2], .int j :: .int i :: st, a, h) = if i < j then Rn 158 (7, [x0, x1, x2], st, a, h) else Rn 158 (18, [x0, x1, x2], st, a, h) := Rn_icmpn c158_4 mc_ge rfl rfl
theorem c158_7 : mcode 158 7 = some (.aload_n 0, 1, 0, 0, 0) := rfl
theorem r158_7 : Rn 158 (7, [some (.ref q), x1, x2], st, a, h) = Rn 158 (8, [some (.ref q), x1, x2], .ref q :: st, a, h) := Rn_go c158_7 rfl
theorem c158_8 : mcode 158 8 = some (.iconst 0, 1, 0, 0, 0) := rfl
theorem r158_8 : Rn 158 (8, [x0, x1, x2], st, a, h) = Rn 158 (9, [x0, x1, x2], .int (0 : Int32) :: st, a, h) := Rn_go c158_8 rfl
theorem c158_9 : mcode 158 9 = some (.invokevirtual 131, 3, 157, 1, 6) := rfl
theorem r158_9 : Rn 158 (9, [x0, x1, x2], [v0, .ref q], a, h) = if mis h q 6 = true then Bk 158 12 [x0, x1, x2] [] (Ec 157 [.ref q, v0] a h) else none := Rn_call1 c158_9 rfl (Nat.le_of_ble_eq_true rfl) rfl rfl (Nat.le_of_ble_eq_true rfl)
theorem c158_12 : mcode 158 12 = some (.iinc 2 1, 3, 0, 0, 0) := rfl
theorem r158_12 : Rn 158 (12, [x0, x1, some (.int i)], st, a, h) = Nl x1 (Rn 158 (15, [x0, x1, some (.int (i + (1 : Int32)))], st, a, h)) := Rn_st1 (k := 2) (v := .int (i + (1 : Int32))) x1 c158_12 rfl rfl rfl rfl
theorem c158_15 : mcode 158 15 = some (.goto (-13), 3, 0, 0, 0) := rfl
theorem r158_15 : Rn 158 (15, [x0, x1, x2], st, a, h) = Rn 158 (2, [x0, x1, x2], st, a, h) := Rn_goto c158_15 rfl
theorem c158_18 : mcode 158 18 = some (.return_, 1, 0, 0, 0) := rfl
theorem r158_18 : Rn 158 (18, [x0, x1, x2], [], a, h) = some (none, a, h) := Rn_act c158_18
theorem c159_0 : mcode 159 0 = some (.iconst 0, 1, 0, 0, 0) := rfl
theorem r159_0 : Rn 159 (0, [x0, x1, x2], st, a, h) = Rn 159 (1, [x0, x1, x2], .int (0 : Int32) :: st, a, h) := Rn_go c159_0 rfl
theorem c159_1 : mcode 159 1 = some (.istore_n 1, 1, 0, 0, 0) := rfl
theorem r159_1 : Rn 159 (1, [x0, x1, x2], .int i :: st, a, h) = Nl x0 (Rn 159 (2, [x0, some (.int i), x2], st, a, h)) := Rn_st1 (k := 1) (v := .int i) x0 c159_1 rfl rfl rfl rfl
theorem c159_2 : mcode 159 2 = some (.iconst 0, 1, 0, 0, 0) := rfl
theorem r159_2 : Rn 159 (2, [x0, x1, x2], st, a, h) = Rn 159 (3, [x0, x1, x2], .int (0 : Int32) :: st, a, h) := Rn_go c159_2 rfl
theorem c159_3 : mcode 159 3 = some (.istore_n 2, 1, 0, 0, 0) := rfl
theorem r159_3 : Rn 159 (3, [x0, x1, x2], .int i :: st, a, h) = Nl x1 (Rn 159 (4, [x0, x1, some (.int i)], st, a, h)) := Rn_st1 (k := 2) (v := .int i) x1 c159_3 rfl rfl rfl rfl
theorem c159_4 : mcode 159 4 = some (.iload_n 2, 1, 0, 0, 0) := rfl
theorem r159_4 : Rn 159 (4, [x0, x1, some (.int i)], st, a, h) = Rn 159 (5, [x0, x1, some (.int i)], .int i :: st, a, h) := Rn_go c159_4 rfl
theorem c159_5 : mcode 159 5 = some (.bipush 24, 2, 0, 0, 0) := rfl
theorem r159_5 : Rn 159 (5, [x0, x1, x2], st, a, h) = Rn 159 (7, [x0, x1, x2], .int (24 : Int32) :: st, a, h) := Rn_go c159_5 rfl
theorem c159_7 : mcode 159 7 = some (.if_icmp .ge 20, 3, 0, 0, 0) := rfl
theorem r159_7 : Rn 159 (7, [x0, x1, x2], .int j :: .int i :: st, a, h) = if i < j then Rn 159 (10, [x0, x1, x2], st, a, h) else Rn 159 (27, [x0, x1, x2], st, a, h) := Rn_icmpn c159_7 mc_ge rfl rfl
theorem c159_10 : mcode 159 10 = some (.iload_n 1, 1, 0, 0, 0) := rfl
theorem r159_10 : Rn 159 (10, [x0, some (.int i), x2], st, a, h) = Rn 159 (11, [x0, some (.int i), x2], .int i :: st, a, h) := Rn_go c159_10 rfl
theorem c159_11 : mcode 159 11 = some (.aload_n 0, 1, 0, 0, 0) := rfl
theorem r159_11 : Rn 159 (11, [some (.ref q), x1, x2], st, a, h) = Rn 159 (12, [some (.ref q), x1, x2], .ref q :: st, a, h) := Rn_go c159_11 rfl
theorem c159_12 : mcode 159 12 = some (.getfield 7, 3, 6, 0, 0) := rfl
theorem r159_12 : Rn 159 (12, [x0, x1, x2], .ref q :: st, a, h) = Kv 159 15 [x0, x1, x2] st a h (mgf h q 6 0) := Rn_getf c159_12 rfl
theorem c159_15 : mcode 159 15 = some (.iconst 4, 1, 0, 0, 0) := rfl
theorem r159_15 : Rn 159 (15, [x0, x1, x2], st, a, h) = Rn 159 (16, [x0, x1, x2], .int (4 : Int32) :: st, a, h) := Rn_go c159_15 rfl
theorem c159_16 : mcode 159 16 = some (.iload_n 2, 1, 0, 0, 0) := rfl
theorem r159_16 : Rn 159 (16, [x0, x1, some (.int i)], st, a, h) = Rn 159 (17, [x0, x1, some (.int i)], .int i :: st, a, h) := Rn_go c159_16 rfl
theorem c159_17 : mcode 159 17 = some (.iadd, 1, 0, 0, 0) := rfl
theorem r159_17 : Rn 159 (17, [x0, x1, x2], .int j :: .int i :: st, a, h) = Rn 159 (18, [x0, x1, x2], .int (i + j) :: st, a, h) := Rn_go c159_17 rfl
theorem c159_18 : mcode 159 18 = some (.iaload, 1, 0, 0, 0) := rfl
theorem r159_18 : Rn 159 (18, [x0, x1, x2], .int i :: .ref q :: st, a, h) = Ki 159 19 [x0, x1, x2] st a h (mld h q i false) := Rn_iald c159_18 rfl
theorem c159_19 : mcode 159 19 = some (.iadd, 1, 0, 0, 0) := rfl
theorem r159_19 : Rn 159 (19, [x0, x1, x2], .int j :: .int i :: st, a, h) = Rn 159 (20, [x0, x1, x2], .int (i + j) :: st, a, h) := Rn_go c159_19 rfl
theorem c159_20 : mcode 159 20 = some (.istore_n 1, 1, 0, 0, 0) := rfl
theorem r159_20 : Rn 159 (20, [x0, x1, x2], .int i :: st, a, h) = Nl x0 (Rn 159 (21, [x0, some (.int i), x2], st, a, h)) := Rn_st1 (k := 1) (v := .int i) x0 c159_20 rfl rfl rfl rfl
theorem c159_21 : mcode 159 21 = some (.iinc 2 1, 3, 0, 0, 0) := rfl
theorem r159_21 : Rn 159 (21, [x0, x1, some (.int i)], st, a, h) = Nl x1 (Rn 159 (24, [x0, x1, some (.int (i + (1 : Int32)))], st, a, h)) := Rn_st1 (k := 2) (v := .int (i + (1 : Int32))) x1 c159_21 rfl rfl rfl rfl
theorem c159_24 : mcode 159 24 = some (.goto (-20), 3, 0, 0, 0) := rfl
theorem r159_24 : Rn 159 (24, [x0, x1, x2], st, a, h) = Rn 159 (4, [x0, x1, x2], st, a, h) := Rn_goto c159_24 rfl
theorem c159_27 : mcode 159 27 = some (.iload_n 1, 1, 0, 0, 0) := rfl
theorem r159_27 : Rn 159 (27, [x0, some (.int i), x2], st, a, h) = Rn 159 (28, [x0, some (.int i), x2], .int i :: st, a, h) := Rn_go c159_27 rfl
theorem c159_28 : mcode 159 28 = some (.ireturn, 1, 0, 0, 0) := rfl
theorem r159_28 : Rn 159 (28, [x0, x1, x2], [.int i], a, h) = some (some (.int i), a, h) := Rn_ireti c159_28
theorem c160_0 : mcode 160 0 = some (.iconst 0, 1, 0, 0, 0) := rfl
theorem r160_0 : Rn 160 (0, [x0, x1, x2, x3], st, a, h) = Rn 160 (1, [x0, x1, x2, x3], .int (0 : Int32) :: st, a, h) := Rn_go c160_0 rfl
theorem c160_1 : mcode 160 1 = some (.istore_n 2, 1, 0, 0, 0) := rfl
theorem r160_1 : Rn 160 (1, [x0, x1, x2, x3], .int i :: st, a, h) = Nl x1 (Rn 160 (2, [x0, x1, some (.int i), x3], st, a, h)) := Rn_st1 (k := 2) (v := .int i) x1 c160_1 rfl rfl rfl rfl
theorem c160_2 : mcode 160 2 = some (.iconst 0, 1, 0, 0, 0) := rfl
theorem r160_2 : Rn 160 (2, [x0, x1, x2, x3], st, a, h) = Rn 160 (3, [x0, x1, x2, x3], .int (0 : Int32) :: st, a, h) := Rn_go c160_2 rfl
theorem c160_3 : mcode 160 3 = some (.istore_n 3, 1, 0, 0, 0) := rfl
theorem r160_3 : Rn 160 (3, [x0, x1, x2, x3], .int i :: st, a, h) = Nl x2 (Rn 160 (4, [x0, x1, x2, some (.int i)], st, a, h)) := Rn_st1 (k := 3) (v := .int i) x2 c160_3 rfl rfl rfl rfl
theorem c160_4 : mcode 160 4 = some (.iload_n 3, 1, 0, 0, 0) := rfl
theorem r160_4 : Rn 160 (4, [x0, x1, x2, some (.int i)], st, a, h) = Rn 160 (5, [x0, x1, x2, some (.int i)], .int i :: st, a, h) := Rn_go c160_4 rfl
theorem c160_5 : mcode 160 5 = some (.aload_n 0, 1, 0, 0, 0) := rfl
theorem r160_5 : Rn 160 (5, [some (.ref q), x1, x2, x3], st, a, h) = Rn 160 (6, [some (.ref q), x1, x2, x3], .ref q :: st, a, h) := Rn_go c160_5 rfl
theorem c160_6 : mcode 160 6 = some (.getfield 7, 3, 6, 0, 0) := rfl
theorem r160_6 : Rn 160 (6, [x0, x1, x2, x3], .ref q :: st, a, h) = Kv 160 9 [x0, x1, x2, x3] st a h (mgf h q 6 0) := Rn_getf c160_6 rfl
theorem c160_9 : mcode 160 9 = some (.iconst 0, 1, 0, 0, 0) := rfl
theorem r160_9 : Rn 160 (9, [x0, x1, x2, x3], st, a, h) = Rn 160 (10, [x0, x1, x2, x3], .int (0 : Int32) :: st, a, h) := Rn_go c160_9 rfl
theorem c160_10 : mcode 160 10 = some (.iaload, 1, 0, 0, 0) := rfl
theorem r160_10 : Rn 160 (10, [x0, x1, x2, x3], .int i :: .ref q :: st, a, h) = Ki 160 11 [x0, x1, x2, x3] st a h (mld h q i false) := Rn_iald c160_10 rfl
theorem c160_11 : mcode 160 11 = some (.if_icmp .ge 18, 3, 0, 0, 0) := rfl
theorem r160_11 : Rn 160 (11, [x0, x1, x2, x3], .int j :: .int i :: st, a, h) = if i < j then Rn 160 (14, [x0, x1, x2, x3], st, a, h) else Rn 160 (29, [x0, x1, x2, x3], st, a, h) := Rn_icmpn c160_11 mc_ge rfl rfl
theorem c160_14 : mcode 160 14 = some (.iload_n 2, 1, 0, 0, 0) := rfl
theorem r160_14 : Rn 160 (14, [x0, x1, some (.int i), x3], st, a, h) = Rn 160 (15, [x0, x1, some (.int i), x3], .int i :: st, a, h) := Rn_go c160_14 rfl
theorem c160_15 : mcode 160 15 = some (.aload_n 0, 1, 0, 0, 0) := rfl
theorem r160_15 : Rn 160 (15, [some (.ref q), x1, x2, x3], st, a, h) = Rn 160 (16, [some (.ref q), x1, x2, x3], .ref q :: st, a, h) := Rn_go c160_15 rfl
theorem c160_16 : mcode 160 16 = some (.iload_n 3, 1, 0, 0, 0) := rfl
theorem r160_16 : Rn 160 (16, [x0, x1, x2, some (.int i)], st, a, h) = Rn 160 (17, [x0, x1, x2, some (.int i)], .int i :: st, a, h) := Rn_go c160_16 rfl
theorem c160_17 : mcode 160 17 = some (.iload_n 1, 1, 0, 0, 0) := rfl
theorem r160_17 : Rn 160 (17, [x0, some (.int i), x2, x3], st, a, h) = Rn 160 (18, [x0, some (.int i), x2, x3], .int i :: st, a, h) := Rn_go c160_17 rfl
theorem c160_18 : mcode 160 18 = some (.invokevirtual 63, 3, 131, 2, 6) := rfl
theorem r160_18 : Rn 160 (18, [x0, x1, x2, x3], [v1, v0, .ref q, .int i0], a, h) = if mis h q 6 = true then Bk 160 21 [x0, x1, x2, x3] [.int i0] (Ec 131 [.ref q, v0, v1] a h) else none := Rn_call1 c160_18 rfl (Nat.le_of_ble_eq_true rfl) rfl rfl (Nat.le_of_ble_eq_true rfl)
theorem c160_21 : mcode 160 21 = some (.iadd, 1, 0, 0, 0) := rfl
theorem r160_21 : Rn 160 (21, [x0, x1, x2, x3], .int j :: .int i :: st, a, h) = Rn 160 (22, [x0, x1, x2, x3], .int (i + j) :: st, a, h) := Rn_go c160_21 rfl
theorem c160_22 : mcode 160 22 = some (.istore_n 2, 1, 0, 0, 0) := rfl
theorem r160_22 : Rn 160 (22, [x0, x1, x2, x3], .int i :: st, a, h) = Nl x1 (Rn 160 (23, [x0, x1, some (.int i), x3], st, a, h)) := Rn_st1 (k := 2) (v := .int i) x1 c160_22 rfl rfl rfl rfl
theorem c160_23 : mcode 160 23 = some (.iinc 3 1, 3, 0, 0, 0) := rfl
theorem r160_23 : Rn 160 (23, [x0, x1, x2, some (.int i)], st, a, h) = Nl x2 (Rn 160 (26, [x0, x1, x2, some (.int (i + (1 : Int32)))], st, a, h)) := Rn_st1 (k := 3) (v := .int (i + (1 : Int32))) x2 c160_23 rfl rfl rfl rfl
theorem c160_26 : mcode 160 26 = some (.goto (-22), 3, 0, 0, 0) := rfl
theorem r160_26 : Rn 160 (26, [x0, x1, x2, x3], st, a, h) = Rn 160 (4, [x0, x1, x2, x3], st, a, h) := Rn_goto c160_26 rfl
theorem c160_29 : mcode 160 29 = some (.iload_n 2, 1, 0, 0, 0) := rfl
theorem r160_29 : Rn 160 (29, [x0, x1, some (.int i), x3], st, a, h) = Rn 160 (30, [x0, x1, some (.int i), x3], .int i :: st, a, h) := Rn_go c160_29 rfl
theorem c160_30 : mcode 160 30 = some (.ireturn, 1, 0, 0, 0) := rfl
theorem r160_30 : Rn 160 (30, [x0, x1, x2, x3], [.int i], a, h) = some (some (.int i), a, h) := Rn_ireti c160_30
theorem c161_0 : mcode 161 0 = some (.iload_n 1, 1, 0, 0, 0) := rfl
theorem r161_0 : Rn 161 (0, [x0, some (.int i)], st, a, h) = Rn 161 (1, [x0, some (.int i)], .int i :: st, a, h) := Rn_go c161_0 rfl
theorem c161_1 : mcode 161 1 = some (.i2l, 1, 0, 0, 0) := rfl
theorem r161_1 : Rn 161 (1, [x0, x1], .int i :: st, a, h) = Rn 161 (2, [x0, x1], .long i.toInt64 :: st, a, h) := Rn_go c161_1 rfl
theorem c161_2 : mcode 161 2 = some (.lconst 1, 1, 0, 0, 0) := rfl
theorem r161_2 : Rn 161 (2, [x0, x1], st, a, h) = Rn 161 (3, [x0, x1], .long (1 : Int64) :: st, a, h) := Rn_go c161_2 rfl
theorem c161_3 : mcode 161 3 = some (.ldc2_w 134, 3, 0, 0, 60) := rfl
theorem r161_3 : Rn 161 (3, [x0, x1], st, a, h) = Rn 161 (6, [x0, x1], .long (60 : Int64) :: st, a, h) := Rn_go c161_3 rfl
theorem c161_6 : mcode 161 6 = some (.invokestatic 52, 3, 123, 3, 0) := rfl
theorem r161_6 : Rn 161 (6, [x0, x1], [v2, v1, v0], a, h) = Bk 161 9 [x0, x1] [] (Ec 123 [v0, v1, v2] a h) := Rn_call0 c161_6 (fun z => nomatch z) rfl (Nat.le_of_ble_eq_true rfl) rfl rfl (Nat.le_of_ble_eq_true rfl)
theorem c161_9 : mcode 161 9 = some (.ifCond .ne 10, 3, 0, 0, 0) := rfl
theorem r161_9 : Rn 161 (9, [x0, x1], .int i :: st, a, h) = if i = 0 then Rn 161 (12, [x0, x1], st, a, h) else Rn 161 (19, [x0, x1], st, a, h) := Rn_ifcn c161_9 mc_ne rfl rfl
theorem c161_12 : mcode 161 12 = some (.aload_n 0, 1, 0, 0, 0) := rfl
theorem r161_12 : Rn 161 (12, [some (.ref q), x1], st, a, h) = Rn 161 (13, [some (.ref q), x1], .ref q :: st, a, h) := Rn_go c161_12 rfl
theorem c161_13 : mcode 161 13 = some (.ldc 37, 2, 0, 0, -1000001) := rfl
theorem r161_13 : Rn 161 (13, [x0, x1], st, a, h) = Rn 161 (15, [x0, x1], .int (-1000001 : Int32) :: st, a, h) := Rn_go c161_13 rfl
theorem c161_15 : mcode 161 15 = some (.invokevirtual 39, 3, 124, 1, 6) := rfl
theorem r161_15 : Rn 161 (15, [x0, x1], [v0, .ref q], a, h) = if mis h q 6 = true then Bk 161 18 [x0, x1] [] (Ec 124 [.ref q, v0] a h) else none := Rn_call1 c161_15 rfl (Nat.le_of_ble_eq_true rfl) rfl rfl (Nat.le_of_ble_eq_true rfl)
theorem c161_18 : mcode 161 18 = some (.ireturn, 1, 0, 0, 0) := rfl
theorem r161_18 : Rn 161 (18, [x0, x1], [.int i], a, h) = some (some (.int i), a, h) := Rn_ireti c161_18
theorem c161_19 : mcode 161 19 = some (.aload_n 0, 1, 0, 0, 0) := rfl
theorem r161_19 : Rn 161 (19, [some (.ref q), x1], st, a, h) = Rn 161 (20, [some (.ref q), x1], .ref q :: st, a, h) := Rn_go c161_19 rfl
theorem c161_20 : mcode 161 20 = some (.getfield 7, 3, 6, 0, 0) := rfl
theorem r161_20 : Rn 161 (20, [x0, x1], .ref q :: st, a, h) = Kv 161 23 [x0, x1] st a h (mgf h q 6 0) := Rn_getf c161_20 rfl
theorem c161_23 : mcode 161 23 = some (.iconst 1, 1, 0, 0, 0) := rfl
theorem r161_23 : Rn 161 (23, [x0, x1], st, a, h) = Rn 161 (24, [x0, x1], .int (1 : Int32) :: st, a, h) := Rn_go c161_23 rfl
theorem c161_24 : mcode 161 24 = some (.iaload, 1, 0, 0, 0) := rfl
theorem r161_24 : Rn 161 (24, [x0, x1], .int i :: .ref q :: st, a, h) = Ki 161 25 [x0, x1] st a h (mld h q i false) := Rn_iald c161_24 rfl
theorem c161_25 : mcode 161 25 = some (.iload_n 1, 1, 0, 0, 0) := rfl
theorem r161_25 : Rn 161 (25, [x0, some (.int i)], st, a, h) = Rn 161 (26, [x0, some (.int i)], .int i :: st, a, h) := Rn_go c161_25 rfl
theorem c161_26 : mcode 161 26 = some (.iadd, 1, 0, 0, 0) := rfl
theorem r161_26 : Rn 161 (26, [x0, x1], .int j :: .int i :: st, a, h) = Rn 161 (27, [x0, x1], .int (i + j) :: st, a, h) := Rn_go c161_26 rfl
theorem c161_27 : mcode 161 27 = some (.ldc 136, 2, 0, 0, 99999) := rfl
theorem r161_27 : Rn 161 (27, [x0, x1], st, a, h) = Rn 161 (29, [x0, x1], .int (99999 : Int32) :: st, a, h) := Rn_go c161_27 rfl
theorem c161_29 : mcode 161 29 = some (.if_icmp .le 10, 3, 0, 0, 0) := rfl
theorem r161_29 : Rn 161 (29, [x0, x1], .int j :: .int i :: st, a, h) = if j < i then Rn 161 (32, [x0, x1], st, a, h) else Rn 161 (39, [x0, x1], st, a, h) := Rn_icmpn c161_29 mc_le rfl rfl
theorem c161_32 : mcode 161 32 = some (.aload_n 0, 1, 0, 0, 0) := rfl
theorem r161_32 : Rn 161 (32, [some (.ref q), x1], st, a, h) = Rn 161 (33, [some (.ref q), x1], .ref q :: st, a, h) := Rn_go c161_32 rfl
theorem c161_33 : mcode 161 33 = some (.ldc 137, 2, 0, 0, -1000005) := rfl
theorem r161_33 : Rn 161 (33, [x0, x1], st, a, h) = Rn 161 (35, [x0, x1], .int (-1000005 : Int32) :: st, a, h) := Rn_go c161_33 rfl
theorem c161_35 : mcode 161 35 = some (.invokevirtual 39, 3, 124, 1, 6) := rfl
theorem r161_35 : Rn 161 (35, [x0, x1], [v0, .ref q], a, h) = if mis h q 6 = true then Bk 161 38 [x0, x1] [] (Ec 124 [.ref q, v0] a h) else none := Rn_call1 c161_35 rfl (Nat.le_of_ble_eq_true rfl) rfl rfl (Nat.le_of_ble_eq_true rfl)
theorem c161_38 : mcode 161 38 = some (.ireturn, 1, 0, 0, 0) := rfl
theorem r161_38 : Rn 161 (38, [x0, x1], [.int i], a, h) = some (some (.int i), a, h) := Rn_ireti c161_38
theorem c161_39 : mcode 161 39 = some (.aload_n 0, 1, 0, 0, 0) := rfl
theorem r161_39 : Rn 161 (39, [some (.ref q), x1], st, a, h) = Rn 161 (40, [some (.ref q), x1], .ref q :: st, a, h) := Rn_go c161_39 rfl
theorem c161_40 : mcode 161 40 = some (.iload_n 1, 1, 0, 0, 0) := rfl
theorem r161_40 : Rn 161 (40, [x0, some (.int i)], st, a, h) = Rn 161 (41, [x0, some (.int i)], .int i :: st, a, h) := Rn_go c161_40 rfl
theorem c161_41 : mcode 161 41 = some (.invokevirtual 138, 3, 158, 1, 6) := rfl
theorem r161_41 : Rn 161 (41, [x0, x1], [v0, .ref q], a, h) = if mis h q 6 = true then Bk 161 44 [x0, x1] [] (Ec 158 [.ref q, v0] a h) else none := Rn_call1 c161_41 rfl (Nat.le_of_ble_eq_true rfl) rfl rfl (Nat.le_of_ble_eq_true rfl)
theorem c161_44 : mcode 161 44 = some (.aload_n 0, 1, 0, 0, 0) := rfl
theorem r161_44 : Rn 161 (44, [some (.ref q), x1], st, a, h) = Rn 161 (45, [some (.ref q), x1], .ref q :: st, a, h) := Rn_go c161_44 rfl
theorem c161_45 : mcode 161 45 = some (.invokevirtual 141, 3, 159, 0, 6) := rfl
theorem r161_45 : Rn 161 (45, [x0, x1], [.ref q], a, h) = if mis h q 6 = true then Bk 161 48 [x0, x1] [] (Ec 159 [.ref q] a h) else none := Rn_call1 c161_45 rfl (Nat.le_of_ble_eq_true rfl) rfl rfl (Nat.le_of_ble_eq_true rfl)
theorem c161_48 : mcode 161 48 = some (.ireturn, 1, 0, 0, 0) := rfl
theorem r161_48 : Rn 161 (48, [x0, x1], [.int i], a, h) = some (some (.int i), a, h) := Rn_ireti c161_48
theorem c162_0 : mcode 162 0 = some (.aload_n 0, 1, 0, 0, 0) := rfl
theorem r162_0 : Rn 162 (0, [some (.ref q), x1], st, a, h) = Rn 162 (1, [some (.ref q), x1], .ref q :: st, a, h) := Rn_go c162_0 rfl
theorem c162_1 : mcode 162 1 = some (.iload_n 1, 1, 0, 0, 0) := rfl
theorem r162_1 : Rn 162 (1, [x0, some (.int i)], st, a, h) = Rn 162 (2, [x0, some (.int i)], .int i :: st, a, h) := Rn_go c162_1 rfl
theorem c162_2 : mcode 162 2 = some (.invokevirtual 68, 3, 138, 1, 6) := rfl
theorem r162_2 : Rn 162 (2, [x0, x1], [v0, .ref q], a, h) = if mis h q 6 = true then Bk 162 5 [x0, x1] [] (Ec 138 [.ref q, v0] a h) else none := Rn_call1 c162_2 rfl (Nat.le_of_ble_eq_true rfl) rfl rfl (Nat.le_of_ble_eq_true rfl)
theorem c162_5 : mcode 162 5 = some (.bipush 9, 2, 0, 0, 0) := rfl
theorem r162_5 : Rn 162 (5, [x0, x1], st, a, h) = Rn 162 (7, [x0, x1], .int (9 : Int32) :: st, a, h) := Rn_go c162_5 rfl
theorem c162_7 : mcode 162 7 = some (.if_icmp .gt 7, 3, 0, 0, 0) := rfl
theorem r162_7 : Rn 162 (7, [x0, x1], .int j :: .int i :: st, a, h) = if j < i then Rn 162 (14, [x0, x1], st, a, h) else Rn 162 (10, [x0, x1], st, a, h) := Rn_icmp c162_7 mc_gt rfl rfl
theorem c162_10 : mcode 162 10 = some (.iconst 1, 1, 0, 0, 0) := rfl
theorem r162_10 : Rn 162 (10, [x0, x1], st, a, h) = Rn 162 (11, [x0, x1], .int (1 : Int32) :: st, a, h) := Rn_go c162_10 rfl
theorem c162_11 : mcode 162 11 = some (.goto 4, 3, 0, 0, 0) := rfl
theorem r162_11 : Rn 162 (11, [x0, x1], st, a, h) = Rn 162 (15, [x0, x1], st, a, h) := Rn_goto c162_11 rfl
theorem c162_14 : mcode 162 14 = some (.iconst 0, 1, 0, 0, 0) := rfl
theorem r162_14 : Rn 162 (14, [x0, x1], st, a, h) = Rn 162 (15, [x0, x1], .int (0 : Int32) :: st, a, h) := Rn_go c162_14 rfl
theorem c162_15 : mcode 162 15 = some (.ireturn, 1, 1, 0, 0) := rfl
theorem r162_15 : Rn 162 (15, [x0, x1], [.int i], a, h) = if mrt 1 i = true then some (some (.int i), a, h) else none := Rn_iretz c162_15
theorem c163_0 : mcode 163 0 = some (.iconst 0, 1, 0, 0, 0) := rfl
theorem r163_0 : Rn 163 (0, [x0, x1, x2], st, a, h) = Rn 163 (1, [x0, x1, x2], .int (0 : Int32) :: st, a, h) := Rn_go c163_0 rfl
theorem c163_1 : mcode 163 1 = some (.istore_n 1, 1, 0, 0, 0) := rfl
theorem r163_1 : Rn 163 (1, [x0, x1, x2], .int i :: st, a, h) = Nl x0 (Rn 163 (2, [x0, some (.int i), x2], st, a, h)) := Rn_st1 (k := 1) (v := .int i) x0 c163_1 rfl rfl rfl rfl
theorem c163_2 : mcode 163 2 = some (.iconst 0, 1, 0, 0, 0) := rfl
theorem r163_2 : Rn 163 (2, [x0, x1, x2], st, a, h) = Rn 163 (3, [x0, x1, x2], .int (0 : Int32) :: st, a, h) := Rn_go c163_2 rfl
theorem c163_3 : mcode 163 3 = some (.istore_n 2, 1, 0, 0, 0) := rfl
theorem r163_3 : Rn 163 (3, [x0, x1, x2], .int i :: st, a, h) = Nl x1 (Rn 163 (4, [x0, x1, some (.int i)], st, a, h)) := Rn_st1 (k := 2) (v := .int i) x1 c163_3 rfl rfl rfl rfl
theorem c163_4 : mcode 163 4 = some (.iload_n 2, 1, 0, 0, 0) := rfl
theorem r163_4 : Rn 163 (4, [x0, x1, some (.int i)], st, a, h) = Rn 163 (5, [x0, x1, some (.int i)], .int i :: st, a, h) := Rn_go c163_4 rfl
theorem c163_5 : mcode 163 5 = some (.bipush 8, 2, 0, 0, 0) := rfl
theorem r163_5 : Rn 163 (5, [x0, x1, x2], st, a, h) = Rn 163 (7, [x0, x1, x2], .int (8 : Int32) :: st, a, h) := Rn_go c163_5 rfl
theorem c163_7 : mcode 163 7 = some (.if_icmp .ge 27, 3, 0, 0, 0) := rfl
theorem r163_7 : Rn 163 (7, [x0, x1, x2], .int j :: .int i :: st, a, h) = if i < j then Rn 163 (10, [x0, x1, x2], st, a, h) else Rn 163 (34, [x0, x1, x2], st, a, h) := Rn_icmpn c163_7 mc_ge rfl rfl
theorem c163_10 : mcode 163 10 = some (.iload_n 1, 1, 0, 0, 0) := rfl
theorem r163_10 : Rn 163 (10, [x0, some (.int i), x2], st, a, h) = Rn 163 (11, [x0, some (.int i), x2], .int i :: st, a, h) := Rn_go c163_10 rfl
theorem c163_11 : mcode 163 11 = some (.aload_n 0, 1, 0, 0, 0) := rfl
theorem r163_11 : Rn 163 (11, [some (.ref q), x1, x2], st, a, h) = Rn 163 (12, [some (.ref q), x1, x2], .ref q :: st, a, h) := Rn_go c163_11 rfl
theorem c163_12 : mcode 163 12 = some (.iload_n 2, 1, 0, 0, 0) := rfl
theorem r163_12 : Rn 163 (12, [x0, x1, some (.int i)], st, a, h) = Rn 163 (13, [x0, x1, some (.int i)], .int i :: st, a, h) := Rn_go c163_12 rfl
theorem c163_13 : mcode 163 13 = some (.invokevirtual 145, 3, 162, 1, 6) := rfl
theorem r163_13 : Rn 163 (13, [x0, x1, x2], [v0, .ref q, .int i0], a, h) = if mis h q 6 = true then Bk 163 16 [x0, x1, x2] [.int i0] (Ec 162 [.ref q, v0] a h) else none := Rn_call1 c163_13 rfl (Nat.le_of_ble_eq_true rfl) rfl rfl (Nat.le_of_ble_eq_true rfl)
theorem c163_16 : mcode 163 16 = some (.ifCond .eq 9, 3, 0, 0, 0) := rfl
theorem r163_16 : Rn 163 (16, [x0, x1, x2], .int i :: st, a, h) = if i = 0 then Rn 163 (25, [x0, x1, x2], st, a, h) else Rn 163 (19, [x0, x1, x2], st, a, h) := Rn_ifc c163_16 mc_eq rfl rfl
theorem c163_19 : mcode 163 19 = some (.iconst 1, 1, 0, 0, 0) := rfl
theorem r163_19 : Rn 163 (19, [x0, x1, x2], st, a, h) = Rn 163 (20, [x0, x1, x2], .int (1 : Int32) :: st, a, h) := Rn_go c163_19 rfl
theorem c163_20 : mcode 163 20 = some (.iload_n 2, 1, 0, 0, 0) := rfl
theorem r163_20 : Rn 163 (20, [x0, x1, some (.int i)], st, a, h) = Rn 163 (21, [x0, x1, some (.int i)], .int i :: st, a, h) := Rn_go c163_20 rfl
theorem c163_21 : mcode 163 21 = some (.ishl, 1, 0, 0, 0) := rfl
theorem r163_21 : Rn 163 (21, [x0, x1, x2], .int j :: .int i :: st, a, h) = Rn 163 (22, [x0, x1, x2], .int (i <<< (j &&& 31)) :: st, a, h) := Rn_go c163_21 rfl
theorem c163_22 : mcode 163 22 = some (.goto 4, 3, 0, 0, 0) := rfl
theorem r163_22 : Rn 163 (22, [x0, x1, x2], st, a, h) = Rn 163 (26, [x0, x1, x2], st, a, h) := Rn_goto c163_22 rfl
theorem c163_25 : mcode 163 25 = some (.iconst 0, 1, 0, 0, 0) := rfl
theorem r163_25 : Rn 163 (25, [x0, x1, x2], st, a, h) = Rn 163 (26, [x0, x1, x2], .int (0 : Int32) :: st, a, h) := Rn_go c163_25 rfl
theorem c163_26 : mcode 163 26 = some (.ior, 1, 0, 0, 0) := rfl
theorem r163_26 : Rn 163 (26, [x0, x1, x2], .int j :: .int i :: st, a, h) = Rn 163 (27, [x0, x1, x2], .int (i ||| j) :: st, a, h) := Rn_go c163_26 rfl
theorem c163_27 : mcode 163 27 = some (.istore_n 1, 1, 0, 0, 0) := rfl
theorem r163_27 : Rn 163 (27, [x0, x1, x2], .int i :: st, a, h) = Nl x0 (Rn 163 (28, [x0, some (.int i), x2], st, a, h)) := Rn_st1 (k := 1) (v := .int i) x0 c163_27 rfl rfl rfl rfl
theorem c163_28 : mcode 163 28 = some (.iinc 2 1, 3, 0, 0, 0) := rfl
theorem r163_28 : Rn 163 (28, [x0, x1, some (.int i)], st, a, h) = Nl x1 (Rn 163 (31, [x0, x1, some (.int (i + (1 : Int32)))], st, a, h)) := Rn_st1 (k := 2) (v := .int (i + (1 : Int32))) x1 c163_28 rfl rfl rfl rfl
theorem c163_31 : mcode 163 31 = some (.goto (-27), 3, 0, 0, 0) := rfl
theorem r163_31 : Rn 163 (31, [x0, x1, x2], st, a, h) = Rn 163 (4, [x0, x1, x2], st, a, h) := Rn_goto c163_31 rfl
theorem c163_34 : mcode 163 34 = some (.iload_n 1, 1, 0, 0, 0) := rfl
theorem r163_34 : Rn 163 (34, [x0, some (.int i), x2], st, a, h) = Rn 163 (35, [x0, some (.int i), x2], .int i :: st, a, h) := Rn_go c163_34 rfl
theorem c163_35 : mcode 163 35 = some (.ireturn, 1, 0, 0, 0) := rfl
theorem r163_35 : Rn 163 (35, [x0, x1, x2], [.int i], a, h) = some (some (.int i), a, h) := Rn_ireti c163_35
theorem c164_0 : mcode 164 0 = some (.iconst 0, 1, 0, 0, 0) := rfl
theorem r164_0 : Rn 164 (0, [x0, x1, x2], st, a, h) = Rn 164 (1, [x0, x1, x2], .int (0 : Int32) :: st, a, h) := Rn_go c164_0 rfl
theorem c164_1 : mcode 164 1 = some (.istore_n 1, 1, 0, 0, 0) := rfl
theorem r164_1 : Rn 164 (1, [x0, x1, x2], .int i :: st, a, h) = Nl x0 (Rn 164 (2, [x0, some (.int i), x2], st, a, h)) := Rn_st1 (k := 1) (v := .int i) x0 c164_1 rfl rfl rfl rfl
theorem c164_2 : mcode 164 2 = some (.iconst 0, 1, 0, 0, 0) := rfl
theorem r164_2 : Rn 164 (2, [x0, x1, x2], st, a, h) = Rn 164 (3, [x0, x1, x2], .int (0 : Int32) :: st, a, h) := Rn_go c164_2 rfl
theorem c164_3 : mcode 164 3 = some (.istore_n 2, 1, 0, 0, 0) := rfl
theorem r164_3 : Rn 164 (3, [x0, x1, x2], .int i :: st, a, h) = Nl x1 (Rn 164 (4, [x0, x1, some (.int i)], st, a, h)) := Rn_st1 (k := 2) (v := .int i) x1 c164_3 rfl rfl rfl rfl
theorem c164_4 : mcode 164 4 = some (.iload_n 2, 1, 0, 0, 0) := rfl
theorem r164_4 : Rn 164 (4, [x0, x1, some (.int i)], st, a, h) = Rn 164 (5, [x0, x1, some (.int i)], .int i :: st, a, h) := Rn_go c164_4 rfl
theorem c164_5 : mcode 164 5 = some (.aload_n 0, 1, 0, 0, 0) := rfl
theorem r164_5 : Rn 164 (5, [some (.ref q), x1, x2], st, a, h) = Rn 164 (6, [some (.ref q), x1, x2], .ref q :: st, a, h) := Rn_go c164_5 rfl
theorem c164_6 : mcode 164 6 = some (.getfield 7, 3, 6, 0, 0) := rfl
theorem r164_6 : Rn 164 (6, [x0, x1, x2], .ref q :: st, a, h) = Kv 164 9 [x0, x1, x2] st a h (mgf h q 6 0) := Rn_getf c164_6 rfl
theorem c164_9 : mcode 164 9 = some (.iconst 0, 1, 0, 0, 0) := rfl
theorem r164_9 : Rn 164 (9, [x0, x1, x2], st, a, h) = Rn 164 (10, [x0, x1, x2], .int (0 : Int32) :: st, a, h) := Rn_go c164_9 rfl
theorem c164_10 : mcode 164 10 = some (.iaload, 1, 0, 0, 0) := rfl
theorem r164_10 : Rn 164 (10, [x0, x1, x2], .int i :: .ref q :: st, a, h) = Ki 164 11 [x0, x1, x2] st a h (mld h q i false) := Rn_iald c164_10 rfl
theorem c164_11 : mcode 164 11 = some (.if_icmp .ge 20, 3, 0, 0, 0) := rfl
theorem r164_11 : Rn 164 (11, [x0, x1, x2], .int j :: .int i :: st, a, h) = if i < j then Rn 164 (14, [x0, x1, x2], st, a, h) else Rn 164 (31, [x0, x1, x2], st, a, h) := Rn_icmpn c164_11 mc_ge rfl rfl
theorem c164_14 : mcode 164 14 = some (.iload_n 1, 1, 0, 0, 0) := rfl
theorem r164_14 : Rn 164 (14, [x0, some (.int i), x2], st, a, h) = Rn 164 (15, [x0, some (.int i), x2], .int i :: st, a, h) := Rn_go c164_14 rfl
theorem c164_15 : mcode 164 15 = some (.iconst 1, 1, 0, 0, 0) := rfl
theorem r164_15 : Rn 164 (15, [x0, x1, x2], st, a, h) = Rn 164 (16, [x0, x1, x2], .int (1 : Int32) :: st, a, h) := Rn_go c164_15 rfl
theorem c164_16 : mcode 164 16 = some (.aload_n 0, 1, 0, 0, 0) := rfl
theorem r164_16 : Rn 164 (16, [some (.ref q), x1, x2], st, a, h) = Rn 164 (17, [some (.ref q), x1, x2], .ref q :: st, a, h) := Rn_go c164_16 rfl
theorem c164_17 : mcode 164 17 = some (.iload_n 2, 1, 0, 0, 0) := rfl
theorem r164_17 : Rn 164 (17, [x0, x1, some (.int i)], st, a, h) = Rn 164 (18, [x0, x1, some (.int i)], .int i :: st, a, h) := Rn_go c164_17 rfl
theorem c164_18 : mcode 164 18 = some (.iconst 2, 1, 0, 0, 0) := rfl
theorem r164_18 : Rn 164 (18, [x0, x1, x2], st, a, h) = Rn 164 (19, [x0, x1, x2], .int (2 : Int32) :: st, a, h) := Rn_go c164_18 rfl
theorem c164_19 : mcode 164 19 = some (.invokevirtual 63, 3, 131, 2, 6) := rfl
theorem r164_19 : Rn 164 (19, [x0, x1, x2], [v1, v0, .ref q, .int i0, .int i1], a, h) = if mis h q 6 = true then Bk 164 22 [x0, x1, x2] [.int i0, .int i1] (Ec 131 [.ref q, v0, v1] a h) else none := Rn_call1 c164_19 rfl (Nat.le_of_ble_eq_true rfl) rfl rfl (Nat.le_of_ble_eq_true rfl)
theorem c164_22 : mcode 164 22 = some (.ishl, 1, 0, 0, 0) := rfl
theorem r164_22 : Rn 164 (22, [x0, x1, x2], .int j :: .int i :: st, a, h) = Rn 164 (23, [x0, x1, x2], .int (i <<< (j &&& 31)) :: st, a, h) := Rn_go c164_22 rfl
theorem c164_23 : mcode 164 23 = some (.ior, 1, 0, 0, 0) := rfl
theorem r164_23 : Rn 164 (23, [x0, x1, x2], .int j :: .int i :: st, a, h) = Rn 164 (24, [x0, x1, x2], .int (i ||| j) :: st, a, h) := Rn_go c164_23 rfl
theorem c164_24 : mcode 164 24 = some (.istore_n 1, 1, 0, 0, 0) := rfl
theorem r164_24 : Rn 164 (24, [x0, x1, x2], .int i :: st, a, h) = Nl x0 (Rn 164 (25, [x0, some (.int i), x2], st, a, h)) := Rn_st1 (k := 1) (v := .int i) x0 c164_24 rfl rfl rfl rfl
theorem c164_25 : mcode 164 25 = some (.iinc 2 1, 3, 0, 0, 0) := rfl
theorem r164_25 : Rn 164 (25, [x0, x1, some (.int i)], st, a, h) = Nl x1 (Rn 164 (28, [x0, x1, some (.int (i + (1 : Int32)))], st, a, h)) := Rn_st1 (k := 2) (v := .int (i + (1 : Int32))) x1 c164_25 rfl rfl rfl rfl
theorem c164_28 : mcode 164 28 = some (.goto (-24), 3, 0, 0, 0) := rfl
theorem r164_28 : Rn 164 (28, [x0, x1, x2], st, a, h) = Rn 164 (4, [x0, x1, x2], st, a, h) := Rn_goto c164_28 rfl
theorem c164_31 : mcode 164 31 = some (.iload_n 1, 1, 0, 0, 0) := rfl
theorem r164_31 : Rn 164 (31, [x0, some (.int i), x2], st, a, h) = Rn 164 (32, [x0, some (.int i), x2], .int i :: st, a, h) := Rn_go c164_31 rfl
theorem c164_32 : mcode 164 32 = some (.ireturn, 1, 0, 0, 0) := rfl
theorem r164_32 : Rn 164 (32, [x0, x1, x2], [.int i], a, h) = some (some (.int i), a, h) := Rn_ireti c164_32
theorem c165_0 : mcode 165 0 = some (.iload_n 1, 1, 0, 0, 0) := rfl
theorem r165_0 : Rn 165 (0, [x0, some (.int i)], st, a, h) = Rn 165 (1, [x0, some (.int i)], .int i :: st, a, h) := Rn_go c165_0 rfl
theorem c165_1 : mcode 165 1 = some (.tableswitch 83 0 6 #[43, 50, 55, 61, 66, 72, 78], 43, 0, 0, 0) := rfl
theorem r165_1_0 : Rn 165 (1, [x0, x1], .int (0 : Int32) :: st, a, h) = Rn 165 (44, [x0, x1], st, a, h) := Rn_swAt c165_1 rfl rfl
theorem r165_1_1 : Rn 165 (1, [x0, x1], .int (1 : Int32) :: st, a, h) = Rn 165 (51, [x0, x1], st, a, h) := Rn_swAt c165_1 rfl rfl
theorem r165_1_2 : Rn 165 (1, [x0, x1], .int (2 : Int32) :: st, a, h) = Rn 165 (56, [x0, x1], st, a, h) := Rn_swAt c165_1 rfl rfl
theorem r165_1_3 : Rn 165 (1, [x0, x1], .int (3 : Int32) :: st, a, h) = Rn 165 (62, [x0, x1], st, a, h) := Rn_swAt c165_1 rfl rfl
theorem r165_1_4 : Rn 165 (1, [x0, x1], .int (4 : Int32) :: st, a, h) = Rn 165 (67, [x0, x1], st, a, h) := Rn_swAt c165_1 rfl rfl
theorem r165_1_5 : Rn 165 (1, [x0, x1], .int (5 : Int32) :: st, a, h) = Rn 165 (73, [x0, x1], st, a, h) := Rn_swAt c165_1 rfl rfl
theorem r165_1_6 : Rn 165 (1, [x0, x1], .int (6 : Int32) :: st, a, h) = Rn 165 (79, [x0, x1], st, a, h) := Rn_swAt c165_1 rfl rfl
theorem r165_1_d (hi : i.toInt < 0 ∨ 6 < i.toInt) : Rn 165 (1, [x0, x1], .int i :: st, a, h) = Rn 165 (84, [x0, x1], st, a, h) := Rn_swAt c165_1 (if_pos hi) rfl
theorem c165_44 : mcode 165 44 = some (.aload_n 0, 1, 0, 0, 0) := rfl
theorem r165_44 : Rn 165 (44, [some (.ref q), x1], st, a, h) = Rn 165 (45, [some (.ref q), x1], .ref q :: st, a, h) := Rn_go c165_44 rfl
theorem c165_45 : mcode 165 45 = some (.getfield 7, 3, 6, 0, 0) := rfl
theorem r165_45 : Rn 165 (45, [x0, x1], .ref q :: st, a, h) = Kv 165 48 [x0, x1] st a h (mgf h q 6 0) := Rn_getf c165_45 rfl
theorem c165_48 : mcode 165 48 = some (.iconst 1, 1, 0, 0, 0) := rfl
theorem r165_48 : Rn 165 (48, [x0, x1], st, a, h) = Rn 165 (49, [x0, x1], .int (1 : Int32) :: st, a, h) := Rn_go c165_48 rfl
theorem c165_49 : mcode 165 49 = some (.iaload, 1, 0, 0, 0) := rfl
theorem r165_49 : Rn 165 (49, [x0, x1], .int i :: .ref q :: st, a, h) = Ki 165 50 [x0, x1] st a h (mld h q i false) := Rn_iald c165_49 rfl
theorem c165_50 : mcode 165 50 = some (.ireturn, 1, 0, 0, 0) := rfl
theorem r165_50 : Rn 165 (50, [x0, x1], [.int i], a, h) = some (some (.int i), a, h) := Rn_ireti c165_50
theorem c165_51 : mcode 165 51 = some (.aload_n 0, 1, 0, 0, 0) := rfl
theorem r165_51 : Rn 165 (51, [some (.ref q), x1], st, a, h) = Rn 165 (52, [some (.ref q), x1], .ref q :: st, a, h) := Rn_go c165_51 rfl
theorem c165_52 : mcode 165 52 = some (.invokevirtual 141, 3, 159, 0, 6) := rfl
theorem r165_52 : Rn 165 (52, [x0, x1], [.ref q], a, h) = if mis h q 6 = true then Bk 165 55 [x0, x1] [] (Ec 159 [.ref q] a h) else none := Rn_call1 c165_52 rfl (Nat.le_of_ble_eq_true rfl) rfl rfl (Nat.le_of_ble_eq_true rfl)
theorem c165_55 : mcode 165 55 = some (.ireturn, 1, 0, 0, 0) := rfl
theorem r165_55 : Rn 165 (55, [x0, x1], [.int i], a, h) = some (some (.int i), a, h) := Rn_ireti c165_55
theorem c165_56 : mcode 165 56 = some (.aload_n 0, 1, 0, 0, 0) := rfl
theorem r165_56 : Rn 165 (56, [some (.ref q), x1], st, a, h) = Rn 165 (57, [some (.ref q), x1], .ref q :: st, a, h) := Rn_go c165_56 rfl
theorem c165_57 : mcode 165 57 = some (.iconst 3, 1, 0, 0, 0) := rfl
theorem r165_57 : Rn 165 (57, [x0, x1], st, a, h) = Rn 165 (58, [x0, x1], .int (3 : Int32) :: st, a, h) := Rn_go c165_57 rfl
theorem c165_58 : mcode 165 58 = some (.invokevirtual 148, 3, 160, 1, 6) := rfl
theorem r165_58 : Rn 165 (58, [x0, x1], [v0, .ref q], a, h) = if mis h q 6 = true then Bk 165 61 [x0, x1] [] (Ec 160 [.ref q, v0] a h) else none := Rn_call1 c165_58 rfl (Nat.le_of_ble_eq_true rfl) rfl rfl (Nat.le_of_ble_eq_true rfl)
theorem c165_61 : mcode 165 61 = some (.ireturn, 1, 0, 0, 0) := rfl
theorem r165_61 : Rn 165 (61, [x0, x1], [.int i], a, h) = some (some (.int i), a, h) := Rn_ireti c165_61
theorem c165_62 : mcode 165 62 = some (.aload_n 0, 1, 0, 0, 0) := rfl
theorem r165_62 : Rn 165 (62, [some (.ref q), x1], st, a, h) = Rn 165 (63, [some (.ref q), x1], .ref q :: st, a, h) := Rn_go c165_62 rfl
theorem c165_63 : mcode 165 63 = some (.invokevirtual 151, 3, 163, 0, 6) := rfl
theorem r165_63 : Rn 165 (63, [x0, x1], [.ref q], a, h) = if mis h q 6 = true then Bk 165 66 [x0, x1] [] (Ec 163 [.ref q] a h) else none := Rn_call1 c165_63 rfl (Nat.le_of_ble_eq_true rfl) rfl rfl (Nat.le_of_ble_eq_true rfl)
theorem c165_66 : mcode 165 66 = some (.ireturn, 1, 0, 0, 0) := rfl
theorem r165_66 : Rn 165 (66, [x0, x1], [.int i], a, h) = some (some (.int i), a, h) := Rn_ireti c165_66
theorem c165_67 : mcode 165 67 = some (.aload_n 0, 1, 0, 0, 0) := rfl
theorem r165_67 : Rn 165 (67, [some (.ref q), x1], st, a, h) = Rn 165 (68, [some (.ref q), x1], .ref q :: st, a, h) := Rn_go c165_67 rfl
theorem c165_68 : mcode 165 68 = some (.iconst 0, 1, 0, 0, 0) := rfl
theorem r165_68 : Rn 165 (68, [x0, x1], st, a, h) = Rn 165 (69, [x0, x1], .int (0 : Int32) :: st, a, h) := Rn_go c165_68 rfl
theorem c165_69 : mcode 165 69 = some (.invokevirtual 71, 3, 139, 1, 6) := rfl
theorem r165_69 : Rn 165 (69, [x0, x1], [v0, .ref q], a, h) = if mis h q 6 = true then Bk 165 72 [x0, x1] [] (Ec 139 [.ref q, v0] a h) else none := Rn_call1 c165_69 rfl (Nat.le_of_ble_eq_true rfl) rfl rfl (Nat.le_of_ble_eq_true rfl)
theorem c165_72 : mcode 165 72 = some (.ireturn, 1, 0, 0, 0) := rfl
theorem r165_72 : Rn 165 (72, [x0, x1], [.int i], a, h) = some (some (.int i), a, h) := Rn_ireti c165_72
theorem c165_73 : mcode 165 73 = some (.aload_n 0, 1, 0, 0, 0) := rfl
theorem r165_73 : Rn 165 (73, [some (.ref q), x1], st, a, h) = Rn 165 (74, [some (.ref q), x1], .ref q :: st, a, h) := Rn_go c165_73 rfl
theorem c165_74 : mcode 165 74 = some (.iconst 5, 1, 0, 0, 0) := rfl
theorem r165_74 : Rn 165 (74, [x0, x1], st, a, h) = Rn 165 (75, [x0, x1], .int (5 : Int32) :: st, a, h) := Rn_go c165_74 rfl
theorem c165_75 : mcode 165 75 = some (.invokevirtual 148, 3, 160, 1, 6) := rfl
theorem r165_75 : Rn 165 (75, [x0, x1], [v0, .ref q], a, h) = if mis h q 6 = true then Bk 165 78 [x0, x1] [] (Ec 160 [.ref q, v0] a h) else none := Rn_call1 c165_75 rfl (Nat.le_of_ble_eq_true rfl) rfl rfl (Nat.le_of_ble_eq_true rfl)
theorem c165_78 : mcode 165 78 = some (.ireturn, 1, 0, 0, 0) := rfl
theorem r165_78 : Rn 165 (78, [x0, x1], [.int i], a, h) = some (some (.int i), a, h) := Rn_ireti c165_78
theorem c165_79 : mcode 165 79 = some (.aload_n 0, 1, 0, 0, 0) := rfl
theorem r165_79 : Rn 165 (79, [some (.ref q), x1], st, a, h) = Rn 165 (80, [some (.ref q), x1], .ref q :: st, a, h) := Rn_go c165_79 rfl
theorem c165_80 : mcode 165 80 = some (.invokevirtual 154, 3, 164, 0, 6) := rfl
theorem r165_80 : Rn 165 (80, [x0, x1], [.ref q], a, h) = if mis h q 6 = true then Bk 165 83 [x0, x1] [] (Ec 164 [.ref q] a h) else none := Rn_call1 c165_80 rfl (Nat.le_of_ble_eq_true rfl) rfl rfl (Nat.le_of_ble_eq_true rfl)
theorem c165_83 : mcode 165 83 = some (.ireturn, 1, 0, 0, 0) := rfl
theorem r165_83 : Rn 165 (83, [x0, x1], [.int i], a, h) = some (some (.int i), a, h) := Rn_ireti c165_83
theorem c165_84 : mcode 165 84 = some (.aload_n 0, 1, 0, 0, 0) := rfl
theorem r165_84 : Rn 165 (84, [some (.ref q), x1], st, a, h) = Rn 165 (85, [some (.ref q), x1], .ref q :: st, a, h) := Rn_go c165_84 rfl
theorem c165_85 : mcode 165 85 = some (.ldc 37, 2, 0, 0, -1000001) := rfl
theorem r165_85 : Rn 165 (85, [x0, x1], st, a, h) = Rn 165 (87, [x0, x1], .int (-1000001 : Int32) :: st, a, h) := Rn_go c165_85 rfl
theorem c165_87 : mcode 165 87 = some (.invokevirtual 39, 3, 124, 1, 6) := rfl
theorem r165_87 : Rn 165 (87, [x0, x1], [v0, .ref q], a, h) = if mis h q 6 = true then Bk 165 90 [x0, x1] [] (Ec 124 [.ref q, v0] a h) else none := Rn_call1 c165_87 rfl (Nat.le_of_ble_eq_true rfl) rfl rfl (Nat.le_of_ble_eq_true rfl)
theorem c165_90 : mcode 165 90 = some (.ireturn, 1, 0, 0, 0) := rfl
theorem r165_90 : Rn 165 (90, [x0, x1], [.int i], a, h) = some (some (.int i), a, h) := Rn_ireti c165_90
theorem c166_0 : mcode 166 0 = some (.aload_n 0, 1, 0, 0, 0) := rfl
theorem r166_0 : Rn 166 (0, [some (.ref q), x1, x2, x3], st, a, h) = Rn 166 (1, [some (.ref q), x1, x2, x3], .ref q :: st, a, h) := Rn_go c166_0 rfl
theorem c166_1 : mcode 166 1 = some (.getfield 7, 3, 6, 0, 0) := rfl
theorem r166_1 : Rn 166 (1, [x0, x1, x2, x3], .ref q :: st, a, h) = Kv 166 4 [x0, x1, x2, x3] st a h (mgf h q 6 0) := Rn_getf c166_1 rfl
theorem c166_4 : mcode 166 4 = some (.aload_n 0, 1, 0, 0, 0) := rfl
theorem r166_4 : Rn 166 (4, [some (.ref q), x1, x2, x3], st, a, h) = Rn 166 (5, [some (.ref q), x1, x2, x3], .ref q :: st, a, h) := Rn_go c166_4 rfl
theorem c166_5 : mcode 166 5 = some (.getfield 19, 3, 6, 3, 0) := rfl
theorem r166_5 : Rn 166 (5, [x0, x1, x2, x3], .ref q :: st, a, h) = Kv 166 8 [x0, x1, x2, x3] st a h (mgf h q 6 3) := Rn_getf c166_5 rfl
theorem c166_8 : mcode 166 8 = some (.invokestatic 157, 3, 126, 2, 0) := rfl
theorem r166_8 : Rn 166 (8, [x0, x1, x2, x3], [v1, v0], a, h) = Bk 166 11 [x0, x1, x2, x3] [] (Ec 126 [v0, v1] a h) := Rn_call0 c166_8 (fun z => nomatch z) rfl (Nat.le_of_ble_eq_true rfl) rfl rfl (Nat.le_of_ble_eq_true rfl)
theorem c166_11 : mcode 166 11 = some (.aload_n 0, 1, 0, 0, 0) := rfl
theorem r166_11 : Rn 166 (11, [some (.ref q), x1, x2, x3], st, a, h) = Rn 166 (12, [some (.ref q), x1, x2, x3], .ref q :: st, a, h) := Rn_go c166_11 rfl
theorem c166_12 : mcode 166 12 = some (.iload_n 2, 1, 0, 0, 0) := rfl
theorem r166_12 : Rn 166 (12, [x0, x1, some (.int i), x3], st, a, h) = Rn 166 (13, [x0, x1, some (.int i), x3], .int i :: st, a, h) := Rn_go c166_12 rfl
theorem c166_13 : mcode 166 13 = some (.invokevirtual 138, 3, 158, 1, 6) := rfl
theorem r166_13 : Rn 166 (13, [x0, x1, x2, x3], [v0, .ref q], a, h) = if mis h q 6 = true then Bk 166 16 [x0, x1, x2, x3] [] (Ec 158 [.ref q, v0] a h) else none := Rn_call1 c166_13 rfl (Nat.le_of_ble_eq_true rfl) rfl rfl (Nat.le_of_ble_eq_true rfl)
theorem c166_16 : mcode 166 16 = some (.aload_n 0, 1, 0, 0, 0) := rfl
theorem r166_16 : Rn 166 (16, [some (.ref q), x1, x2, x3], st, a, h) = Rn 166 (17, [some (.ref q), x1, x2, x3], .ref q :: st, a, h) := Rn_go c166_16 rfl
theorem c166_17 : mcode 166 17 = some (.getfield 7, 3, 6, 0, 0) := rfl
theorem r166_17 : Rn 166 (17, [x0, x1, x2, x3], .ref q :: st, a, h) = Kv 166 20 [x0, x1, x2, x3] st a h (mgf h q 6 0) := Rn_getf c166_17 rfl
theorem c166_20 : mcode 166 20 = some (.iload_n 1, 1, 0, 0, 0) := rfl
theorem r166_20 : Rn 166 (20, [x0, some (.int i), x2, x3], st, a, h) = Rn 166 (21, [x0, some (.int i), x2, x3], .int i :: st, a, h) := Rn_go c166_20 rfl
theorem c166_21 : mcode 166 21 = some (.iaload, 1, 0, 0, 0) := rfl
theorem r166_21 : Rn 166 (21, [x0, x1, x2, x3], .int i :: .ref q :: st, a, h) = Ki 166 22 [x0, x1, x2, x3] st a h (mld h q i false) := Rn_iald c166_21 rfl
theorem c166_22 : mcode 166 22 = some (.istore_n 3, 1, 0, 0, 0) := rfl
theorem r166_22 : Rn 166 (22, [x0, x1, x2, x3], .int i :: st, a, h) = Nl x2 (Rn 166 (23, [x0, x1, x2, some (.int i)], st, a, h)) := Rn_st1 (k := 3) (v := .int i) x2 c166_22 rfl rfl rfl rfl
theorem c166_23 : mcode 166 23 = some (.aload_n 0, 1, 0, 0, 0) := rfl
theorem r166_23 : Rn 166 (23, [some (.ref q), x1, x2, x3], st, a, h) = Rn 166 (24, [some (.ref q), x1, x2, x3], .ref q :: st, a, h) := Rn_go c166_23 rfl
theorem c166_24 : mcode 166 24 = some (.getfield 19, 3, 6, 3, 0) := rfl
theorem r166_24 : Rn 166 (24, [x0, x1, x2, x3], .ref q :: st, a, h) = Kv 166 27 [x0, x1, x2, x3] st a h (mgf h q 6 3) := Rn_getf c166_24 rfl
theorem c166_27 : mcode 166 27 = some (.aload_n 0, 1, 0, 0, 0) := rfl
theorem r166_27 : Rn 166 (27, [some (.ref q), x1, x2, x3], st, a, h) = Rn 166 (28, [some (.ref q), x1, x2, x3], .ref q :: st, a, h) := Rn_go c166_27 rfl
theorem c166_28 : mcode 166 28 = some (.getfield 7, 3, 6, 0, 0) := rfl
theorem r166_28 : Rn 166 (28, [x0, x1, x2, x3], .ref q :: st, a, h) = Kv 166 31 [x0, x1, x2, x3] st a h (mgf h q 6 0) := Rn_getf c166_28 rfl
theorem c166_31 : mcode 166 31 = some (.invokestatic 157, 3, 126, 2, 0) := rfl
theorem r166_31 : Rn 166 (31, [x0, x1, x2, x3], [v1, v0], a, h) = Bk 166 34 [x0, x1, x2, x3] [] (Ec 126 [v0, v1] a h) := Rn_call0 c166_31 (fun z => nomatch z) rfl (Nat.le_of_ble_eq_true rfl) rfl rfl (Nat.le_of_ble_eq_true rfl)
theorem c166_34 : mcode 166 34 = some (.iload_n 3, 1, 0, 0, 0) := rfl
theorem r166_34 : Rn 166 (34, [x0, x1, x2, some (.int i)], st, a, h) = Rn 166 (35, [x0, x1, x2, some (.int i)], .int i :: st, a, h) := Rn_go c166_34 rfl
theorem c166_35 : mcode 166 35 = some (.ireturn, 1, 0, 0, 0) := rfl
theorem r166_35 : Rn 166 (35, [x0, x1, x2, x3], [.int i], a, h) = some (some (.int i), a, h) := Rn_ireti c166_35
theorem c167_0 : mcode 167 0 = some (.aload_n 0, 1, 0, 0, 0) := rfl
theorem r167_0 : Rn 167 (0, [some (.ref q), x1, x2, x3], st, a, h) = Rn 167 (1, [some (.ref q), x1, x2, x3], .ref q :: st, a, h) := Rn_go c167_0 rfl
theorem c167_1 : mcode 167 1 = some (.iload_n 1, 1, 0, 0, 0) := rfl
theorem r167_1 : Rn 167 (1, [x0, some (.int i), x2, x3], st, a, h) = Rn 167 (2, [x0, some (.int i), x2, x3], .int i :: st, a, h) := Rn_go c167_1 rfl
theorem c167_2 : mcode 167 2 = some (.invokevirtual 98, 3, 129, 1, 6) := rfl
theorem r167_2 : Rn 167 (2, [x0, x1, x2, x3], [v0, .ref q], a, h) = if mis h q 6 = true then Bk 167 5 [x0, x1, x2, x3] [] (Ec 129 [.ref q, v0] a h) else none := Rn_call1 c167_2 rfl (Nat.le_of_ble_eq_true rfl) rfl rfl (Nat.le_of_ble_eq_true rfl)
theorem c167_5 : mcode 167 5 = some (.ifCond .eq 40, 3, 0, 0, 0) := rfl
theorem r167_5 : Rn 167 (5, [x0, x1, x2, x3], .int i :: st, a, h) = if i = 0 then Rn 167 (45, [x0, x1, x2, x3], st, a, h) else Rn 167 (8, [x0, x1, x2, x3], st, a, h) := Rn_ifc c167_5 mc_eq rfl rfl
theorem c167_8 : mcode 167 8 = some (.iload_n 2, 1, 0, 0, 0) := rfl
theorem r167_8 : Rn 167 (8, [x0, x1, some (.int i), x3], st, a, h) = Rn 167 (9, [x0, x1, some (.int i), x3], .int i :: st, a, h) := Rn_go c167_8 rfl
theorem c167_9 : mcode 167 9 = some (.i2l, 1, 0, 0, 0) := rfl
theorem r167_9 : Rn 167 (9, [x0, x1, x2, x3], .int i :: st, a, h) = Rn 167 (10, [x0, x1, x2, x3], .long i.toInt64 :: st, a, h) := Rn_go c167_9 rfl
theorem c167_10 : mcode 167 10 = some (.lconst 1, 1, 0, 0, 0) := rfl
theorem r167_10 : Rn 167 (10, [x0, x1, x2, x3], st, a, h) = Rn 167 (11, [x0, x1, x2, x3], .long (1 : Int64) :: st, a, h) := Rn_go c167_10 rfl
theorem c167_11 : mcode 167 11 = some (.ldc2_w 66, 3, 0, 0, 5) := rfl
theorem r167_11 : Rn 167 (11, [x0, x1, x2, x3], st, a, h) = Rn 167 (14, [x0, x1, x2, x3], .long (5 : Int64) :: st, a, h) := Rn_go c167_11 rfl
theorem c167_14 : mcode 167 14 = some (.invokestatic 52, 3, 123, 3, 0) := rfl
theorem r167_14 : Rn 167 (14, [x0, x1, x2, x3], [v2, v1, v0], a, h) = Bk 167 17 [x0, x1, x2, x3] [] (Ec 123 [v0, v1, v2] a h) := Rn_call0 c167_14 (fun z => nomatch z) rfl (Nat.le_of_ble_eq_true rfl) rfl rfl (Nat.le_of_ble_eq_true rfl)
theorem c167_17 : mcode 167 17 = some (.ifCond .eq 28, 3, 0, 0, 0) := rfl
theorem r167_17 : Rn 167 (17, [x0, x1, x2, x3], .int i :: st, a, h) = if i = 0 then Rn 167 (45, [x0, x1, x2, x3], st, a, h) else Rn 167 (20, [x0, x1, x2, x3], st, a, h) := Rn_ifc c167_17 mc_eq rfl rfl
theorem c167_20 : mcode 167 20 = some (.iload_n 3, 1, 0, 0, 0) := rfl
theorem r167_20 : Rn 167 (20, [x0, x1, x2, some (.int i)], st, a, h) = Rn 167 (21, [x0, x1, x2, some (.int i)], .int i :: st, a, h) := Rn_go c167_20 rfl
theorem c167_21 : mcode 167 21 = some (.i2l, 1, 0, 0, 0) := rfl
theorem r167_21 : Rn 167 (21, [x0, x1, x2, x3], .int i :: st, a, h) = Rn 167 (22, [x0, x1, x2, x3], .long i.toInt64 :: st, a, h) := Rn_go c167_21 rfl
theorem c167_22 : mcode 167 22 = some (.lconst 0, 1, 0, 0, 0) := rfl
theorem r167_22 : Rn 167 (22, [x0, x1, x2, x3], st, a, h) = Rn 167 (23, [x0, x1, x2, x3], .long (0 : Int64) :: st, a, h) := Rn_go c167_22 rfl
theorem c167_23 : mcode 167 23 = some (.ldc2_w 161, 3, 0, 0, 100) := rfl
theorem r167_23 : Rn 167 (23, [x0, x1, x2, x3], st, a, h) = Rn 167 (26, [x0, x1, x2, x3], .long (100 : Int64) :: st, a, h) := Rn_go c167_23 rfl
theorem c167_26 : mcode 167 26 = some (.invokestatic 52, 3, 123, 3, 0) := rfl
theorem r167_26 : Rn 167 (26, [x0, x1, x2, x3], [v2, v1, v0], a, h) = Bk 167 29 [x0, x1, x2, x3] [] (Ec 123 [v0, v1, v2] a h) := Rn_call0 c167_26 (fun z => nomatch z) rfl (Nat.le_of_ble_eq_true rfl) rfl rfl (Nat.le_of_ble_eq_true rfl)
theorem c167_29 : mcode 167 29 = some (.ifCond .eq 16, 3, 0, 0, 0) := rfl
theorem r167_29 : Rn 167 (29, [x0, x1, x2, x3], .int i :: st, a, h) = if i = 0 then Rn 167 (45, [x0, x1, x2, x3], st, a, h) else Rn 167 (32, [x0, x1, x2, x3], st, a, h) := Rn_ifc c167_29 mc_eq rfl rfl
theorem c167_32 : mcode 167 32 = some (.aload_n 0, 1, 0, 0, 0) := rfl
theorem r167_32 : Rn 167 (32, [some (.ref q), x1, x2, x3], st, a, h) = Rn 167 (33, [some (.ref q), x1, x2, x3], .ref q :: st, a, h) := Rn_go c167_32 rfl
theorem c167_33 : mcode 167 33 = some (.iload_n 1, 1, 0, 0, 0) := rfl
theorem r167_33 : Rn 167 (33, [x0, some (.int i), x2, x3], st, a, h) = Rn 167 (34, [x0, some (.int i), x2, x3], .int i :: st, a, h) := Rn_go c167_33 rfl
theorem c167_34 : mcode 167 34 = some (.iload_n 2, 1, 0, 0, 0) := rfl
theorem r167_34 : Rn 167 (34, [x0, x1, some (.int i), x3], st, a, h) = Rn 167 (35, [x0, x1, some (.int i), x3], .int i :: st, a, h) := Rn_go c167_34 rfl
theorem c167_35 : mcode 167 35 = some (.invokestatic 79, 3, 130, 2, 0) := rfl
theorem r167_35 : Rn 167 (35, [x0, x1, x2, x3], [v1, v0, .ref q0], a, h) = Bk 167 38 [x0, x1, x2, x3] [.ref q0] (Ec 130 [v0, v1] a h) := Rn_call0 c167_35 (fun z => nomatch z) rfl (Nat.le_of_ble_eq_true rfl) rfl rfl (Nat.le_of_ble_eq_true rfl)
theorem c167_38 : mcode 167 38 = some (.iload_n 3, 1, 0, 0, 0) := rfl
theorem r167_38 : Rn 167 (38, [x0, x1, x2, some (.int i)], st, a, h) = Rn 167 (39, [x0, x1, x2, some (.int i)], .int i :: st, a, h) := Rn_go c167_38 rfl
theorem c167_39 : mcode 167 39 = some (.invokevirtual 163, 3, 166, 2, 6) := rfl
theorem r167_39 : Rn 167 (39, [x0, x1, x2, x3], [v1, v0, .ref q], a, h) = if mis h q 6 = true then Bk 167 42 [x0, x1, x2, x3] [] (Ec 166 [.ref q, v0, v1] a h) else none := Rn_call1 c167_39 rfl (Nat.le_of_ble_eq_true rfl) rfl rfl (Nat.le_of_ble_eq_true rfl)
theorem c167_42 : mcode 167 42 = some (.goto 9, 3, 0, 0, 0) := rfl
theorem r167_42 : Rn 167 (42, [x0, x1, x2, x3], st, a, h) = Rn 167 (51, [x0, x1, x2, x3], st, a, h) := Rn_goto c167_42 rfl
theorem c167_45 : mcode 167 45 = some (.aload_n 0, 1, 0, 0, 0) := rfl
theorem r167_45 : Rn 167 (45, [some (.ref q), x1, x2, x3], st, a, h) = Rn 167 (46, [some (.ref q), x1, x2, x3], .ref q :: st, a, h) := Rn_go c167_45 rfl
theorem c167_46 : mcode 167 46 = some (.ldc 37, 2, 0, 0, -1000001) := rfl
theorem r167_46 : Rn 167 (46, [x0, x1, x2, x3], st, a, h) = Rn 167 (48, [x0, x1, x2, x3], .int (-1000001 : Int32) :: st, a, h) := Rn_go c167_46 rfl
theorem c167_48 : mcode 167 48 = some (.invokevirtual 39, 3, 124, 1, 6) := rfl
theorem r167_48 : Rn 167 (48, [x0, x1, x2, x3], [v0, .ref q], a, h) = if mis h q 6 = true then Bk 167 51 [x0, x1, x2, x3] [] (Ec 124 [.ref q, v0] a h) else none := Rn_call1 c167_48 rfl (Nat.le_of_ble_eq_true rfl) rfl rfl (Nat.le_of_ble_eq_true rfl)
theorem c167_51 : mcode 167 51 = some (.ireturn, 1, 0, 0, 0) := rfl
theorem r167_51 : Rn 167 (51, [x0, x1, x2, x3], [.int i], a, h) = some (some (.int i), a, h) := Rn_ireti c167_51
theorem c168_0 : mcode 168 0 = some (.iload_n 1, 1, 0, 0, 0) := rfl
theorem r168_0 : Rn 168 (0, [x0, some (.int i), x2, x3], st, a, h) = Rn 168 (1, [x0, some (.int i), x2, x3], .int i :: st, a, h) := Rn_go c168_0 rfl
theorem c168_1 : mcode 168 1 = some (.invokestatic 43, 3, 127, 1, 0) := rfl
theorem r168_1 : Rn 168 (1, [x0, x1, x2, x3], [v0], a, h) = Bk 168 4 [x0, x1, x2, x3] [] (Ec 127 [v0] a h) := Rn_call0 c168_1 (fun z => nomatch z) rfl (Nat.le_of_ble_eq_true rfl) rfl rfl (Nat.le_of_ble_eq_true rfl)
theorem c168_4 : mcode 168 4 = some (.ifCond .eq 37, 3, 0, 0, 0) := rfl
theorem r168_4 : Rn 168 (4, [x0, x1, x2, x3], .int i :: st, a, h) = if i = 0 then Rn 168 (41, [x0, x1, x2, x3], st, a, h) else Rn 168 (7, [x0, x1, x2, x3], st, a, h) := Rn_ifc c168_4 mc_eq rfl rfl
theorem c168_7 : mcode 168 7 = some (.iload_n 2, 1, 0, 0, 0) := rfl
theorem r168_7 : Rn 168 (7, [x0, x1, some (.int i), x3], st, a, h) = Rn 168 (8, [x0, x1, some (.int i), x3], .int i :: st, a, h) := Rn_go c168_7 rfl
theorem c168_8 : mcode 168 8 = some (.invokestatic 47, 3, 128, 1, 0) := rfl
theorem r168_8 : Rn 168 (8, [x0, x1, x2, x3], [v0], a, h) = Bk 168 11 [x0, x1, x2, x3] [] (Ec 128 [v0] a h) := Rn_call0 c168_8 (fun z => nomatch z) rfl (Nat.le_of_ble_eq_true rfl) rfl rfl (Nat.le_of_ble_eq_true rfl)
theorem c168_11 : mcode 168 11 = some (.ifCond .eq 30, 3, 0, 0, 0) := rfl
theorem r168_11 : Rn 168 (11, [x0, x1, x2, x3], .int i :: st, a, h) = if i = 0 then Rn 168 (41, [x0, x1, x2, x3], st, a, h) else Rn 168 (14, [x0, x1, x2, x3], st, a, h) := Rn_ifc c168_11 mc_eq rfl rfl
theorem c168_14 : mcode 168 14 = some (.iload_n 3, 1, 0, 0, 0) := rfl
theorem r168_14 : Rn 168 (14, [x0, x1, x2, some (.int i)], st, a, h) = Rn 168 (15, [x0, x1, x2, some (.int i)], .int i :: st, a, h) := Rn_go c168_14 rfl
theorem c168_15 : mcode 168 15 = some (.i2l, 1, 0, 0, 0) := rfl
theorem r168_15 : Rn 168 (15, [x0, x1, x2, x3], .int i :: st, a, h) = Rn 168 (16, [x0, x1, x2, x3], .long i.toInt64 :: st, a, h) := Rn_go c168_15 rfl
theorem c168_16 : mcode 168 16 = some (.lconst 0, 1, 0, 0, 0) := rfl
theorem r168_16 : Rn 168 (16, [x0, x1, x2, x3], st, a, h) = Rn 168 (17, [x0, x1, x2, x3], .long (0 : Int64) :: st, a, h) := Rn_go c168_16 rfl
theorem c168_17 : mcode 168 17 = some (.ldc2_w 161, 3, 0, 0, 100) := rfl
theorem r168_17 : Rn 168 (17, [x0, x1, x2, x3], st, a, h) = Rn 168 (20, [x0, x1, x2, x3], .long (100 : Int64) :: st, a, h) := Rn_go c168_17 rfl
theorem c168_20 : mcode 168 20 = some (.invokestatic 52, 3, 123, 3, 0) := rfl
theorem r168_20 : Rn 168 (20, [x0, x1, x2, x3], [v2, v1, v0], a, h) = Bk 168 23 [x0, x1, x2, x3] [] (Ec 123 [v0, v1, v2] a h) := Rn_call0 c168_20 (fun z => nomatch z) rfl (Nat.le_of_ble_eq_true rfl) rfl rfl (Nat.le_of_ble_eq_true rfl)
theorem c168_23 : mcode 168 23 = some (.ifCond .eq 18, 3, 0, 0, 0) := rfl
theorem r168_23 : Rn 168 (23, [x0, x1, x2, x3], .int i :: st, a, h) = if i = 0 then Rn 168 (41, [x0, x1, x2, x3], st, a, h) else Rn 168 (26, [x0, x1, x2, x3], st, a, h) := Rn_ifc c168_23 mc_eq rfl rfl
theorem c168_26 : mcode 168 26 = some (.aload_n 0, 1, 0, 0, 0) := rfl
theorem r168_26 : Rn 168 (26, [some (.ref q), x1, x2, x3], st, a, h) = Rn 168 (27, [some (.ref q), x1, x2, x3], .ref q :: st, a, h) := Rn_go c168_26 rfl
theorem c168_27 : mcode 168 27 = some (.iconst 4, 1, 0, 0, 0) := rfl
theorem r168_27 : Rn 168 (27, [x0, x1, x2, x3], st, a, h) = Rn 168 (28, [x0, x1, x2, x3], .int (4 : Int32) :: st, a, h) := Rn_go c168_27 rfl
theorem c168_28 : mcode 168 28 = some (.iconst 3, 1, 0, 0, 0) := rfl
theorem r168_28 : Rn 168 (28, [x0, x1, x2, x3], st, a, h) = Rn 168 (29, [x0, x1, x2, x3], .int (3 : Int32) :: st, a, h) := Rn_go c168_28 rfl
theorem c168_29 : mcode 168 29 = some (.iload_n 1, 1, 0, 0, 0) := rfl
theorem r168_29 : Rn 168 (29, [x0, some (.int i), x2, x3], st, a, h) = Rn 168 (30, [x0, some (.int i), x2, x3], .int i :: st, a, h) := Rn_go c168_29 rfl
theorem c168_30 : mcode 168 30 = some (.imul, 1, 0, 0, 0) := rfl
theorem r168_30 : Rn 168 (30, [x0, x1, x2, x3], .int j :: .int i :: st, a, h) = Rn 168 (31, [x0, x1, x2, x3], .int (i * j) :: st, a, h) := Rn_go c168_30 rfl
theorem c168_31 : mcode 168 31 = some (.iadd, 1, 0, 0, 0) := rfl
theorem r168_31 : Rn 168 (31, [x0, x1, x2, x3], .int j :: .int i :: st, a, h) = Rn 168 (32, [x0, x1, x2, x3], .int (i + j) :: st, a, h) := Rn_go c168_31 rfl
theorem c168_32 : mcode 168 32 = some (.iload_n 2, 1, 0, 0, 0) := rfl
theorem r168_32 : Rn 168 (32, [x0, x1, some (.int i), x3], st, a, h) = Rn 168 (33, [x0, x1, some (.int i), x3], .int i :: st, a, h) := Rn_go c168_32 rfl
theorem c168_33 : mcode 168 33 = some (.iadd, 1, 0, 0, 0) := rfl
theorem r168_33 : Rn 168 (33, [x0, x1, x2, x3], .int j :: .int i :: st, a, h) = Rn 168 (34, [x0, x1, x2, x3], .int (i + j) :: st, a, h) := Rn_go c168_33 rfl
theorem c168_34 : mcode 168 34 = some (.iload_n 3, 1, 0, 0, 0) := rfl
theorem r168_34 : Rn 168 (34, [x0, x1, x2, some (.int i)], st, a, h) = Rn 168 (35, [x0, x1, x2, some (.int i)], .int i :: st, a, h) := Rn_go c168_34 rfl
theorem c168_35 : mcode 168 35 = some (.invokevirtual 163, 3, 166, 2, 6) := rfl
theorem r168_35 : Rn 168 (35, [x0, x1, x2, x3], [v1, v0, .ref q], a, h) = if mis h q 6 = true then Bk 168 38 [x0, x1, x2, x3] [] (Ec 166 [.ref q, v0, v1] a h) else none := Rn_call1 c168_35 rfl (Nat.le_of_ble_eq_true rfl) rfl rfl (Nat.le_of_ble_eq_true rfl)
theorem c168_38 : mcode 168 38 = some (.goto 9, 3, 0, 0, 0) := rfl
theorem r168_38 : Rn 168 (38, [x0, x1, x2, x3], st, a, h) = Rn 168 (47, [x0, x1, x2, x3], st, a, h) := Rn_goto c168_38 rfl
theorem c168_41 : mcode 168 41 = some (.aload_n 0, 1, 0, 0, 0) := rfl
theorem r168_41 : Rn 168 (41, [some (.ref q), x1, x2, x3], st, a, h) = Rn 168 (42, [some (.ref q), x1, x2, x3], .ref q :: st, a, h) := Rn_go c168_41 rfl
theorem c168_42 : mcode 168 42 = some (.ldc 37, 2, 0, 0, -1000001) := rfl
theorem r168_42 : Rn 168 (42, [x0, x1, x2, x3], st, a, h) = Rn 168 (44, [x0, x1, x2, x3], .int (-1000001 : Int32) :: st, a, h) := Rn_go c168_42 rfl
theorem c168_44 : mcode 168 44 = some (.invokevirtual 39, 3, 124, 1, 6) := rfl
theorem r168_44 : Rn 168 (44, [x0, x1, x2, x3], [v0, .ref q], a, h) = if mis h q 6 = true then Bk 168 47 [x0, x1, x2, x3] [] (Ec 124 [.ref q, v0] a h) else none := Rn_call1 c168_44 rfl (Nat.le_of_ble_eq_true rfl) rfl rfl (Nat.le_of_ble_eq_true rfl)
theorem c168_47 : mcode 168 47 = some (.ireturn, 1, 0, 0, 0) := rfl
theorem r168_47 : Rn 168 (47, [x0, x1, x2, x3], [.int i], a, h) = some (some (.int i), a, h) := Rn_ireti c168_47
theorem c169_0 : mcode 169 0 = some (.aload_n 0, 1, 0, 0, 0) := rfl
theorem r169_0 : Rn 169 (0, [some (.ref q), x1, x2, x3], st, a, h) = Rn 169 (1, [some (.ref q), x1, x2, x3], .ref q :: st, a, h) := Rn_go c169_0 rfl
theorem c169_1 : mcode 169 1 = some (.iload_n 1, 1, 0, 0, 0) := rfl
theorem r169_1 : Rn 169 (1, [x0, some (.int i), x2, x3], st, a, h) = Rn 169 (2, [x0, some (.int i), x2, x3], .int i :: st, a, h) := Rn_go c169_1 rfl
theorem c169_2 : mcode 169 2 = some (.invokevirtual 98, 3, 129, 1, 6) := rfl
theorem r169_2 : Rn 169 (2, [x0, x1, x2, x3], [v0, .ref q], a, h) = if mis h q 6 = true then Bk 169 5 [x0, x1, x2, x3] [] (Ec 129 [.ref q, v0] a h) else none := Rn_call1 c169_2 rfl (Nat.le_of_ble_eq_true rfl) rfl rfl (Nat.le_of_ble_eq_true rfl)
theorem c169_5 : mcode 169 5 = some (.ifCond .ne 10, 3, 0, 0, 0) := rfl
theorem r169_5 : Rn 169 (5, [x0, x1, x2, x3], .int i :: st, a, h) = if i = 0 then Rn 169 (8, [x0, x1, x2, x3], st, a, h) else Rn 169 (15, [x0, x1, x2, x3], st, a, h) := Rn_ifcn c169_5 mc_ne rfl rfl
theorem c169_8 : mcode 169 8 = some (.aload_n 0, 1, 0, 0, 0) := rfl
theorem r169_8 : Rn 169 (8, [some (.ref q), x1, x2, x3], st, a, h) = Rn 169 (9, [some (.ref q), x1, x2, x3], .ref q :: st, a, h) := Rn_go c169_8 rfl
theorem c169_9 : mcode 169 9 = some (.ldc 37, 2, 0, 0, -1000001) := rfl
theorem r169_9 : Rn 169 (9, [x0, x1, x2, x3], st, a, h) = Rn 169 (11, [x0, x1, x2, x3], .int (-1000001 : Int32) :: st, a, h) := Rn_go c169_9 rfl
theorem c169_11 : mcode 169 11 = some (.invokevirtual 39, 3, 124, 1, 6) := rfl
theorem r169_11 : Rn 169 (11, [x0, x1, x2, x3], [v0, .ref q], a, h) = if mis h q 6 = true then Bk 169 14 [x0, x1, x2, x3] [] (Ec 124 [.ref q, v0] a h) else none := Rn_call1 c169_11 rfl (Nat.le_of_ble_eq_true rfl) rfl rfl (Nat.le_of_ble_eq_true rfl)
theorem c169_14 : mcode 169 14 = some (.ireturn, 1, 0, 0, 0) := rfl
theorem r169_14 : Rn 169 (14, [x0, x1, x2, x3], [.int i], a, h) = some (some (.int i), a, h) := Rn_ireti c169_14
theorem c169_15 : mcode 169 15 = some (.aload_n 0, 1, 0, 0, 0) := rfl
theorem r169_15 : Rn 169 (15, [some (.ref q), x1, x2, x3], st, a, h) = Rn 169 (16, [some (.ref q), x1, x2, x3], .ref q :: st, a, h) := Rn_go c169_15 rfl
theorem c169_16 : mcode 169 16 = some (.getfield 7, 3, 6, 0, 0) := rfl
theorem r169_16 : Rn 169 (16, [x0, x1, x2, x3], .ref q :: st, a, h) = Kv 169 19 [x0, x1, x2, x3] st a h (mgf h q 6 0) := Rn_getf c169_16 rfl
theorem c169_19 : mcode 169 19 = some (.aload_n 0, 1, 0, 0, 0) := rfl
theorem r169_19 : Rn 169 (19, [some (.ref q), x1, x2, x3], st, a, h) = Rn 169 (20, [some (.ref q), x1, x2, x3], .ref q :: st, a, h) := Rn_go c169_19 rfl
theorem c169_20 : mcode 169 20 = some (.getfield 19, 3, 6, 3, 0) := rfl
theorem r169_20 : Rn 169 (20, [x0, x1, x2, x3], .ref q :: st, a, h) = Kv 169 23 [x0, x1, x2, x3] st a h (mgf h q 6 3) := Rn_getf c169_20 rfl
theorem c169_23 : mcode 169 23 = some (.invokestatic 157, 3, 126, 2, 0) := rfl
theorem r169_23 : Rn 169 (23, [x0, x1, x2, x3], [v1, v0], a, h) = Bk 169 26 [x0, x1, x2, x3] [] (Ec 126 [v0, v1] a h) := Rn_call0 c169_23 (fun z => nomatch z) rfl (Nat.le_of_ble_eq_true rfl) rfl rfl (Nat.le_of_ble_eq_true rfl)
theorem c169_26 : mcode 169 26 = some (.aload_n 0, 1, 0, 0, 0) := rfl
theorem r169_26 : Rn 169 (26, [some (.ref q), x1, x2, x3], st, a, h) = Rn 169 (27, [some (.ref q), x1, x2, x3], .ref q :: st, a, h) := Rn_go c169_26 rfl
theorem c169_27 : mcode 169 27 = some (.iload_n 1, 1, 0, 0, 0) := rfl
theorem r169_27 : Rn 169 (27, [x0, some (.int i), x2, x3], st, a, h) = Rn 169 (28, [x0, some (.int i), x2, x3], .int i :: st, a, h) := Rn_go c169_27 rfl
theorem c169_28 : mcode 169 28 = some (.iconst 5, 1, 0, 0, 0) := rfl
theorem r169_28 : Rn 169 (28, [x0, x1, x2, x3], st, a, h) = Rn 169 (29, [x0, x1, x2, x3], .int (5 : Int32) :: st, a, h) := Rn_go c169_28 rfl
theorem c169_29 : mcode 169 29 = some (.invokevirtual 63, 3, 131, 2, 6) := rfl
theorem r169_29 : Rn 169 (29, [x0, x1, x2, x3], [v1, v0, .ref q], a, h) = if mis h q 6 = true then Bk 169 32 [x0, x1, x2, x3] [] (Ec 131 [.ref q, v0, v1] a h) else none := Rn_call1 c169_29 rfl (Nat.le_of_ble_eq_true rfl) rfl rfl (Nat.le_of_ble_eq_true rfl)
theorem c169_32 : mcode 169 32 = some (.istore_n 2, 1, 0, 0, 0) := rfl
theorem r169_32 : Rn 169 (32, [x0, x1, x2, x3], .int i :: st, a, h) = Nl x1 (Rn 169 (33, [x0, x1, some (.int i), x3], st, a, h)) := Rn_st1 (k := 2) (v := .int i) x1 c169_32 rfl rfl rfl rfl
theorem c169_33 : mcode 169 33 = some (.iconst 0, 1, 0, 0, 0) := rfl
theorem r169_33 : Rn 169 (33, [x0, x1, x2, x3], st, a, h) = Rn 169 (34, [x0, x1, x2, x3], .int (0 : Int32) :: st, a, h) := Rn_go c169_33 rfl
theorem c169_34 : mcode 169 34 = some (.istore_n 3, 1, 0, 0, 0) := rfl
theorem r169_34 : Rn 169 (34, [x0, x1, x2, x3], .int i :: st, a, h) = Nl x2 (Rn 169 (35, [x0, x1, x2, some (.int i)], st, a, h)) := Rn_st1 (k := 3) (v := .int i) x2 c169_34 rfl rfl rfl rfl
theorem c169_35 : mcode 169 35 = some (.iload_n 3, 1, 0, 0, 0) := rfl
theorem r169_35 : Rn 169 (35, [x0, x1, x2, some (.int i)], st, a, h) = Rn 169 (36, [x0, x1, x2, some (.int i)], .int i :: st, a, h) := Rn_go c169_35 rfl
theorem c169_36 : mcode 169 36 = some (.sipush 200, 3, 0, 0, 0) := rfl
theorem r169_36 : Rn 169 (36, [x0, x1, x2, x3], st, a, h) = Rn 169 (39, [x0, x1, x2, x3], .int (200 : Int32) :: st, a, h) := Rn_go c169_36 rfl
theorem c169_39 : mcode 169 39 = some (.if_icmp .gt 24, 3, 0, 0, 0) := rfl
theorem r169_39 : Rn 169 (39, [x0, x1, x2, x3], .int j :: .int i :: st, a, h) = if j < i then Rn 169 (63, [x0, x1, x2, x3], st, a, h) else Rn 169 (42, [x0, x1, x2, x3], st, a, h) := Rn_icmp c169_39 mc_gt rfl rfl
theorem c169_42 : mcode 169 42 = some (.aload_n 0, 1, 0, 0, 0) := rfl
theorem r169_42 : Rn 169 (42, [some (.ref q), x1, x2, x3], st, a, h) = Rn 169 (43, [some (.ref q), x1, x2, x3], .ref q :: st, a, h) := Rn_go c169_42 rfl
theorem c169_43 : mcode 169 43 = some (.iload_n 1, 1, 0, 0, 0) := rfl
theorem r169_43 : Rn 169 (43, [x0, some (.int i), x2, x3], st, a, h) = Rn 169 (44, [x0, some (.int i), x2, x3], .int i :: st, a, h) := Rn_go c169_43 rfl
theorem c169_44 : mcode 169 44 = some (.iconst 5, 1, 0, 0, 0) := rfl
theorem r169_44 : Rn 169 (44, [x0, x1, x2, x3], st, a, h) = Rn 169 (45, [x0, x1, x2, x3], .int (5 : Int32) :: st, a, h) := Rn_go c169_44 rfl
theorem c169_45 : mcode 169 45 = some (.invokevirtual 63, 3, 131, 2, 6) := rfl
theorem r169_45 : Rn 169 (45, [x0, x1, x2, x3], [v1, v0, .ref q], a, h) = if mis h q 6 = true then Bk 169 48 [x0, x1, x2, x3] [] (Ec 131 [.ref q, v0, v1] a h) else none := Rn_call1 c169_45 rfl (Nat.le_of_ble_eq_true rfl) rfl rfl (Nat.le_of_ble_eq_true rfl)
theorem c169_48 : mcode 169 48 = some (.iload_n 2, 1, 0, 0, 0) := rfl
theorem r169_48 : Rn 169 (48, [x0, x1, some (.int i), x3], st, a, h) = Rn 169 (49, [x0, x1, some (.int i), x3], .int i :: st, a, h) := Rn_go c169_48 rfl
theorem c169_49 : mcode 169 49 = some (.if_icmp .ne 14, 3, 0, 0, 0) := rfl
theorem r169_49 : Rn 169 (49, [x0, x1, x2, x3], .int j :: .int i :: st, a, h) = if i = j then Rn 169 (52, [x0, x1, x2, x3], st, a, h) else Rn 169 (63, [x0, x1, x2, x3], st, a, h) := Rn_icmpn c169_49 mc_ne rfl rfl
theorem c169_52 : mcode 169 52 = some (.aload_n 0, 1, 0, 0, 0) := rfl
theorem r169_52 : Rn 169 (52, [some (.ref q), x1, x2, x3], st, a, h) = Rn 169 (53, [some (.ref q), x1, x2, x3], .ref q :: st, a, h) := Rn_go c169_52 rfl
theorem c169_53 : mcode 169 53 = some (.iconst 0, 1, 0, 0, 0) := rfl
theorem r169_53 : Rn 169 (53, [x0, x1, x2, x3], st, a, h) = Rn 169 (54, [x0, x1, x2, x3], .int (0 : Int32) :: st, a, h) := Rn_go c169_53 rfl
theorem c169_54 : mcode 169 54 = some (.invokevirtual 131, 3, 157, 1, 6) := rfl
theorem r169_54 : Rn 169 (54, [x0, x1, x2, x3], [v0, .ref q], a, h) = if mis h q 6 = true then Bk 169 57 [x0, x1, x2, x3] [] (Ec 157 [.ref q, v0] a h) else none := Rn_call1 c169_54 rfl (Nat.le_of_ble_eq_true rfl) rfl rfl (Nat.le_of_ble_eq_true rfl)
theorem c169_57 : mcode 169 57 = some (.iinc 3 1, 3, 0, 0, 0) := rfl
theorem r169_57 : Rn 169 (57, [x0, x1, x2, some (.int i)], st, a, h) = Nl x2 (Rn 169 (60, [x0, x1, x2, some (.int (i + (1 : Int32)))], st, a, h)) := Rn_st1 (k := 3) (v := .int (i + (1 : Int32))) x2 c169_57 rfl rfl rfl rfl
theorem c169_60 : mcode 169 60 = some (.goto (-25), 3, 0, 0, 0) := rfl
theorem r169_60 : Rn 169 (60, [x0, x1, x2, x3], st, a, h) = Rn 169 (35, [x0, x1, x2, x3], st, a, h) := Rn_goto c169_60 rfl
theorem c169_63 : mcode 169 63 = some (.aload_n 0, 1, 0, 0, 0) := rfl
theorem r169_63 : Rn 169 (63, [some (.ref q), x1, x2, x3], st, a, h) = Rn 169 (64, [some (.ref q), x1, x2, x3], .ref q :: st, a, h) := Rn_go c169_63 rfl
theorem c169_64 : mcode 169 64 = some (.getfield 19, 3, 6, 3, 0) := rfl
theorem r169_64 : Rn 169 (64, [x0, x1, x2, x3], .ref q :: st, a, h) = Kv 169 67 [x0, x1, x2, x3] st a h (mgf h q 6 3) := Rn_getf c169_64 rfl
theorem c169_67 : mcode 169 67 = some (.aload_n 0, 1, 0, 0, 0) := rfl
theorem r169_67 : Rn 169 (67, [some (.ref q), x1, x2, x3], st, a, h) = Rn 169 (68, [some (.ref q), x1, x2, x3], .ref q :: st, a, h) := Rn_go c169_67 rfl
theorem c169_68 : mcode 169 68 = some (.getfield 7, 3, 6, 0, 0) := rfl
theorem r169_68 : Rn 169 (68, [x0, x1, x2, x3], .ref q :: st, a, h) = Kv 169 71 [x0, x1, x2, x3] st a h (mgf h q 6 0) := Rn_getf c169_68 rfl
theorem c169_71 : mcode 169 71 = some (.invokestatic 157, 3, 126, 2, 0) := rfl
theorem r169_71 : Rn 169 (71, [x0, x1, x2, x3], [v1, v0], a, h) = Bk 169 74 [x0, x1, x2, x3] [] (Ec 126 [v0, v1] a h) := Rn_call0 c169_71 (fun z => nomatch z) rfl (Nat.le_of_ble_eq_true rfl) rfl rfl (Nat.le_of_ble_eq_true rfl)
theorem c169_74 : mcode 169 74 = some (.iload_n 3, 1, 0, 0, 0) := rfl
theorem r169_74 : Rn 169 (74, [x0, x1, x2, some (.int i)], st, a, h) = Rn 169 (75, [x0, x1, x2, some (.int i)], .int i :: st, a, h) := Rn_go c169_74 rfl
theorem c169_75 : mcode 169 75 = some (.sipush 200, 3, 0, 0, 0) := rfl
theorem r169_75 : Rn 169 (75, [x0, x1, x2, x3], st, a, h) = Rn 169 (78, [x0, x1, x2, x3], .int (200 : Int32) :: st, a, h) := Rn_go c169_75 rfl
theorem c169_78 : mcode 169 78 = some (.if_icmp .gt 7, 3, 0, 0, 0) := rfl
theorem r169_78 : Rn 169 (78, [x0, x1, x2, x3], .int j :: .int i :: st, a, h) = if j < i then Rn 169 (85, [x0, x1, x2, x3], st, a, h) else Rn 169 (81, [x0, x1, x2, x3], st, a, h) := Rn_icmp c169_78 mc_gt rfl rfl
theorem c169_81 : mcode 169 81 = some (.iload_n 3, 1, 0, 0, 0) := rfl
theorem r169_81 : Rn 169 (81, [x0, x1, x2, some (.int i)], st, a, h) = Rn 169 (82, [x0, x1, x2, some (.int i)], .int i :: st, a, h) := Rn_go c169_81 rfl
theorem c169_82 : mcode 169 82 = some (.goto 9, 3, 0, 0, 0) := rfl
theorem r169_82 : Rn 169 (82, [x0, x1, x2, x3], st, a, h) = Rn 169 (91, [x0, x1, x2, x3], st, a, h) := Rn_goto c169_82 rfl
theorem c169_85 : mcode 169 85 = some (.aload_n 0, 1, 0, 0, 0) := rfl
theorem r169_85 : Rn 169 (85, [some (.ref q), x1, x2, x3], st, a, h) = Rn 169 (86, [some (.ref q), x1, x2, x3], .ref q :: st, a, h) := Rn_go c169_85 rfl
theorem c169_86 : mcode 169 86 = some (.ldc 38, 2, 0, 0, -1000004) := rfl
theorem r169_86 : Rn 169 (86, [x0, x1, x2, x3], st, a, h) = Rn 169 (88, [x0, x1, x2, x3], .int (-1000004 : Int32) :: st, a, h) := Rn_go c169_86 rfl
theorem c169_88 : mcode 169 88 = some (.invokevirtual 39, 3, 124, 1, 6) := rfl
theorem r169_88 : Rn 169 (88, [x0, x1, x2, x3], [v0, .ref q], a, h) = if mis h q 6 = true then Bk 169 91 [x0, x1, x2, x3] [] (Ec 124 [.ref q, v0] a h) else none := Rn_call1 c169_88 rfl (Nat.le_of_ble_eq_true rfl) rfl rfl (Nat.le_of_ble_eq_true rfl)
theorem c169_91 : mcode 169 91 = some (.ireturn, 1, 0, 0, 0) := rfl
theorem r169_91 : Rn 169 (91, [x0, x1, x2, x3], [.int i], a, h) = some (some (.int i), a, h) := Rn_ireti c169_91
theorem c170_0 : mcode 170 0 = some (.aload_n 0, 1, 0, 0, 0) := rfl
theorem r170_0 : Rn 170 (0, [some (.ref q), x1, x2, x3], st, a, h) = Rn 170 (1, [some (.ref q), x1, x2, x3], .ref q :: st, a, h) := Rn_go c170_0 rfl
theorem c170_1 : mcode 170 1 = some (.iload_n 1, 1, 0, 0, 0) := rfl
theorem r170_1 : Rn 170 (1, [x0, some (.int i), x2, x3], st, a, h) = Rn 170 (2, [x0, some (.int i), x2, x3], .int i :: st, a, h) := Rn_go c170_1 rfl
theorem c170_2 : mcode 170 2 = some (.invokevirtual 98, 3, 129, 1, 6) := rfl
theorem r170_2 : Rn 170 (2, [x0, x1, x2, x3], [v0, .ref q], a, h) = if mis h q 6 = true then Bk 170 5 [x0, x1, x2, x3] [] (Ec 129 [.ref q, v0] a h) else none := Rn_call1 c170_2 rfl (Nat.le_of_ble_eq_true rfl) rfl rfl (Nat.le_of_ble_eq_true rfl)
theorem c170_5 : mcode 170 5 = some (.ifCond .eq 10, 3, 0, 0, 0) := rfl
theorem r170_5 : Rn 170 (5, [x0, x1, x2, x3], .int i :: st, a, h) = if i = 0 then Rn 170 (15, [x0, x1, x2, x3], st, a, h) else Rn 170 (8, [x0, x1, x2, x3], st, a, h) := Rn_ifc c170_5 mc_eq rfl rfl
theorem c170_8 : mcode 170 8 = some (.iload_n 2, 1, 0, 0, 0) := rfl
theorem r170_8 : Rn 170 (8, [x0, x1, some (.int i), x3], st, a, h) = Rn 170 (9, [x0, x1, some (.int i), x3], .int i :: st, a, h) := Rn_go c170_8 rfl
theorem c170_9 : mcode 170 9 = some (.invokestatic 47, 3, 128, 1, 0) := rfl
theorem r170_9 : Rn 170 (9, [x0, x1, x2, x3], [v0], a, h) = Bk 170 12 [x0, x1, x2, x3] [] (Ec 128 [v0] a h) := Rn_call0 c170_9 (fun z => nomatch z) rfl (Nat.le_of_ble_eq_true rfl) rfl rfl (Nat.le_of_ble_eq_true rfl)
theorem c170_12 : mcode 170 12 = some (.ifCond .ne 10, 3, 0, 0, 0) := rfl
theorem r170_12 : Rn 170 (12, [x0, x1, x2, x3], .int i :: st, a, h) = if i = 0 then Rn 170 (15, [x0, x1, x2, x3], st, a, h) else Rn 170 (22, [x0, x1, x2, x3], st, a, h) := Rn_ifcn c170_12 mc_ne rfl rfl
theorem c170_15 : mcode 170 15 = some (.aload_n 0, 1, 0, 0, 0) := rfl
theorem r170_15 : Rn 170 (15, [some (.ref q), x1, x2, x3], st, a, h) = Rn 170 (16, [some (.ref q), x1, x2, x3], .ref q :: st, a, h) := Rn_go c170_15 rfl
theorem c170_16 : mcode 170 16 = some (.ldc 37, 2, 0, 0, -1000001) := rfl
theorem r170_16 : Rn 170 (16, [x0, x1, x2, x3], st, a, h) = Rn 170 (18, [x0, x1, x2, x3], .int (-1000001 : Int32) :: st, a, h) := Rn_go c170_16 rfl
theorem c170_18 : mcode 170 18 = some (.invokevirtual 39, 3, 124, 1, 6) := rfl
theorem r170_18 : Rn 170 (18, [x0, x1, x2, x3], [v0, .ref q], a, h) = if mis h q 6 = true then Bk 170 21 [x0, x1, x2, x3] [] (Ec 124 [.ref q, v0] a h) else none := Rn_call1 c170_18 rfl (Nat.le_of_ble_eq_true rfl) rfl rfl (Nat.le_of_ble_eq_true rfl)
theorem c170_21 : mcode 170 21 = some (.ireturn, 1, 0, 0, 0) := rfl
theorem r170_21 : Rn 170 (21, [x0, x1, x2, x3], [.int i], a, h) = some (some (.int i), a, h) := Rn_ireti c170_21
theorem c170_22 : mcode 170 22 = some (.aload_n 0, 1, 0, 0, 0) := rfl
theorem r170_22 : Rn 170 (22, [some (.ref q), x1, x2, x3], st, a, h) = Rn 170 (23, [some (.ref q), x1, x2, x3], .ref q :: st, a, h) := Rn_go c170_22 rfl
theorem c170_23 : mcode 170 23 = some (.getfield 7, 3, 6, 0, 0) := rfl
theorem r170_23 : Rn 170 (23, [x0, x1, x2, x3], .ref q :: st, a, h) = Kv 170 26 [x0, x1, x2, x3] st a h (mgf h q 6 0) := Rn_getf c170_23 rfl
theorem c170_26 : mcode 170 26 = some (.aload_n 0, 1, 0, 0, 0) := rfl
theorem r170_26 : Rn 170 (26, [some (.ref q), x1, x2, x3], st, a, h) = Rn 170 (27, [some (.ref q), x1, x2, x3], .ref q :: st, a, h) := Rn_go c170_26 rfl
theorem c170_27 : mcode 170 27 = some (.getfield 19, 3, 6, 3, 0) := rfl
theorem r170_27 : Rn 170 (27, [x0, x1, x2, x3], .ref q :: st, a, h) = Kv 170 30 [x0, x1, x2, x3] st a h (mgf h q 6 3) := Rn_getf c170_27 rfl
theorem c170_30 : mcode 170 30 = some (.invokestatic 157, 3, 126, 2, 0) := rfl
theorem r170_30 : Rn 170 (30, [x0, x1, x2, x3], [v1, v0], a, h) = Bk 170 33 [x0, x1, x2, x3] [] (Ec 126 [v0, v1] a h) := Rn_call0 c170_30 (fun z => nomatch z) rfl (Nat.le_of_ble_eq_true rfl) rfl rfl (Nat.le_of_ble_eq_true rfl)
theorem c170_33 : mcode 170 33 = some (.iconst 0, 1, 0, 0, 0) := rfl
theorem r170_33 : Rn 170 (33, [x0, x1, x2, x3], st, a, h) = Rn 170 (34, [x0, x1, x2, x3], .int (0 : Int32) :: st, a, h) := Rn_go c170_33 rfl
theorem c170_34 : mcode 170 34 = some (.istore_n 3, 1, 0, 0, 0) := rfl
theorem r170_34 : Rn 170 (34, [x0, x1, x2, x3], .int i :: st, a, h) = Nl x2 (Rn 170 (35, [x0, x1, x2, some (.int i)], st, a, h)) := Rn_st1 (k := 3) (v := .int i) x2 c170_34 rfl rfl rfl rfl
theorem c170_35 : mcode 170 35 = some (.iload_n 3, 1, 0, 0, 0) := rfl
theorem r170_35 : Rn 170 (35, [x0, x1, x2, some (.int i)], st, a, h) = Rn 170 (36, [x0, x1, x2, some (.int i)], .int i :: st, a, h) := Rn_go c170_35 rfl
theorem c170_36 : mcode 170 36 = some (.sipush 200, 3, 0, 0, 0) := rfl
theorem r170_36 : Rn 170 (36, [x0, x1, x2, x3], st, a, h) = Rn 170 (39, [x0, x1, x2, x3], .int (200 : Int32) :: st, a, h) := Rn_go c170_36 rfl
theorem c170_39 : mcode 170 39 = some (.if_icmp .gt 24, 3, 0, 0, 0) := rfl
theorem r170_39 : Rn 170 (39, [x0, x1, x2, x3], .int j :: .int i :: st, a, h) = if j < i then Rn 170 (63, [x0, x1, x2, x3], st, a, h) else Rn 170 (42, [x0, x1, x2, x3], st, a, h) := Rn_icmp c170_39 mc_gt rfl rfl
theorem c170_42 : mcode 170 42 = some (.aload_n 0, 1, 0, 0, 0) := rfl
theorem r170_42 : Rn 170 (42, [some (.ref q), x1, x2, x3], st, a, h) = Rn 170 (43, [some (.ref q), x1, x2, x3], .ref q :: st, a, h) := Rn_go c170_42 rfl
theorem c170_43 : mcode 170 43 = some (.iload_n 1, 1, 0, 0, 0) := rfl
theorem r170_43 : Rn 170 (43, [x0, some (.int i), x2, x3], st, a, h) = Rn 170 (44, [x0, some (.int i), x2, x3], .int i :: st, a, h) := Rn_go c170_43 rfl
theorem c170_44 : mcode 170 44 = some (.iconst 2, 1, 0, 0, 0) := rfl
theorem r170_44 : Rn 170 (44, [x0, x1, x2, x3], st, a, h) = Rn 170 (45, [x0, x1, x2, x3], .int (2 : Int32) :: st, a, h) := Rn_go c170_44 rfl
theorem c170_45 : mcode 170 45 = some (.invokevirtual 63, 3, 131, 2, 6) := rfl
theorem r170_45 : Rn 170 (45, [x0, x1, x2, x3], [v1, v0, .ref q], a, h) = if mis h q 6 = true then Bk 170 48 [x0, x1, x2, x3] [] (Ec 131 [.ref q, v0, v1] a h) else none := Rn_call1 c170_45 rfl (Nat.le_of_ble_eq_true rfl) rfl rfl (Nat.le_of_ble_eq_true rfl)
theorem c170_48 : mcode 170 48 = some (.iload_n 2, 1, 0, 0, 0) := rfl
theorem r170_48 : Rn 170 (48, [x0, x1, some (.int i), x3], st, a, h) = Rn 170 (49, [x0, x1, some (.int i), x3], .int i :: st, a, h) := Rn_go c170_48 rfl
theorem c170_49 : mcode 170 49 = some (.if_icmp .eq 14, 3, 0, 0, 0) := rfl
theorem r170_49 : Rn 170 (49, [x0, x1, x2, x3], .int j :: .int i :: st, a, h) = if i = j then Rn 170 (63, [x0, x1, x2, x3], st, a, h) else Rn 170 (52, [x0, x1, x2, x3], st, a, h) := Rn_icmp c170_49 mc_eq rfl rfl
theorem c170_52 : mcode 170 52 = some (.aload_n 0, 1, 0, 0, 0) := rfl
theorem r170_52 : Rn 170 (52, [some (.ref q), x1, x2, x3], st, a, h) = Rn 170 (53, [some (.ref q), x1, x2, x3], .ref q :: st, a, h) := Rn_go c170_52 rfl
theorem c170_53 : mcode 170 53 = some (.iconst 0, 1, 0, 0, 0) := rfl
theorem r170_53 : Rn 170 (53, [x0, x1, x2, x3], st, a, h) = Rn 170 (54, [x0, x1, x2, x3], .int (0 : Int32) :: st, a, h) := Rn_go c170_53 rfl
theorem c170_54 : mcode 170 54 = some (.invokevirtual 131, 3, 157, 1, 6) := rfl
theorem r170_54 : Rn 170 (54, [x0, x1, x2, x3], [v0, .ref q], a, h) = if mis h q 6 = true then Bk 170 57 [x0, x1, x2, x3] [] (Ec 157 [.ref q, v0] a h) else none := Rn_call1 c170_54 rfl (Nat.le_of_ble_eq_true rfl) rfl rfl (Nat.le_of_ble_eq_true rfl)
theorem c170_57 : mcode 170 57 = some (.iinc 3 1, 3, 0, 0, 0) := rfl
theorem r170_57 : Rn 170 (57, [x0, x1, x2, some (.int i)], st, a, h) = Nl x2 (Rn 170 (60, [x0, x1, x2, some (.int (i + (1 : Int32)))], st, a, h)) := Rn_st1 (k := 3) (v := .int (i + (1 : Int32))) x2 c170_57 rfl rfl rfl rfl
theorem c170_60 : mcode 170 60 = some (.goto (-25), 3, 0, 0, 0) := rfl
theorem r170_60 : Rn 170 (60, [x0, x1, x2, x3], st, a, h) = Rn 170 (35, [x0, x1, x2, x3], st, a, h) := Rn_goto c170_60 rfl
theorem c170_63 : mcode 170 63 = some (.aload_n 0, 1, 0, 0, 0) := rfl
theorem r170_63 : Rn 170 (63, [some (.ref q), x1, x2, x3], st, a, h) = Rn 170 (64, [some (.ref q), x1, x2, x3], .ref q :: st, a, h) := Rn_go c170_63 rfl
theorem c170_64 : mcode 170 64 = some (.getfield 19, 3, 6, 3, 0) := rfl
theorem r170_64 : Rn 170 (64, [x0, x1, x2, x3], .ref q :: st, a, h) = Kv 170 67 [x0, x1, x2, x3] st a h (mgf h q 6 3) := Rn_getf c170_64 rfl
theorem c170_67 : mcode 170 67 = some (.aload_n 0, 1, 0, 0, 0) := rfl
theorem r170_67 : Rn 170 (67, [some (.ref q), x1, x2, x3], st, a, h) = Rn 170 (68, [some (.ref q), x1, x2, x3], .ref q :: st, a, h) := Rn_go c170_67 rfl
theorem c170_68 : mcode 170 68 = some (.getfield 7, 3, 6, 0, 0) := rfl
theorem r170_68 : Rn 170 (68, [x0, x1, x2, x3], .ref q :: st, a, h) = Kv 170 71 [x0, x1, x2, x3] st a h (mgf h q 6 0) := Rn_getf c170_68 rfl
theorem c170_71 : mcode 170 71 = some (.invokestatic 157, 3, 126, 2, 0) := rfl
theorem r170_71 : Rn 170 (71, [x0, x1, x2, x3], [v1, v0], a, h) = Bk 170 74 [x0, x1, x2, x3] [] (Ec 126 [v0, v1] a h) := Rn_call0 c170_71 (fun z => nomatch z) rfl (Nat.le_of_ble_eq_true rfl) rfl rfl (Nat.le_of_ble_eq_true rfl)
theorem c170_74 : mcode 170 74 = some (.iload_n 3, 1, 0, 0, 0) := rfl
theorem r170_74 : Rn 170 (74, [x0, x1, x2, some (.int i)], st, a, h) = Rn 170 (75, [x0, x1, x2, some (.int i)], .int i :: st, a, h) := Rn_go c170_74 rfl
theorem c170_75 : mcode 170 75 = some (.sipush 200, 3, 0, 0, 0) := rfl
theorem r170_75 : Rn 170 (75, [x0, x1, x2, x3], st, a, h) = Rn 170 (78, [x0, x1, x2, x3], .int (200 : Int32) :: st, a, h) := Rn_go c170_75 rfl
theorem c170_78 : mcode 170 78 = some (.if_icmp .gt 7, 3, 0, 0, 0) := rfl
theorem r170_78 : Rn 170 (78, [x0, x1, x2, x3], .int j :: .int i :: st, a, h) = if j < i then Rn 170 (85, [x0, x1, x2, x3], st, a, h) else Rn 170 (81, [x0, x1, x2, x3], st, a, h) := Rn_icmp c170_78 mc_gt rfl rfl
theorem c170_81 : mcode 170 81 = some (.iload_n 3, 1, 0, 0, 0) := rfl
theorem r170_81 : Rn 170 (81, [x0, x1, x2, some (.int i)], st, a, h) = Rn 170 (82, [x0, x1, x2, some (.int i)], .int i :: st, a, h) := Rn_go c170_81 rfl
theorem c170_82 : mcode 170 82 = some (.goto 9, 3, 0, 0, 0) := rfl
theorem r170_82 : Rn 170 (82, [x0, x1, x2, x3], st, a, h) = Rn 170 (91, [x0, x1, x2, x3], st, a, h) := Rn_goto c170_82 rfl
theorem c170_85 : mcode 170 85 = some (.aload_n 0, 1, 0, 0, 0) := rfl
theorem r170_85 : Rn 170 (85, [some (.ref q), x1, x2, x3], st, a, h) = Rn 170 (86, [some (.ref q), x1, x2, x3], .ref q :: st, a, h) := Rn_go c170_85 rfl
theorem c170_86 : mcode 170 86 = some (.ldc 38, 2, 0, 0, -1000004) := rfl
theorem r170_86 : Rn 170 (86, [x0, x1, x2, x3], st, a, h) = Rn 170 (88, [x0, x1, x2, x3], .int (-1000004 : Int32) :: st, a, h) := Rn_go c170_86 rfl
theorem c170_88 : mcode 170 88 = some (.invokevirtual 39, 3, 124, 1, 6) := rfl
theorem r170_88 : Rn 170 (88, [x0, x1, x2, x3], [v0, .ref q], a, h) = if mis h q 6 = true then Bk 170 91 [x0, x1, x2, x3] [] (Ec 124 [.ref q, v0] a h) else none := Rn_call1 c170_88 rfl (Nat.le_of_ble_eq_true rfl) rfl rfl (Nat.le_of_ble_eq_true rfl)
theorem c170_91 : mcode 170 91 = some (.ireturn, 1, 0, 0, 0) := rfl
theorem r170_91 : Rn 170 (91, [x0, x1, x2, x3], [.int i], a, h) = some (some (.int i), a, h) := Rn_ireti c170_91
theorem c171_0 : mcode 171 0 = some (.iload_n 1, 1, 0, 0, 0) := rfl
theorem r171_0 : Rn 171 (0, [x0, some (.int i), x2], st, a, h) = Rn 171 (1, [x0, some (.int i), x2], .int i :: st, a, h) := Rn_go c171_0 rfl
theorem c171_1 : mcode 171 1 = some (.invokestatic 43, 3, 127, 1, 0) := rfl
theorem r171_1 : Rn 171 (1, [x0, x1, x2], [v0], a, h) = Bk 171 4 [x0, x1, x2] [] (Ec 127 [v0] a h) := Rn_call0 c171_1 (fun z => nomatch z) rfl (Nat.le_of_ble_eq_true rfl) rfl rfl (Nat.le_of_ble_eq_true rfl)
theorem c171_4 : mcode 171 4 = some (.ifCond .ne 10, 3, 0, 0, 0) := rfl
theorem r171_4 : Rn 171 (4, [x0, x1, x2], .int i :: st, a, h) = if i = 0 then Rn 171 (7, [x0, x1, x2], st, a, h) else Rn 171 (14, [x0, x1, x2], st, a, h) := Rn_ifcn c171_4 mc_ne rfl rfl
theorem c171_7 : mcode 171 7 = some (.aload_n 0, 1, 0, 0, 0) := rfl
theorem r171_7 : Rn 171 (7, [some (.ref q), x1, x2], st, a, h) = Rn 171 (8, [some (.ref q), x1, x2], .ref q :: st, a, h) := Rn_go c171_7 rfl
theorem c171_8 : mcode 171 8 = some (.ldc 37, 2, 0, 0, -1000001) := rfl
theorem r171_8 : Rn 171 (8, [x0, x1, x2], st, a, h) = Rn 171 (10, [x0, x1, x2], .int (-1000001 : Int32) :: st, a, h) := Rn_go c171_8 rfl
theorem c171_10 : mcode 171 10 = some (.invokevirtual 39, 3, 124, 1, 6) := rfl
theorem r171_10 : Rn 171 (10, [x0, x1, x2], [v0, .ref q], a, h) = if mis h q 6 = true then Bk 171 13 [x0, x1, x2] [] (Ec 124 [.ref q, v0] a h) else none := Rn_call1 c171_10 rfl (Nat.le_of_ble_eq_true rfl) rfl rfl (Nat.le_of_ble_eq_true rfl)
theorem c171_13 : mcode 171 13 = some (.ireturn, 1, 0, 0, 0) := rfl
theorem r171_13 : Rn 171 (13, [x0, x1, x2], [.int i], a, h) = some (some (.int i), a, h) := Rn_ireti c171_13
theorem c171_14 : mcode 171 14 = some (.aload_n 0, 1, 0, 0, 0) := rfl
theorem r171_14 : Rn 171 (14, [some (.ref q), x1, x2], st, a, h) = Rn 171 (15, [some (.ref q), x1, x2], .ref q :: st, a, h) := Rn_go c171_14 rfl
theorem c171_15 : mcode 171 15 = some (.getfield 7, 3, 6, 0, 0) := rfl
theorem r171_15 : Rn 171 (15, [x0, x1, x2], .ref q :: st, a, h) = Kv 171 18 [x0, x1, x2] st a h (mgf h q 6 0) := Rn_getf c171_15 rfl
theorem c171_18 : mcode 171 18 = some (.aload_n 0, 1, 0, 0, 0) := rfl
theorem r171_18 : Rn 171 (18, [some (.ref q), x1, x2], st, a, h) = Rn 171 (19, [some (.ref q), x1, x2], .ref q :: st, a, h) := Rn_go c171_18 rfl
theorem c171_19 : mcode 171 19 = some (.getfield 19, 3, 6, 3, 0) := rfl
theorem r171_19 : Rn 171 (19, [x0, x1, x2], .ref q :: st, a, h) = Kv 171 22 [x0, x1, x2] st a h (mgf h q 6 3) := Rn_getf c171_19 rfl
theorem c171_22 : mcode 171 22 = some (.invokestatic 157, 3, 126, 2, 0) := rfl
theorem r171_22 : Rn 171 (22, [x0, x1, x2], [v1, v0], a, h) = Bk 171 25 [x0, x1, x2] [] (Ec 126 [v0, v1] a h) := Rn_call0 c171_22 (fun z => nomatch z) rfl (Nat.le_of_ble_eq_true rfl) rfl rfl (Nat.le_of_ble_eq_true rfl)
theorem c171_25 : mcode 171 25 = some (.iconst 0, 1, 0, 0, 0) := rfl
theorem r171_25 : Rn 171 (25, [x0, x1, x2], st, a, h) = Rn 171 (26, [x0, x1, x2], .int (0 : Int32) :: st, a, h) := Rn_go c171_25 rfl
theorem c171_26 : mcode 171 26 = some (.istore_n 2, 1, 0, 0, 0) := rfl
theorem r171_26 : Rn 171 (26, [x0, x1, x2], .int i :: st, a, h) = Nl x1 (Rn 171 (27, [x0, x1, some (.int i)], st, a, h)) := Rn_st1 (k := 2) (v := .int i) x1 c171_26 rfl rfl rfl rfl
theorem c171_27 : mcode 171 27 = some (.iload_n 2, 1, 0, 0, 0) := rfl
theorem r171_27 : Rn 171 (27, [x0, x1, some (.int i)], st, a, h) = Rn 171 (28, [x0, x1, some (.int i)], .int i :: st, a, h) := Rn_go c171_27 rfl
theorem c171_28 : mcode 171 28 = some (.sipush 200, 3, 0, 0, 0) := rfl
theorem r171_28 : Rn 171 (28, [x0, x1, x2], st, a, h) = Rn 171 (31, [x0, x1, x2], .int (200 : Int32) :: st, a, h) := Rn_go c171_28 rfl
theorem c171_31 : mcode 171 31 = some (.if_icmp .gt 22, 3, 0, 0, 0) := rfl
theorem r171_31 : Rn 171 (31, [x0, x1, x2], .int j :: .int i :: st, a, h) = if j < i then Rn 171 (53, [x0, x1, x2], st, a, h) else Rn 171 (34, [x0, x1, x2], st, a, h) := Rn_icmp c171_31 mc_gt rfl rfl
theorem c171_34 : mcode 171 34 = some (.aload_n 0, 1, 0, 0, 0) := rfl
theorem r171_34 : Rn 171 (34, [some (.ref q), x1, x2], st, a, h) = Rn 171 (35, [some (.ref q), x1, x2], .ref q :: st, a, h) := Rn_go c171_34 rfl
theorem c171_35 : mcode 171 35 = some (.iload_n 1, 1, 0, 0, 0) := rfl
theorem r171_35 : Rn 171 (35, [x0, some (.int i), x2], st, a, h) = Rn 171 (36, [x0, some (.int i), x2], .int i :: st, a, h) := Rn_go c171_35 rfl
theorem c171_36 : mcode 171 36 = some (.invokevirtual 145, 3, 162, 1, 6) := rfl
theorem r171_36 : Rn 171 (36, [x0, x1, x2], [v0, .ref q], a, h) = if mis h q 6 = true then Bk 171 39 [x0, x1, x2] [] (Ec 162 [.ref q, v0] a h) else none := Rn_call1 c171_36 rfl (Nat.le_of_ble_eq_true rfl) rfl rfl (Nat.le_of_ble_eq_true rfl)
theorem c171_39 : mcode 171 39 = some (.ifCond .eq 14, 3, 0, 0, 0) := rfl
theorem r171_39 : Rn 171 (39, [x0, x1, x2], .int i :: st, a, h) = if i = 0 then Rn 171 (53, [x0, x1, x2], st, a, h) else Rn 171 (42, [x0, x1, x2], st, a, h) := Rn_ifc c171_39 mc_eq rfl rfl
theorem c171_42 : mcode 171 42 = some (.aload_n 0, 1, 0, 0, 0) := rfl
theorem r171_42 : Rn 171 (42, [some (.ref q), x1, x2], st, a, h) = Rn 171 (43, [some (.ref q), x1, x2], .ref q :: st, a, h) := Rn_go c171_42 rfl
theorem c171_43 : mcode 171 43 = some (.iconst 0, 1, 0, 0, 0) := rfl
theorem r171_43 : Rn 171 (43, [x0, x1, x2], st, a, h) = Rn 171 (44, [x0, x1, x2], .int (0 : Int32) :: st, a, h) := Rn_go c171_43 rfl
theorem c171_44 : mcode 171 44 = some (.invokevirtual 131, 3, 157, 1, 6) := rfl
theorem r171_44 : Rn 171 (44, [x0, x1, x2], [v0, .ref q], a, h) = if mis h q 6 = true then Bk 171 47 [x0, x1, x2] [] (Ec 157 [.ref q, v0] a h) else none := Rn_call1 c171_44 rfl (Nat.le_of_ble_eq_true rfl) rfl rfl (Nat.le_of_ble_eq_true rfl)
theorem c171_47 : mcode 171 47 = some (.iinc 2 1, 3, 0, 0, 0) := rfl
theorem r171_47 : Rn 171 (47, [x0, x1, some (.int i)], st, a, h) = Nl x1 (Rn 171 (50, [x0, x1, some (.int (i + (1 : Int32)))], st, a, h)) := Rn_st1 (k := 2) (v := .int (i + (1 : Int32))) x1 c171_47 rfl rfl rfl rfl
theorem c171_50 : mcode 171 50 = some (.goto (-23), 3, 0, 0, 0) := rfl
theorem r171_50 : Rn 171 (50, [x0, x1, x2], st, a, h) = Rn 171 (27, [x0, x1, x2], st, a, h) := Rn_goto c171_50 rfl
theorem c171_53 : mcode 171 53 = some (.aload_n 0, 1, 0, 0, 0) := rfl
theorem r171_53 : Rn 171 (53, [some (.ref q), x1, x2], st, a, h) = Rn 171 (54, [some (.ref q), x1, x2], .ref q :: st, a, h) := Rn_go c171_53 rfl
theorem c171_54 : mcode 171 54 = some (.getfield 19, 3, 6, 3, 0) := rfl
theorem r171_54 : Rn 171 (54, [x0, x1, x2], .ref q :: st, a, h) = Kv 171 57 [x0, x1, x2] st a h (mgf h q 6 3) := Rn_getf c171_54 rfl
theorem c171_57 : mcode 171 57 = some (.aload_n 0, 1, 0, 0, 0) := rfl
theorem r171_57 : Rn 171 (57, [some (.ref q), x1, x2], st, a, h) = Rn 171 (58, [some (.ref q), x1, x2], .ref q :: st, a, h) := Rn_go c171_57 rfl
theorem c171_58 : mcode 171 58 = some (.getfield 7, 3, 6, 0, 0) := rfl
theorem r171_58 : Rn 171 (58, [x0, x1, x2], .ref q :: st, a, h) = Kv 171 61 [x0, x1, x2] st a h (mgf h q 6 0) := Rn_getf c171_58 rfl
theorem c171_61 : mcode 171 61 = some (.invokestatic 157, 3, 126, 2, 0) := rfl
theorem r171_61 : Rn 171 (61, [x0, x1, x2], [v1, v0], a, h) = Bk 171 64 [x0, x1, x2] [] (Ec 126 [v0, v1] a h) := Rn_call0 c171_61 (fun z => nomatch z) rfl (Nat.le_of_ble_eq_true rfl) rfl rfl (Nat.le_of_ble_eq_true rfl)
theorem c171_64 : mcode 171 64 = some (.iload_n 2, 1, 0, 0, 0) := rfl
theorem r171_64 : Rn 171 (64, [x0, x1, some (.int i)], st, a, h) = Rn 171 (65, [x0, x1, some (.int i)], .int i :: st, a, h) := Rn_go c171_64 rfl
theorem c171_65 : mcode 171 65 = some (.sipush 200, 3, 0, 0, 0) := rfl
theorem r171_65 : Rn 171 (65, [x0, x1, x2], st, a, h) = Rn 171 (68, [x0, x1, x2], .int (200 : Int32) :: st, a, h) := Rn_go c171_65 rfl
theorem c171_68 : mcode 171 68 = some (.if_icmp .gt 7, 3, 0, 0, 0) := rfl
theorem r171_68 : Rn 171 (68, [x0, x1, x2], .int j :: .int i :: st, a, h) = if j < i then Rn 171 (75, [x0, x1, x2], st, a, h) else Rn 171 (71, [x0, x1, x2], st, a, h) := Rn_icmp c171_68 mc_gt rfl rfl
theorem c171_71 : mcode 171 71 = some (.iload_n 2, 1, 0, 0, 0) := rfl
theorem r171_71 : Rn 171 (71, [x0, x1, some (.int i)], st, a, h) = Rn 171 (72, [x0, x1, some (.int i)], .int i :: st, a, h) := Rn_go c171_71 rfl
theorem c171_72 : mcode 171 72 = some (.goto 9, 3, 0, 0, 0) := rfl
theorem r171_72 : Rn 171 (72, [x0, x1, x2], st, a, h) = Rn 171 (81, [x0, x1, x2], st, a, h) := Rn_goto c171_72 rfl
theorem c171_75 : mcode 171 75 = some (.aload_n 0, 1, 0, 0, 0) := rfl
theorem r171_75 : Rn 171 (75, [some (.ref q), x1, x2], st, a, h) = Rn 171 (76, [some (.ref q), x1, x2], .ref q :: st, a, h) := Rn_go c171_75 rfl
theorem c171_76 : mcode 171 76 = some (.ldc 38, 2, 0, 0, -1000004) := rfl
theorem r171_76 : Rn 171 (76, [x0, x1, x2], st, a, h) = Rn 171 (78, [x0, x1, x2], .int (-1000004 : Int32) :: st, a, h) := Rn_go c171_76 rfl
theorem c171_78 : mcode 171 78 = some (.invokevirtual 39, 3, 124, 1, 6) := rfl
theorem r171_78 : Rn 171 (78, [x0, x1, x2], [v0, .ref q], a, h) = if mis h q 6 = true then Bk 171 81 [x0, x1, x2] [] (Ec 124 [.ref q, v0] a h) else none := Rn_call1 c171_78 rfl (Nat.le_of_ble_eq_true rfl) rfl rfl (Nat.le_of_ble_eq_true rfl)
theorem c171_81 : mcode 171 81 = some (.ireturn, 1, 0, 0, 0) := rfl
theorem r171_81 : Rn 171 (81, [x0, x1, x2], [.int i], a, h) = some (some (.int i), a, h) := Rn_ireti c171_81
theorem c172_0 : mcode 172 0 = some (.aload_n 0, 1, 0, 0, 0) := rfl
theorem r172_0 : Rn 172 (0, [some (.ref q), x1, x2, x3], st, a, h) = Rn 172 (1, [some (.ref q), x1, x2, x3], .ref q :: st, a, h) := Rn_go c172_0 rfl
theorem c172_1 : mcode 172 1 = some (.iload_n 1, 1, 0, 0, 0) := rfl
theorem r172_1 : Rn 172 (1, [x0, some (.int i), x2, x3], st, a, h) = Rn 172 (2, [x0, some (.int i), x2, x3], .int i :: st, a, h) := Rn_go c172_1 rfl
theorem c172_2 : mcode 172 2 = some (.invokevirtual 98, 3, 129, 1, 6) := rfl
theorem r172_2 : Rn 172 (2, [x0, x1, x2, x3], [v0, .ref q], a, h) = if mis h q 6 = true then Bk 172 5 [x0, x1, x2, x3] [] (Ec 129 [.ref q, v0] a h) else none := Rn_call1 c172_2 rfl (Nat.le_of_ble_eq_true rfl) rfl rfl (Nat.le_of_ble_eq_true rfl)
theorem c172_5 : mcode 172 5 = some (.ifCond .eq 16, 3, 0, 0, 0) := rfl
theorem r172_5 : Rn 172 (5, [x0, x1, x2, x3], .int i :: st, a, h) = if i = 0 then Rn 172 (21, [x0, x1, x2, x3], st, a, h) else Rn 172 (8, [x0, x1, x2, x3], st, a, h) := Rn_ifc c172_5 mc_eq rfl rfl
theorem c172_8 : mcode 172 8 = some (.aload_n 0, 1, 0, 0, 0) := rfl
theorem r172_8 : Rn 172 (8, [some (.ref q), x1, x2, x3], st, a, h) = Rn 172 (9, [some (.ref q), x1, x2, x3], .ref q :: st, a, h) := Rn_go c172_8 rfl
theorem c172_9 : mcode 172 9 = some (.iload_n 2, 1, 0, 0, 0) := rfl
theorem r172_9 : Rn 172 (9, [x0, x1, some (.int i), x3], st, a, h) = Rn 172 (10, [x0, x1, some (.int i), x3], .int i :: st, a, h) := Rn_go c172_9 rfl
theorem c172_10 : mcode 172 10 = some (.invokevirtual 98, 3, 129, 1, 6) := rfl
theorem r172_10 : Rn 172 (10, [x0, x1, x2, x3], [v0, .ref q], a, h) = if mis h q 6 = true then Bk 172 13 [x0, x1, x2, x3] [] (Ec 129 [.ref q, v0] a h) else none := Rn_call1 c172_10 rfl (Nat.le_of_ble_eq_true rfl) rfl rfl (Nat.le_of_ble_eq_true rfl)
theorem c172_13 : mcode 172 13 = some (.ifCond .eq 8, 3, 0, 0, 0) := rfl
theorem r172_13 : Rn 172 (13, [x0, x1, x2, x3], .int i :: st, a, h) = if i = 0 then Rn 172 (21, [x0, x1, x2, x3], st, a, h) else Rn 172 (16, [x0, x1, x2, x3], st, a, h) := Rn_ifc c172_13 mc_eq rfl rfl
theorem c172_16 : mcode 172 16 = some (.iload_n 1, 1, 0, 0, 0) := rfl
theorem r172_16 : Rn 172 (16, [x0, some (.int i), x2, x3], st, a, h) = Rn 172 (17, [x0, some (.int i), x2, x3], .int i :: st, a, h) := Rn_go c172_16 rfl
theorem c172_17 : mcode 172 17 = some (.iload_n 2, 1, 0, 0, 0) := rfl
theorem r172_17 : Rn 172 (17, [x0, x1, some (.int i), x3], st, a, h) = Rn 172 (18, [x0, x1, some (.int i), x3], .int i :: st, a, h) := Rn_go c172_17 rfl
theorem c172_18 : mcode 172 18 = some (.if_icmp .ne 10, 3, 0, 0, 0) := rfl
theorem r172_18 : Rn 172 (18, [x0, x1, x2, x3], .int j :: .int i :: st, a, h) = if i = j then Rn 172 (21, [x0, x1, x2, x3], st, a, h) else Rn 172 (28, [x0, x1, x2, x3], st, a, h) := Rn_icmpn c172_18 mc_ne rfl rfl
theorem c172_21 : mcode 172 21 = some (.aload_n 0, 1, 0, 0, 0) := rfl
theorem r172_21 : Rn 172 (21, [some (.ref q), x1, x2, x3], st, a, h) = Rn 172 (22, [some (.ref q), x1, x2, x3], .ref q :: st, a, h) := Rn_go c172_21 rfl
theorem c172_22 : mcode 172 22 = some (.ldc 37, 2, 0, 0, -1000001) := rfl
theorem r172_22 : Rn 172 (22, [x0, x1, x2, x3], st, a, h) = Rn 172 (24, [x0, x1, x2, x3], .int (-1000001 : Int32) :: st, a, h) := Rn_go c172_22 rfl
theorem c172_24 : mcode 172 24 = some (.invokevirtual 39, 3, 124, 1, 6) := rfl
theorem r172_24 : Rn 172 (24, [x0, x1, x2, x3], [v0, .ref q], a, h) = if mis h q 6 = true then Bk 172 27 [x0, x1, x2, x3] [] (Ec 124 [.ref q, v0] a h) else none := Rn_call1 c172_24 rfl (Nat.le_of_ble_eq_true rfl) rfl rfl (Nat.le_of_ble_eq_true rfl)
theorem c172_27 : mcode 172 27 = some (.ireturn, 1, 0, 0, 0) := rfl
theorem r172_27 : Rn 172 (27, [x0, x1, x2, x3], [.int i], a, h) = some (some (.int i), a, h) := Rn_ireti c172_27
theorem c172_28 : mcode 172 28 = some (.aload_n 0, 1, 0, 0, 0) := rfl
theorem r172_28 : Rn 172 (28, [some (.ref q), x1, x2, x3], st, a, h) = Rn 172 (29, [some (.ref q), x1, x2, x3], .ref q :: st, a, h) := Rn_go c172_28 rfl
theorem c172_29 : mcode 172 29 = some (.getfield 7, 3, 6, 0, 0) := rfl
theorem r172_29 : Rn 172 (29, [x0, x1, x2, x3], .ref q :: st, a, h) = Kv 172 32 [x0, x1, x2, x3] st a h (mgf h q 6 0) := Rn_getf c172_29 rfl
theorem c172_32 : mcode 172 32 = some (.aload_n 0, 1, 0, 0, 0) := rfl
theorem r172_32 : Rn 172 (32, [some (.ref q), x1, x2, x3], st, a, h) = Rn 172 (33, [some (.ref q), x1, x2, x3], .ref q :: st, a, h) := Rn_go c172_32 rfl
theorem c172_33 : mcode 172 33 = some (.getfield 19, 3, 6, 3, 0) := rfl
theorem r172_33 : Rn 172 (33, [x0, x1, x2, x3], .ref q :: st, a, h) = Kv 172 36 [x0, x1, x2, x3] st a h (mgf h q 6 3) := Rn_getf c172_33 rfl
theorem c172_36 : mcode 172 36 = some (.invokestatic 157, 3, 126, 2, 0) := rfl
theorem r172_36 : Rn 172 (36, [x0, x1, x2, x3], [v1, v0], a, h) = Bk 172 39 [x0, x1, x2, x3] [] (Ec 126 [v0, v1] a h) := Rn_call0 c172_36 (fun z => nomatch z) rfl (Nat.le_of_ble_eq_true rfl) rfl rfl (Nat.le_of_ble_eq_true rfl)
theorem c172_39 : mcode 172 39 = some (.iconst 0, 1, 0, 0, 0) := rfl
theorem r172_39 : Rn 172 (39, [x0, x1, x2, x3], st, a, h) = Rn 172 (40, [x0, x1, x2, x3], .int (0 : Int32) :: st, a, h) := Rn_go c172_39 rfl
theorem c172_40 : mcode 172 40 = some (.istore_n 3, 1, 0, 0, 0) := rfl
theorem r172_40 : Rn 172 (40, [x0, x1, x2, x3], .int i :: st, a, h) = Nl x2 (Rn 172 (41, [x0, x1, x2, some (.int i)], st, a, h)) := Rn_st1 (k := 3) (v := .int i) x2 c172_40 rfl rfl rfl rfl
theorem c172_41 : mcode 172 41 = some (.iload_n 3, 1, 0, 0, 0) := rfl
theorem r172_41 : Rn 172 (41, [x0, x1, x2, some (.int i)], st, a, h) = Rn 172 (42, [x0, x1, x2, some (.int i)], .int i :: st, a, h) := Rn_go c172_41 rfl
theorem c172_42 : mcode 172 42 = some (.sipush 200, 3, 0, 0, 0) := rfl
theorem r172_42 : Rn 172 (42, [x0, x1, x2, x3], st, a, h) = Rn 172 (45, [x0, x1, x2, x3], .int (200 : Int32) :: st, a, h) := Rn_go c172_42 rfl
theorem c172_45 : mcode 172 45 = some (.if_icmp .gt 44, 3, 0, 0, 0) := rfl
theorem r172_45 : Rn 172 (45, [x0, x1, x2, x3], .int j :: .int i :: st, a, h) = if j < i then Rn 172 (89, [x0, x1, x2, x3], st, a, h) else Rn 172 (48, [x0, x1, x2, x3], st, a, h) := Rn_icmp c172_45 mc_gt rfl rfl
theorem c172_48 : mcode 172 48 = some (.aload_n 0, 1, 0, 0, 0) := rfl
theorem r172_48 : Rn 172 (48, [some (.ref q), x1, x2, x3], st, a, h) = Rn 172 (49, [some (.ref q), x1, x2, x3], .ref q :: st, a, h) := Rn_go c172_48 rfl
theorem c172_49 : mcode 172 49 = some (.iload_n 1, 1, 0, 0, 0) := rfl
theorem r172_49 : Rn 172 (49, [x0, some (.int i), x2, x3], st, a, h) = Rn 172 (50, [x0, some (.int i), x2, x3], .int i :: st, a, h) := Rn_go c172_49 rfl
theorem c172_50 : mcode 172 50 = some (.iconst 1, 1, 0, 0, 0) := rfl
theorem r172_50 : Rn 172 (50, [x0, x1, x2, x3], st, a, h) = Rn 172 (51, [x0, x1, x2, x3], .int (1 : Int32) :: st, a, h) := Rn_go c172_50 rfl
theorem c172_51 : mcode 172 51 = some (.invokevirtual 63, 3, 131, 2, 6) := rfl
theorem r172_51 : Rn 172 (51, [x0, x1, x2, x3], [v1, v0, .ref q], a, h) = if mis h q 6 = true then Bk 172 54 [x0, x1, x2, x3] [] (Ec 131 [.ref q, v0, v1] a h) else none := Rn_call1 c172_51 rfl (Nat.le_of_ble_eq_true rfl) rfl rfl (Nat.le_of_ble_eq_true rfl)
theorem c172_54 : mcode 172 54 = some (.aload_n 0, 1, 0, 0, 0) := rfl
theorem r172_54 : Rn 172 (54, [some (.ref q), x1, x2, x3], st, a, h) = Rn 172 (55, [some (.ref q), x1, x2, x3], .ref q :: st, a, h) := Rn_go c172_54 rfl
theorem c172_55 : mcode 172 55 = some (.iload_n 2, 1, 0, 0, 0) := rfl
theorem r172_55 : Rn 172 (55, [x0, x1, some (.int i), x3], st, a, h) = Rn 172 (56, [x0, x1, some (.int i), x3], .int i :: st, a, h) := Rn_go c172_55 rfl
theorem c172_56 : mcode 172 56 = some (.iconst 1, 1, 0, 0, 0) := rfl
theorem r172_56 : Rn 172 (56, [x0, x1, x2, x3], st, a, h) = Rn 172 (57, [x0, x1, x2, x3], .int (1 : Int32) :: st, a, h) := Rn_go c172_56 rfl
theorem c172_57 : mcode 172 57 = some (.invokevirtual 63, 3, 131, 2, 6) := rfl
theorem r172_57 : Rn 172 (57, [x0, x1, x2, x3], [v1, v0, .ref q, .int i0], a, h) = if mis h q 6 = true then Bk 172 60 [x0, x1, x2, x3] [.int i0] (Ec 131 [.ref q, v0, v1] a h) else none := Rn_call1 c172_57 rfl (Nat.le_of_ble_eq_true rfl) rfl rfl (Nat.le_of_ble_eq_true rfl)
theorem c172_60 : mcode 172 60 = some (.if_icmp .ne 18, 3, 0, 0, 0) := rfl
theorem r172_60 : Rn 172 (60, [x0, x1, x2, x3], .int j :: .int i :: st, a, h) = if i = j then Rn 172 (63, [x0, x1, x2, x3], st, a, h) else Rn 172 (78, [x0, x1, x2, x3], st, a, h) := Rn_icmpn c172_60 mc_ne rfl rfl
theorem c172_63 : mcode 172 63 = some (.aload_n 0, 1, 0, 0, 0) := rfl
theorem r172_63 : Rn 172 (63, [some (.ref q), x1, x2, x3], st, a, h) = Rn 172 (64, [some (.ref q), x1, x2, x3], .ref q :: st, a, h) := Rn_go c172_63 rfl
theorem c172_64 : mcode 172 64 = some (.iload_n 1, 1, 0, 0, 0) := rfl
theorem r172_64 : Rn 172 (64, [x0, some (.int i), x2, x3], st, a, h) = Rn 172 (65, [x0, some (.int i), x2, x3], .int i :: st, a, h) := Rn_go c172_64 rfl
theorem c172_65 : mcode 172 65 = some (.iconst 2, 1, 0, 0, 0) := rfl
theorem r172_65 : Rn 172 (65, [x0, x1, x2, x3], st, a, h) = Rn 172 (66, [x0, x1, x2, x3], .int (2 : Int32) :: st, a, h) := Rn_go c172_65 rfl
theorem c172_66 : mcode 172 66 = some (.invokevirtual 63, 3, 131, 2, 6) := rfl
theorem r172_66 : Rn 172 (66, [x0, x1, x2, x3], [v1, v0, .ref q], a, h) = if mis h q 6 = true then Bk 172 69 [x0, x1, x2, x3] [] (Ec 131 [.ref q, v0, v1] a h) else none := Rn_call1 c172_66 rfl (Nat.le_of_ble_eq_true rfl) rfl rfl (Nat.le_of_ble_eq_true rfl)
theorem c172_69 : mcode 172 69 = some (.aload_n 0, 1, 0, 0, 0) := rfl
theorem r172_69 : Rn 172 (69, [some (.ref q), x1, x2, x3], st, a, h) = Rn 172 (70, [some (.ref q), x1, x2, x3], .ref q :: st, a, h) := Rn_go c172_69 rfl
theorem c172_70 : mcode 172 70 = some (.iload_n 2, 1, 0, 0, 0) := rfl
theorem r172_70 : Rn 172 (70, [x0, x1, some (.int i), x3], st, a, h) = Rn 172 (71, [x0, x1, some (.int i), x3], .int i :: st, a, h) := Rn_go c172_70 rfl
theorem c172_71 : mcode 172 71 = some (.iconst 2, 1, 0, 0, 0) := rfl
theorem r172_71 : Rn 172 (71, [x0, x1, x2, x3], st, a, h) = Rn 172 (72, [x0, x1, x2, x3], .int (2 : Int32) :: st, a, h) := Rn_go c172_71 rfl
theorem c172_72 : mcode 172 72 = some (.invokevirtual 63, 3, 131, 2, 6) := rfl
theorem r172_72 : Rn 172 (72, [x0, x1, x2, x3], [v1, v0, .ref q, .int i0], a, h) = if mis h q 6 = true then Bk 172 75 [x0, x1, x2, x3] [.int i0] (Ec 131 [.ref q, v0, v1] a h) else none := Rn_call1 c172_72 rfl (Nat.le_of_ble_eq_true rfl) rfl rfl (Nat.le_of_ble_eq_true rfl)
theorem c172_75 : mcode 172 75 = some (.if_icmp .eq 14, 3, 0, 0, 0) := rfl
theorem r172_75 : Rn 172 (75, [x0, x1, x2, x3], .int j :: .int i :: st, a, h) = if i = j then Rn 172 (89, [x0, x1, x2, x3], st, a, h) else Rn 172 (78, [x0, x1, x2, x3], st, a, h) := Rn_icmp c172_75 mc_eq rfl rfl
theorem c172_78 : mcode 172 78 = some (.aload_n 0, 1, 0, 0, 0) := rfl
theorem r172_78 : Rn 172 (78, [some (.ref q), x1, x2, x3], st, a, h) = Rn 172 (79, [some (.ref q), x1, x2, x3], .ref q :: st, a, h) := Rn_go c172_78 rfl
theorem c172_79 : mcode 172 79 = some (.iconst 0, 1, 0, 0, 0) := rfl
theorem r172_79 : Rn 172 (79, [x0, x1, x2, x3], st, a, h) = Rn 172 (80, [x0, x1, x2, x3], .int (0 : Int32) :: st, a, h) := Rn_go c172_79 rfl
theorem c172_80 : mcode 172 80 = some (.invokevirtual 131, 3, 157, 1, 6) := rfl
theorem r172_80 : Rn 172 (80, [x0, x1, x2, x3], [v0, .ref q], a, h) = if mis h q 6 = true then Bk 172 83 [x0, x1, x2, x3] [] (Ec 157 [.ref q, v0] a h) else none := Rn_call1 c172_80 rfl (Nat.le_of_ble_eq_true rfl) rfl rfl (Nat.le_of_ble_eq_true rfl)
theorem c172_83 : mcode 172 83 = some (.iinc 3 1, 3, 0, 0, 0) := rfl
theorem r172_83 : Rn 172 (83, [x0, x1, x2, some (.int i)], st, a, h) = Nl x2 (Rn 172 (86, [x0, x1, x2, some (.int (i + (1 : Int32)))], st, a, h)) := Rn_st1 (k := 3) (v := .int (i + (1 : Int32))) x2 c172_83 rfl rfl rfl rfl
theorem c172_86 : mcode 172 86 = some (.goto (-45), 3, 0, 0, 0) := rfl
theorem r172_86 : Rn 172 (86, [x0, x1, x2, x3], st, a, h) = Rn 172 (41, [x0, x1, x2, x3], st, a, h) := Rn_goto c172_86 rfl
theorem c172_89 : mcode 172 89 = some (.aload_n 0, 1, 0, 0, 0) := rfl
theorem r172_89 : Rn 172 (89, [some (.ref q), x1, x2, x3], st, a, h) = Rn 172 (90, [some (.ref q), x1, x2, x3], .ref q :: st, a, h) := Rn_go c172_89 rfl
theorem c172_90 : mcode 172 90 = some (.getfield 19, 3, 6, 3, 0) := rfl
theorem r172_90 : Rn 172 (90, [x0, x1, x2, x3], .ref q :: st, a, h) = Kv 172 93 [x0, x1, x2, x3] st a h (mgf h q 6 3) := Rn_getf c172_90 rfl
theorem c172_93 : mcode 172 93 = some (.aload_n 0, 1, 0, 0, 0) := rfl
theorem r172_93 : Rn 172 (93, [some (.ref q), x1, x2, x3], st, a, h) = Rn 172 (94, [some (.ref q), x1, x2, x3], .ref q :: st, a, h) := Rn_go c172_93 rfl
theorem c172_94 : mcode 172 94 = some (.getfield 7, 3, 6, 0, 0) := rfl
theorem r172_94 : Rn 172 (94, [x0, x1, x2, x3], .ref q :: st, a, h) = Kv 172 97 [x0, x1, x2, x3] st a h (mgf h q 6 0) := Rn_getf c172_94 rfl
theorem c172_97 : mcode 172 97 = some (.invokestatic 157, 3, 126, 2, 0) := rfl
theorem r172_97 : Rn 172 (97, [x0, x1, x2, x3], [v1, v0], a, h) = Bk 172 100 [x0, x1, x2, x3] [] (Ec 126 [v0, v1] a h) := Rn_call0 c172_97 (fun z => nomatch z) rfl (Nat.le_of_ble_eq_true rfl) rfl rfl (Nat.le_of_ble_eq_true rfl)
theorem c172_100 : mcode 172 100 = some (.iload_n 3, 1, 0, 0, 0) := rfl
theorem r172_100 : Rn 172 (100, [x0, x1, x2, some (.int i)], st, a, h) = Rn 172 (101, [x0, x1, x2, some (.int i)], .int i :: st, a, h) := Rn_go c172_100 rfl
theorem c172_101 : mcode 172 101 = some (.sipush 200, 3, 0, 0, 0) := rfl
theorem r172_101 : Rn 172 (101, [x0, x1, x2, x3], st, a, h) = Rn 172 (104, [x0, x1, x2, x3], .int (200 : Int32) :: st, a, h) := Rn_go c172_101 rfl
theorem c172_104 : mcode 172 104 = some (.if_icmp .gt 7, 3, 0, 0, 0) := rfl
theorem r172_104 : Rn 172 (104, [x0, x1, x2, x3], .int j :: .int i :: st, a, h) = if j < i then Rn 172 (111, [x0, x1, x2, x3], st, a, h) else Rn 172 (107, [x0, x1, x2, x3], st, a, h) := Rn_icmp c172_104 mc_gt rfl rfl
theorem c172_107 : mcode 172 107 = some (.iload_n 3, 1, 0, 0, 0) := rfl
theorem r172_107 : Rn 172 (107, [x0, x1, x2, some (.int i)], st, a, h) = Rn 172 (108, [x0, x1, x2, some (.int i)], .int i :: st, a, h) := Rn_go c172_107 rfl
theorem c172_108 : mcode 172 108 = some (.goto 9, 3, 0, 0, 0) := rfl
theorem r172_108 : Rn 172 (108, [x0, x1, x2, x3], st, a, h) = Rn 172 (117, [x0, x1, x2, x3], st, a, h) := Rn_goto c172_108 rfl
theorem c172_111 : mcode 172 111 = some (.aload_n 0, 1, 0, 0, 0) := rfl
theorem r172_111 : Rn 172 (111, [some (.ref q), x1, x2, x3], st, a, h) = Rn 172 (112, [some (.ref q), x1, x2, x3], .ref q :: st, a, h) := Rn_go c172_111 rfl
theorem c172_112 : mcode 172 112 = some (.ldc 38, 2, 0, 0, -1000004) := rfl
theorem r172_112 : Rn 172 (112, [x0, x1, x2, x3], st, a, h) = Rn 172 (114, [x0, x1, x2, x3], .int (-1000004 : Int32) :: st, a, h) := Rn_go c172_112 rfl
theorem c172_114 : mcode 172 114 = some (.invokevirtual 39, 3, 124, 1, 6) := rfl
theorem r172_114 : Rn 172 (114, [x0, x1, x2, x3], [v0, .ref q], a, h) = if mis h q 6 = true then Bk 172 117 [x0, x1, x2, x3] [] (Ec 124 [.ref q, v0] a h) else none := Rn_call1 c172_114 rfl (Nat.le_of_ble_eq_true rfl) rfl rfl (Nat.le_of_ble_eq_true rfl)
theorem c172_117 : mcode 172 117 = some (.ireturn, 1, 0, 0, 0) := rfl
theorem r172_117 : Rn 172 (117, [x0, x1, x2, x3], [.int i], a, h) = some (some (.int i), a, h) := Rn_ireti c172_117
theorem c173_0 : mcode 173 0 = some (.aload_n 0, 1, 0, 0, 0) := rfl
theorem r173_0 : Rn 173 (0, [some (.ref q), x1, x2, x3, x4, x5, x6, x7], st, a, h) = Rn 173 (1, [some (.ref q), x1, x2, x3, x4, x5, x6, x7], .ref q :: st, a, h) := Rn_go c173_0 rfl
theorem c173_1 : mcode 173 1 = some (.iload_n 1, 1, 0, 0, 0) := rfl
theorem r173_1 : Rn 173 (1, [x0, some (.int i), x2, x3, x4, x5, x6, x7], st, a, h) = Rn 173 (2, [x0, some (.int i), x2, x3, x4, x5, x6, x7], .int i :: st, a, h) := Rn_go c173_1 rfl
theorem c173_2 : mcode 173 2 = some (.invokevirtual 98, 3, 129, 1, 6) := rfl
theorem r173_2 : Rn 173 (2, [x0, x1, x2, x3, x4, x5, x6, x7], [v0, .ref q], a, h) = if mis h q 6 = true then Bk 173 5 [x0, x1, x2, x3, x4, x5, x6, x7] [] (Ec 129 [.ref q, v0] a h) else none := Rn_call1 c173_2 rfl (Nat.le_of_ble_eq_true rfl) rfl rfl (Nat.le_of_ble_eq_true rfl)
theorem c173_5 : mcode 173 5 = some (.ifCond .eq 15, 3, 0, 0, 0) := rfl
theorem r173_5 : Rn 173 (5, [x0, x1, x2, x3, x4, x5, x6, x7], .int i :: st, a, h) = if i = 0 then Rn 173 (20, [x0, x1, x2, x3, x4, x5, x6, x7], st, a, h) else Rn 173 (8, [x0, x1, x2, x3, x4, x5, x6, x7], st, a, h) := Rn_ifc c173_5 mc_eq rfl rfl
theorem c173_8 : mcode 173 8 = some (.iload_n 2, 1, 0, 0, 0) := rfl
theorem r173_8 : Rn 173 (8, [x0, x1, some (.int i), x3, x4, x5, x6, x7], st, a, h) = Rn 173 (9, [x0, x1, some (.int i), x3, x4, x5, x6, x7], .int i :: st, a, h) := Rn_go c173_8 rfl
theorem c173_9 : mcode 173 9 = some (.i2l, 1, 0, 0, 0) := rfl
theorem r173_9 : Rn 173 (9, [x0, x1, x2, x3, x4, x5, x6, x7], .int i :: st, a, h) = Rn 173 (10, [x0, x1, x2, x3, x4, x5, x6, x7], .long i.toInt64 :: st, a, h) := Rn_go c173_9 rfl
theorem c173_10 : mcode 173 10 = some (.lconst 0, 1, 0, 0, 0) := rfl
theorem r173_10 : Rn 173 (10, [x0, x1, x2, x3, x4, x5, x6, x7], st, a, h) = Rn 173 (11, [x0, x1, x2, x3, x4, x5, x6, x7], .long (0 : Int64) :: st, a, h) := Rn_go c173_10 rfl
theorem c173_11 : mcode 173 11 = some (.ldc2_w 166, 3, 0, 0, 30) := rfl
theorem r173_11 : Rn 173 (11, [x0, x1, x2, x3, x4, x5, x6, x7], st, a, h) = Rn 173 (14, [x0, x1, x2, x3, x4, x5, x6, x7], .long (30 : Int64) :: st, a, h) := Rn_go c173_11 rfl
theorem c173_14 : mcode 173 14 = some (.invokestatic 52, 3, 123, 3, 0) := rfl
theorem r173_14 : Rn 173 (14, [x0, x1, x2, x3, x4, x5, x6, x7], [v2, v1, v0], a, h) = Bk 173 17 [x0, x1, x2, x3, x4, x5, x6, x7] [] (Ec 123 [v0, v1, v2] a h) := Rn_call0 c173_14 (fun z => nomatch z) rfl (Nat.le_of_ble_eq_true rfl) rfl rfl (Nat.le_of_ble_eq_true rfl)
theorem c173_17 : mcode 173 17 = some (.ifCond .ne 10, 3, 0, 0, 0) := rfl
theorem r173_17 : Rn 173 (17, [x0, x1, x2, x3, x4, x5, x6, x7], .int i :: st, a, h) = if i = 0 then Rn 173 (20, [x0, x1, x2, x3, x4, x5, x6, x7], st, a, h) else Rn 173 (27, [x0, x1, x2, x3, x4, x5, x6, x7], st, a, h) := Rn_ifcn c173_17 mc_ne rfl rfl
theorem c173_20 : mcode 173 20 = some (.aload_n 0, 1, 0, 0, 0) := rfl
theorem r173_20 : Rn 173 (20, [some (.ref q), x1, x2, x3, x4, x5, x6, x7], st, a, h) = Rn 173 (21, [some (.ref q), x1, x2, x3, x4, x5, x6, x7], .ref q :: st, a, h) := Rn_go c173_20 rfl
theorem c173_21 : mcode 173 21 = some (.ldc 37, 2, 0, 0, -1000001) := rfl
theorem r173_21 : Rn 173 (21, [x0, x1, x2, x3, x4, x5, x6, x7], st, a, h) = Rn 173 (23, [x0, x1, x2, x3, x4, x5, x6, x7], .int (-1000001 : Int32) :: st, a, h) := Rn_go c173_21 rfl
theorem c173_23 : mcode 173 23 = some (.invokevirtual 39, 3, 124, 1, 6) := rfl
theorem r173_23 : Rn 173 (23, [x0, x1, x2, x3, x4, x5, x6, x7], [v0, .ref q], a, h) = if mis h q 6 = true then Bk 173 26 [x0, x1, x2, x3, x4, x5, x6, x7] [] (Ec 124 [.ref q, v0] a h) else none := Rn_call1 c173_23 rfl (Nat.le_of_ble_eq_true rfl) rfl rfl (Nat.le_of_ble_eq_true rfl)
theorem c173_26 : mcode 173 26 = some (.ireturn, 1, 0, 0, 0) := rfl
theorem r173_26 : Rn 173 (26, [x0, x1, x2, x3, x4, x5, x6, x7], [.int i], a, h) = some (some (.int i), a, h) := Rn_ireti c173_26
theorem c173_27 : mcode 173 27 = some (.iconst 0, 1, 0, 0, 0) := rfl
theorem r173_27 : Rn 173 (27, [x0, x1, x2, x3, x4, x5, x6, x7], st, a, h) = Rn 173 (28, [x0, x1, x2, x3, x4, x5, x6, x7], .int (0 : Int32) :: st, a, h) := Rn_go c173_27 rfl
theorem c173_28 : mcode 173 28 = some (.istore_n 3, 1, 0, 0, 0) := rfl
theorem r173_28 : Rn 173 (28, [x0, x1, x2, x3, x4, x5, x6, x7], .int i :: st, a, h) = Nl x2 (Rn 173 (29, [x0, x1, x2, some (.int i), x4, x5, x6, x7], st, a, h)) := Rn_st1 (k := 3) (v := .int i) x2 c173_28 rfl rfl rfl rfl
theorem c173_29 : mcode 173 29 = some (.iconst (-1), 1, 0, 0, 0) := rfl
theorem r173_29 : Rn 173 (29, [x0, x1, x2, x3, x4, x5, x6, x7], st, a, h) = Rn 173 (30, [x0, x1, x2, x3, x4, x5, x6, x7], .int (-1 : Int32) :: st, a, h) := Rn_go c173_29 rfl
theorem c173_30 : mcode 173 30 = some (.istore 4, 2, 0, 0, 0) := rfl
theorem r173_30 : Rn 173 (30, [x0, x1, x2, x3, x4, x5, x6, x7], .int i :: st, a, h) = Nl x3 (Rn 173 (32, [x0, x1, x2, x3, some (.int i), x5, x6, x7], st, a, h)) := Rn_st1 (k := 4) (v := .int i) x3 c173_30 rfl rfl rfl rfl
theorem c173_32 : mcode 173 32 = some (.iconst 0, 1, 0, 0, 0) := rfl
theorem r173_32 : Rn 173 (32, [x0, x1, x2, x3, x4, x5, x6, x7], st, a, h) = Rn 173 (33, [x0, x1, x2, x3, x4, x5, x6, x7], .int (0 : Int32) :: st, a, h) := Rn_go c173_32 rfl
theorem c173_33 : mcode 173 33 = some (.istore 5, 2, 0, 0, 0) := rfl
theorem r173_33 : Rn 173 (33, [x0, x1, x2, x3, x4, x5, x6, x7], .int i :: st, a, h) = Nl x4 (Rn 173 (35, [x0, x1, x2, x3, x4, some (.int i), x6, x7], st, a, h)) := Rn_st1 (k := 5) (v := .int i) x4 c173_33 rfl rfl rfl rfl
theorem c173_35 : mcode 173 35 = some (.iload 5, 2, 0, 0, 0) := rfl
theorem r173_35 : Rn 173 (35, [x0, x1, x2, x3, x4, some (.int i), x6, x7], st, a, h) = Rn 173 (37, [x0, x1, x2, x3, x4, some (.int i), x6, x7], .int i :: st, a, h) := Rn_go c173_35 rfl
theorem c173_37 : mcode 173 37 = some (.bipush 8, 2, 0, 0, 0) := rfl
theorem r173_37 : Rn 173 (37, [x0, x1, x2, x3, x4, x5, x6, x7], st, a, h) = Rn 173 (39, [x0, x1, x2, x3, x4, x5, x6, x7], .int (8 : Int32) :: st, a, h) := Rn_go c173_37 rfl
theorem c173_39 : mcode 173 39 = some (.if_icmp .ge 85, 3, 0, 0, 0) := rfl
theorem r173_39 : Rn 173 (39, [x0, x1, x2, x3, x4, x5, x6, x7], .int j :: .int i :: st, a, h) = if i < j then Rn 173 (42, [x0, x1, x2, x3, x4, x5, x6, x7], st, a, h) else Rn 173 (124, [x0, x1, x2, x3, x4, x5, x6, x7], st, a, h) := Rn_icmpn c173_39 mc_ge rfl rfl
theorem c173_42 : mcode 173 42 = some (.iload 5, 2, 0, 0, 0) := rfl
theorem r173_42 : Rn 173 (42, [x0, x1, x2, x3, x4, some (.int i), x6, x7], st, a, h) = Rn 173 (44, [x0, x1, x2, x3, x4, some (.int i), x6, x7], .int i :: st, a, h) := Rn_go c173_42 rfl
theorem c173_44 : mcode 173 44 = some (.iconst 1, 1, 0, 0, 0) := rfl
theorem r173_44 : Rn 173 (44, [x0, x1, x2, x3, x4, x5, x6, x7], st, a, h) = Rn 173 (45, [x0, x1, x2, x3, x4, x5, x6, x7], .int (1 : Int32) :: st, a, h) := Rn_go c173_44 rfl
theorem c173_45 : mcode 173 45 = some (.iadd, 1, 0, 0, 0) := rfl
theorem r173_45 : Rn 173 (45, [x0, x1, x2, x3, x4, x5, x6, x7], .int j :: .int i :: st, a, h) = Rn 173 (46, [x0, x1, x2, x3, x4, x5, x6, x7], .int (i + j) :: st, a, h) := Rn_go c173_45 rfl
theorem c173_46 : mcode 173 46 = some (.istore 6, 2, 0, 0, 0) := rfl
theorem r173_46 : Rn 173 (46, [x0, x1, x2, x3, x4, x5, x6, x7], .int i :: st, a, h) = Nl x5 (Rn 173 (48, [x0, x1, x2, x3, x4, x5, some (.int i), x7], st, a, h)) := Rn_st1 (k := 6) (v := .int i) x5 c173_46 rfl rfl rfl rfl
theorem c173_48 : mcode 173 48 = some (.iload 6, 2, 0, 0, 0) := rfl
theorem r173_48 : Rn 173 (48, [x0, x1, x2, x3, x4, x5, some (.int i), x7], st, a, h) = Rn 173 (50, [x0, x1, x2, x3, x4, x5, some (.int i), x7], .int i :: st, a, h) := Rn_go c173_48 rfl
theorem c173_50 : mcode 173 50 = some (.bipush 8, 2, 0, 0, 0) := rfl
theorem r173_50 : Rn 173 (50, [x0, x1, x2, x3, x4, x5, x6, x7], st, a, h) = Rn 173 (52, [x0, x1, x2, x3, x4, x5, x6, x7], .int (8 : Int32) :: st, a, h) := Rn_go c173_50 rfl
theorem c173_52 : mcode 173 52 = some (.if_icmp .ge 66, 3, 0, 0, 0) := rfl
theorem r173_52 : Rn 173 (52, [x0, x1, x2, x3, x4, x5, x6, x7], .int j :: .int i :: st, a, h) = if i < j then Rn 173 (55, [x0, x1, x2, x3, x4, x5, x6, x7], st, a, h) else Rn 173 (118, [x0, x1, x2, x3, x4, x5, x6, x7], st, a, h) := Rn_icmpn c173_52 mc_ge rfl rfl
theorem c173_55 : mcode 173 55 = some (.aload_n 0, 1, 0, 0, 0) := rfl
theorem r173_55 : Rn 173 (55, [some (.ref q), x1, x2, x3, x4, x5, x6, x7], st, a, h) = Rn 173 (56, [some (.ref q), x1, x2, x3, x4, x5, x6, x7], .ref q :: st, a, h) := Rn_go c173_55 rfl
theorem c173_56 : mcode 173 56 = some (.iload 5, 2, 0, 0, 0) := rfl
theorem r173_56 : Rn 173 (56, [x0, x1, x2, x3, x4, some (.int i), x6, x7], st, a, h) = Rn 173 (58, [x0, x1, x2, x3, x4, some (.int i), x6, x7], .int i :: st, a, h) := Rn_go c173_56 rfl
theorem c173_58 : mcode 173 58 = some (.iload 6, 2, 0, 0, 0) := rfl
theorem r173_58 : Rn 173 (58, [x0, x1, x2, x3, x4, x5, some (.int i), x7], st, a, h) = Rn 173 (60, [x0, x1, x2, x3, x4, x5, some (.int i), x7], .int i :: st, a, h) := Rn_go c173_58 rfl
theorem c173_60 : mcode 173 60 = some (.invokevirtual 82, 3, 143, 2, 6) := rfl
theorem r173_60 : Rn 173 (60, [x0, x1, x2, x3, x4, x5, x6, x7], [v1, v0, .ref q], a, h) = if mis h q 6 = true then Bk 173 63 [x0, x1, x2, x3, x4, x5, x6, x7] [] (Ec 143 [.ref q, v0, v1] a h) else none := Rn_call1 c173_60 rfl (Nat.le_of_ble_eq_true rfl) rfl rfl (Nat.le_of_ble_eq_true rfl)
theorem c173_63 : mcode 173 63 = some (.aload_n 0, 1, 0, 0, 0) := rfl
theorem r173_63 : Rn 173 (63, [some (.ref q), x1, x2, x3, x4, x5, x6, x7], st, a, h) = Rn 173 (64, [some (.ref q), x1, x2, x3, x4, x5, x6, x7], .ref q :: st, a, h) := Rn_go c173_63 rfl
theorem c173_64 : mcode 173 64 = some (.iload_n 1, 1, 0, 0, 0) := rfl
theorem r173_64 : Rn 173 (64, [x0, some (.int i), x2, x3, x4, x5, x6, x7], st, a, h) = Rn 173 (65, [x0, some (.int i), x2, x3, x4, x5, x6, x7], .int i :: st, a, h) := Rn_go c173_64 rfl
theorem c173_65 : mcode 173 65 = some (.iconst 5, 1, 0, 0, 0) := rfl
theorem r173_65 : Rn 173 (65, [x0, x1, x2, x3, x4, x5, x6, x7], st, a, h) = Rn 173 (66, [x0, x1, x2, x3, x4, x5, x6, x7], .int (5 : Int32) :: st, a, h) := Rn_go c173_65 rfl
theorem c173_66 : mcode 173 66 = some (.invokestatic 79, 3, 130, 2, 0) := rfl
theorem r173_66 : Rn 173 (66, [x0, x1, x2, x3, x4, x5, x6, x7], [v1, v0, .ref q0], a, h) = Bk 173 69 [x0, x1, x2, x3, x4, x5, x6, x7] [.ref q0] (Ec 130 [v0, v1] a h) := Rn_call0 c173_66 (fun z => nomatch z) rfl (Nat.le_of_ble_eq_true rfl) rfl rfl (Nat.le_of_ble_eq_true rfl)
theorem c173_69 : mcode 173 69 = some (.iload_n 2, 1, 0, 0, 0) := rfl
theorem r173_69 : Rn 173 (69, [x0, x1, some (.int i), x3, x4, x5, x6, x7], st, a, h) = Rn 173 (70, [x0, x1, some (.int i), x3, x4, x5, x6, x7], .int i :: st, a, h) := Rn_go c173_69 rfl
theorem c173_70 : mcode 173 70 = some (.invokevirtual 163, 3, 166, 2, 6) := rfl
theorem r173_70 : Rn 173 (70, [x0, x1, x2, x3, x4, x5, x6, x7], [v1, v0, .ref q], a, h) = if mis h q 6 = true then Bk 173 73 [x0, x1, x2, x3, x4, x5, x6, x7] [] (Ec 166 [.ref q, v0, v1] a h) else none := Rn_call1 c173_70 rfl (Nat.le_of_ble_eq_true rfl) rfl rfl (Nat.le_of_ble_eq_true rfl)
theorem c173_73 : mcode 173 73 = some (.istore 7, 2, 0, 0, 0) := rfl
theorem r173_73 : Rn 173 (73, [x0, x1, x2, x3, x4, x5, x6, x7], .int i :: st, a, h) = Nl x6 (Rn 173 (75, [x0, x1, x2, x3, x4, x5, x6, some (.int i)], st, a, h)) := Rn_st1 (k := 7) (v := .int i) x6 c173_73 rfl rfl rfl rfl
theorem c173_75 : mcode 173 75 = some (.aload_n 0, 1, 0, 0, 0) := rfl
theorem r173_75 : Rn 173 (75, [some (.ref q), x1, x2, x3, x4, x5, x6, x7], st, a, h) = Rn 173 (76, [some (.ref q), x1, x2, x3, x4, x5, x6, x7], .ref q :: st, a, h) := Rn_go c173_75 rfl
theorem c173_76 : mcode 173 76 = some (.iload 5, 2, 0, 0, 0) := rfl
theorem r173_76 : Rn 173 (76, [x0, x1, x2, x3, x4, some (.int i), x6, x7], st, a, h) = Rn 173 (78, [x0, x1, x2, x3, x4, some (.int i), x6, x7], .int i :: st, a, h) := Rn_go c173_76 rfl
theorem c173_78 : mcode 173 78 = some (.iload 6, 2, 0, 0, 0) := rfl
theorem r173_78 : Rn 173 (78, [x0, x1, x2, x3, x4, x5, some (.int i), x7], st, a, h) = Rn 173 (80, [x0, x1, x2, x3, x4, x5, some (.int i), x7], .int i :: st, a, h) := Rn_go c173_78 rfl
theorem c173_80 : mcode 173 80 = some (.invokevirtual 82, 3, 143, 2, 6) := rfl
theorem r173_80 : Rn 173 (80, [x0, x1, x2, x3, x4, x5, x6, x7], [v1, v0, .ref q], a, h) = if mis h q 6 = true then Bk 173 83 [x0, x1, x2, x3, x4, x5, x6, x7] [] (Ec 143 [.ref q, v0, v1] a h) else none := Rn_call1 c173_80 rfl (Nat.le_of_ble_eq_true rfl) rfl rfl (Nat.le_of_ble_eq_true rfl)
theorem c173_83 : mcode 173 83 = some (.iload 7, 2, 0, 0, 0) := rfl
theorem r173_83 : Rn 173 (83, [x0, x1, x2, x3, x4, x5, x6, some (.int i)], st, a, h) = Rn 173 (85, [x0, x1, x2, x3, x4, x5, x6, some (.int i)], .int i :: st, a, h) := Rn_go c173_83 rfl
theorem c173_85 : mcode 173 85 = some (.iload 4, 2, 0, 0, 0) := rfl
theorem r173_85 : Rn 173 (85, [x0, x1, x2, x3, some (.int i), x5, x6, x7], st, a, h) = Rn 173 (87, [x0, x1, x2, x3, some (.int i), x5, x6, x7], .int i :: st, a, h) := Rn_go c173_85 rfl
theorem c173_87 : mcode 173 87 = some (.if_icmp .le 14, 3, 0, 0, 0) := rfl
theorem r173_87 : Rn 173 (87, [x0, x1, x2, x3, x4, x5, x6, x7], .int j :: .int i :: st, a, h) = if j < i then Rn 173 (90, [x0, x1, x2, x3, x4, x5, x6, x7], st, a, h) else Rn 173 (101, [x0, x1, x2, x3, x4, x5, x6, x7], st, a, h) := Rn_icmpn c173_87 mc_le rfl rfl
theorem c173_90 : mcode 173 90 = some (.bipush 8, 2, 0, 0, 0) := rfl
theorem r173_90 : Rn 173 (90, [x0, x1, x2, x3, x4, x5, x6, x7], st, a, h) = Rn 173 (92, [x0, x1, x2, x3, x4, x5, x6, x7], .int (8 : Int32) :: st, a, h) := Rn_go c173_90 rfl
theorem c173_92 : mcode 173 92 = some (.iload 5, 2, 0, 0, 0) := rfl
theorem r173_92 : Rn 173 (92, [x0, x1, x2, x3, x4, some (.int i), x6, x7], st, a, h) = Rn 173 (94, [x0, x1, x2, x3, x4, some (.int i), x6, x7], .int i :: st, a, h) := Rn_go c173_92 rfl
theorem c173_94 : mcode 173 94 = some (.imul, 1, 0, 0, 0) := rfl
theorem r173_94 : Rn 173 (94, [x0, x1, x2, x3, x4, x5, x6, x7], .int j :: .int i :: st, a, h) = Rn 173 (95, [x0, x1, x2, x3, x4, x5, x6, x7], .int (i * j) :: st, a, h) := Rn_go c173_94 rfl
theorem c173_95 : mcode 173 95 = some (.iload 6, 2, 0, 0, 0) := rfl
theorem r173_95 : Rn 173 (95, [x0, x1, x2, x3, x4, x5, some (.int i), x7], st, a, h) = Rn 173 (97, [x0, x1, x2, x3, x4, x5, some (.int i), x7], .int i :: st, a, h) := Rn_go c173_95 rfl
theorem c173_97 : mcode 173 97 = some (.iadd, 1, 0, 0, 0) := rfl
theorem r173_97 : Rn 173 (97, [x0, x1, x2, x3, x4, x5, x6, x7], .int j :: .int i :: st, a, h) = Rn 173 (98, [x0, x1, x2, x3, x4, x5, x6, x7], .int (i + j) :: st, a, h) := Rn_go c173_97 rfl
theorem c173_98 : mcode 173 98 = some (.goto 4, 3, 0, 0, 0) := rfl
theorem r173_98 : Rn 173 (98, [x0, x1, x2, x3, x4, x5, x6, x7], st, a, h) = Rn 173 (102, [x0, x1, x2, x3, x4, x5, x6, x7], st, a, h) := Rn_goto c173_98 rfl
theorem c173_101 : mcode 173 101 = some (.iload_n 3, 1, 0, 0, 0) := rfl
theorem r173_101 : Rn 173 (101, [x0, x1, x2, some (.int i), x4, x5, x6, x7], st, a, h) = Rn 173 (102, [x0, x1, x2, some (.int i), x4, x5, x6, x7], .int i :: st, a, h) := Rn_go c173_101 rfl
theorem c173_102 : mcode 173 102 = some (.istore_n 3, 1, 0, 0, 0) := rfl
theorem r173_102 : Rn 173 (102, [x0, x1, x2, x3, x4, x5, x6, x7], .int i :: st, a, h) = Nl x2 (Rn 173 (103, [x0, x1, x2, some (.int i), x4, x5, x6, x7], st, a, h)) := Rn_st1 (k := 3) (v := .int i) x2 c173_102 rfl rfl rfl rfl
theorem c173_103 : mcode 173 103 = some (.iload 4, 2, 0, 0, 0) := rfl
theorem r173_103 : Rn 173 (103, [x0, x1, x2, x3, some (.int i), x5, x6, x7], st, a, h) = Rn 173 (105, [x0, x1, x2, x3, some (.int i), x5, x6, x7], .int i :: st, a, h) := Rn_go c173_103 rfl
theorem c173_105 : mcode 173 105 = some (.iload 7, 2, 0, 0, 0) := rfl
theorem r173_105 : Rn 173 (105, [x0, x1, x2, x3, x4, x5, x6, some (.int i)], st, a, h) = Rn 173 (107, [x0, x1, x2, x3, x4, x5, x6, some (.int i)], .int i :: st, a, h) := Rn_go c173_105 rfl
theorem c173_107 : mcode 173 107 = some (.invokestatic 115, 3, 134, 2, 0) := rfl
theorem r173_107 : Rn 173 (107, [x0, x1, x2, x3, x4, x5, x6, x7], [v1, v0], a, h) = Bk 173 110 [x0, x1, x2, x3, x4, x5, x6, x7] [] (Ec 134 [v0, v1] a h) := Rn_call0 c173_107 (fun z => nomatch z) rfl (Nat.le_of_ble_eq_true rfl) rfl rfl (Nat.le_of_ble_eq_true rfl)
theorem c173_110 : mcode 173 110 = some (.istore 4, 2, 0, 0, 0) := rfl
theorem r173_110 : Rn 173 (110, [x0, x1, x2, x3, x4, x5, x6, x7], .int i :: st, a, h) = Nl x3 (Rn 173 (112, [x0, x1, x2, x3, some (.int i), x5, x6, x7], st, a, h)) := Rn_st1 (k := 4) (v := .int i) x3 c173_110 rfl rfl rfl rfl
theorem c173_112 : mcode 173 112 = some (.iinc 6 1, 3, 0, 0, 0) := rfl
theorem r173_112 : Rn 173 (112, [x0, x1, x2, x3, x4, x5, some (.int i), x7], st, a, h) = Nl x5 (Rn 173 (115, [x0, x1, x2, x3, x4, x5, some (.int (i + (1 : Int32))), x7], st, a, h)) := Rn_st1 (k := 6) (v := .int (i + (1 : Int32))) x5 c173_112 rfl rfl rfl rfl
theorem c173_115 : mcode 173 115 = some (.goto (-67), 3, 0, 0, 0) := rfl
theorem r173_115 : Rn 173 (115, [x0, x1, x2, x3, x4, x5, x6, x7], st, a, h) = Rn 173 (48, [x0, x1, x2, x3, x4, x5, x6, x7], st, a, h) := Rn_goto c173_115 rfl
theorem c173_118 : mcode 173 118 = some (.iinc 5 1, 3, 0, 0, 0) := rfl
theorem r173_118 : Rn 173 (118, [x0, x1, x2, x3, x4, some (.int i), x6, x7], st, a, h) = Nl x4 (Rn 173 (121, [x0, x1, x2, x3, x4, some (.int (i + (1 : Int32))), x6, x7], st, a, h)) := Rn_st1 (k := 5) (v := .int (i + (1 : Int32))) x4 c173_118 rfl rfl rfl rfl
theorem c173_121 : mcode 173 121 = some (.goto (-86), 3, 0, 0, 0) := rfl
theorem r173_121 : Rn 173 (121, [x0, x1, x2, x3, x4, x5, x6, x7], st, a, h) = Rn 173 (35, [x0, x1, x2, x3, x4, x5, x6, x7], st, a, h) := Rn_goto c173_121 rfl
theorem c173_124 : mcode 173 124 = some (.iload_n 3, 1, 0, 0, 0) := rfl
theorem r173_124 : Rn 173 (124, [x0, x1, x2, some (.int i), x4, x5, x6, x7], st, a, h) = Rn 173 (125, [x0, x1, x2, some (.int i), x4, x5, x6, x7], .int i :: st, a, h) := Rn_go c173_124 rfl
theorem c173_125 : mcode 173 125 = some (.ireturn, 1, 0, 0, 0) := rfl
theorem r173_125 : Rn 173 (125, [x0, x1, x2, x3, x4, x5, x6, x7], [.int i], a, h) = some (some (.int i), a, h) := Rn_ireti c173_125
theorem c174_0 : mcode 174 0 = some (.aload_n 0, 1, 0, 0, 0) := rfl
theorem r174_0 : Rn 174 (0, [some (.ref q), x1, x2, x3, x4, x5, x6, x7, x8, x9], st, a, h) = Rn 174 (1, [some (.ref q), x1, x2, x3, x4, x5, x6, x7, x8, x9], .ref q :: st, a, h) := Rn_go c174_0 rfl
theorem c174_1 : mcode 174 1 = some (.iload_n 1, 1, 0, 0, 0) := rfl
theorem r174_1 : Rn 174 (1, [x0, some (.int i), x2, x3, x4, x5, x6, x7, x8, x9], st, a, h) = Rn 174 (2, [x0, some (.int i), x2, x3, x4, x5, x6, x7, x8, x9], .int i :: st, a, h) := Rn_go c174_1 rfl
theorem c174_2 : mcode 174 2 = some (.iload_n 2, 1, 0, 0, 0) := rfl
theorem r174_2 : Rn 174 (2, [x0, x1, some (.int i), x3, x4, x5, x6, x7, x8, x9], st, a, h) = Rn 174 (3, [x0, x1, some (.int i), x3, x4, x5, x6, x7, x8, x9], .int i :: st, a, h) := Rn_go c174_2 rfl
theorem c174_3 : mcode 174 3 = some (.invokevirtual 63, 3, 131, 2, 6) := rfl
theorem r174_3 : Rn 174 (3, [x0, x1, x2, x3, x4, x5, x6, x7, x8, x9], [v1, v0, .ref q], a, h) = if mis h q 6 = true then Bk 174 6 [x0, x1, x2, x3, x4, x5, x6, x7, x8, x9] [] (Ec 131 [.ref q, v0, v1] a h) else none := Rn_call1 c174_3 rfl (Nat.le_of_ble_eq_true rfl) rfl rfl (Nat.le_of_ble_eq_true rfl)
theorem c174_6 : mcode 174 6 = some (.istore 5, 2, 0, 0, 0) := rfl
theorem r174_6 : Rn 174 (6, [x0, x1, x2, x3, x4, x5, x6, x7, x8, x9], .int i :: st, a, h) = Nl x4 (Rn 174 (8, [x0, x1, x2, x3, x4, some (.int i), x6, x7, x8, x9], st, a, h)) := Rn_st1 (k := 5) (v := .int i) x4 c174_6 rfl rfl rfl rfl
theorem c174_8 : mcode 174 8 = some (.iconst 0, 1, 0, 0, 0) := rfl
theorem r174_8 : Rn 174 (8, [x0, x1, x2, x3, x4, x5, x6, x7, x8, x9], st, a, h) = Rn 174 (9, [x0, x1, x2, x3, x4, x5, x6, x7, x8, x9], .int (0 : Int32) :: st, a, h) := Rn_go c174_8 rfl
theorem c174_9 : mcode 174 9 = some (.istore 6, 2, 0, 0, 0) := rfl
theorem r174_9 : Rn 174 (9, [x0, x1, x2, x3, x4, x5, x6, x7, x8, x9], .int i :: st, a, h) = Nl x5 (Rn 174 (11, [x0, x1, x2, x3, x4, x5, some (.int i), x7, x8, x9], st, a, h)) := Rn_st1 (k := 6) (v := .int i) x5 c174_9 rfl rfl rfl rfl
theorem c174_11 : mcode 174 11 = some (.iconst (-1), 1, 0, 0, 0) := rfl
theorem r174_11 : Rn 174 (11, [x0, x1, x2, x3, x4, x5, x6, x7, x8, x9], st, a, h) = Rn 174 (12, [x0, x1, x2, x3, x4, x5, x6, x7, x8, x9], .int (-1 : Int32) :: st, a, h) := Rn_go c174_11 rfl
theorem c174_12 : mcode 174 12 = some (.istore 7, 2, 0, 0, 0) := rfl
theorem r174_12 : Rn 174 (12, [x0, x1, x2, x3, x4, x5, x6, x7, x8, x9], .int i :: st, a, h) = Nl x6 (Rn 174 (14, [x0, x1, x2, x3, x4, x5, x6, some (.int i), x8, x9], st, a, h)) := Rn_st1 (k := 7) (v := .int i) x6 c174_12 rfl rfl rfl rfl
theorem c174_14 : mcode 174 14 = some (.iconst 0, 1, 0, 0, 0) := rfl
theorem r174_14 : Rn 174 (14, [x0, x1, x2, x3, x4, x5, x6, x7, x8, x9], st, a, h) = Rn 174 (15, [x0, x1, x2, x3, x4, x5, x6, x7, x8, x9], .int (0 : Int32) :: st, a, h) := Rn_go c174_14 rfl
theorem c174_15 : mcode 174 15 = some (.istore 8, 2, 0, 0, 0) := rfl
theorem r174_15 : Rn 174 (15, [x0, x1, x2, x3, x4, x5, x6, x7, x8, x9], .int i :: st, a, h) = Nl x7 (Rn 174 (17, [x0, x1, x2, x3, x4, x5, x6, x7, some (.int i), x9], st, a, h)) := Rn_st1 (k := 8) (v := .int i) x7 c174_15 rfl rfl rfl rfl
theorem c174_17 : mcode 174 17 = some (.iload 8, 2, 0, 0, 0) := rfl
theorem r174_17 : Rn 174 (17, [x0, x1, x2, x3, x4, x5, x6, x7, some (.int i), x9], st, a, h) = Rn 174 (19, [x0, x1, x2, x3, x4, x5, x6, x7, some (.int i), x9], .int i :: st, a, h) := Rn_go c174_17 rfl
theorem c174_19 : mcode 174 19 = some (.iload_n 2, 1, 0, 0, 0) := rfl
theorem r174_19 : Rn 174 (19, [x0, x1, some (.int i), x3, x4, x5, x6, x7, x8, x9], st, a, h) = Rn 174 (20, [x0, x1, some (.int i), x3, x4, x5, x6, x7, x8, x9], .int i :: st, a, h) := Rn_go c174_19 rfl
theorem c174_20 : mcode 174 20 = some (.invokestatic 112, 3, 151, 1, 0) := rfl
theorem r174_20 : Rn 174 (20, [x0, x1, x2, x3, x4, x5, x6, x7, x8, x9], [v0, .int i0], a, h) = Bk 174 23 [x0, x1, x2, x3, x4, x5, x6, x7, x8, x9] [.int i0] (Ec 151 [v0] a h) := Rn_call0 c174_20 (fun z => nomatch z) rfl (Nat.le_of_ble_eq_true rfl) rfl rfl (Nat.le_of_ble_eq_true rfl)
theorem c174_23 : mcode 174 23 = some (.if_icmp .gt 59, 3, 0, 0, 0) := rfl
theorem r174_23 : Rn 174 (23, [x0, x1, x2, x3, x4, x5, x6, x7, x8, x9], .int j :: .int i :: st, a, h) = if j < i then Rn 174 (82, [x0, x1, x2, x3, x4, x5, x6, x7, x8, x9], st, a, h) else Rn 174 (26, [x0, x1, x2, x3, x4, x5, x6, x7, x8, x9], st, a, h) := Rn_icmp c174_23 mc_gt rfl rfl
theorem c174_26 : mcode 174 26 = some (.aload_n 0, 1, 0, 0, 0) := rfl
theorem r174_26 : Rn 174 (26, [some (.ref q), x1, x2, x3, x4, x5, x6, x7, x8, x9], st, a, h) = Rn 174 (27, [some (.ref q), x1, x2, x3, x4, x5, x6, x7, x8, x9], .ref q :: st, a, h) := Rn_go c174_26 rfl
theorem c174_27 : mcode 174 27 = some (.getfield 7, 3, 6, 0, 0) := rfl
theorem r174_27 : Rn 174 (27, [x0, x1, x2, x3, x4, x5, x6, x7, x8, x9], .ref q :: st, a, h) = Kv 174 30 [x0, x1, x2, x3, x4, x5, x6, x7, x8, x9] st a h (mgf h q 6 0) := Rn_getf c174_27 rfl
theorem c174_30 : mcode 174 30 = some (.iload_n 1, 1, 0, 0, 0) := rfl
theorem r174_30 : Rn 174 (30, [x0, some (.int i), x2, x3, x4, x5, x6, x7, x8, x9], st, a, h) = Rn 174 (31, [x0, some (.int i), x2, x3, x4, x5, x6, x7, x8, x9], .int i :: st, a, h) := Rn_go c174_30 rfl
theorem c174_31 : mcode 174 31 = some (.iload_n 2, 1, 0, 0, 0) := rfl
theorem r174_31 : Rn 174 (31, [x0, x1, some (.int i), x3, x4, x5, x6, x7, x8, x9], st, a, h) = Rn 174 (32, [x0, x1, some (.int i), x3, x4, x5, x6, x7, x8, x9], .int i :: st, a, h) := Rn_go c174_31 rfl
theorem c174_32 : mcode 174 32 = some (.invokestatic 79, 3, 130, 2, 0) := rfl
theorem r174_32 : Rn 174 (32, [x0, x1, x2, x3, x4, x5, x6, x7, x8, x9], [v1, v0, .ref q0], a, h) = Bk 174 35 [x0, x1, x2, x3, x4, x5, x6, x7, x8, x9] [.ref q0] (Ec 130 [v0, v1] a h) := Rn_call0 c174_32 (fun z => nomatch z) rfl (Nat.le_of_ble_eq_true rfl) rfl rfl (Nat.le_of_ble_eq_true rfl)
theorem c174_35 : mcode 174 35 = some (.iload 8, 2, 0, 0, 0) := rfl
theorem r174_35 : Rn 174 (35, [x0, x1, x2, x3, x4, x5, x6, x7, some (.int i), x9], st, a, h) = Rn 174 (37, [x0, x1, x2, x3, x4, x5, x6, x7, some (.int i), x9], .int i :: st, a, h) := Rn_go c174_35 rfl
theorem c174_37 : mcode 174 37 = some (.iastore, 1, 0, 0, 0) := rfl
theorem r174_37 : Rn 174 (37, [x0, x1, x2, x3, x4, x5, x6, x7, x8, x9], .int j :: .int i :: .ref q :: st, a, h) = Kh 174 38 [x0, x1, x2, x3, x4, x5, x6, x7, x8, x9] st a (mias h q i j) := Rn_iast c174_37 rfl
theorem c174_38 : mcode 174 38 = some (.aload_n 0, 1, 0, 0, 0) := rfl
theorem r174_38 : Rn 174 (38, [some (.ref q), x1, x2, x3, x4, x5, x6, x7, x8, x9], st, a, h) = Rn 174 (39, [some (.ref q), x1, x2, x3, x4, x5, x6, x7, x8, x9], .ref q :: st, a, h) := Rn_go c174_38 rfl
theorem c174_39 : mcode 174 39 = some (.iload_n 1, 1, 0, 0, 0) := rfl
theorem r174_39 : Rn 174 (39, [x0, some (.int i), x2, x3, x4, x5, x6, x7, x8, x9], st, a, h) = Rn 174 (40, [x0, some (.int i), x2, x3, x4, x5, x6, x7, x8, x9], .int i :: st, a, h) := Rn_go c174_39 rfl
theorem c174_40 : mcode 174 40 = some (.iload_n 3, 1, 0, 0, 0) := rfl
theorem r174_40 : Rn 174 (40, [x0, x1, x2, some (.int i), x4, x5, x6, x7, x8, x9], st, a, h) = Rn 174 (41, [x0, x1, x2, some (.int i), x4, x5, x6, x7, x8, x9], .int i :: st, a, h) := Rn_go c174_40 rfl
theorem c174_41 : mcode 174 41 = some (.invokestatic 79, 3, 130, 2, 0) := rfl
theorem r174_41 : Rn 174 (41, [x0, x1, x2, x3, x4, x5, x6, x7, x8, x9], [v1, v0, .ref q0], a, h) = Bk 174 44 [x0, x1, x2, x3, x4, x5, x6, x7, x8, x9] [.ref q0] (Ec 130 [v0, v1] a h) := Rn_call0 c174_41 (fun z => nomatch z) rfl (Nat.le_of_ble_eq_true rfl) rfl rfl (Nat.le_of_ble_eq_true rfl)
theorem c174_44 : mcode 174 44 = some (.iload 4, 2, 0, 0, 0) := rfl
theorem r174_44 : Rn 174 (44, [x0, x1, x2, x3, some (.int i), x5, x6, x7, x8, x9], st, a, h) = Rn 174 (46, [x0, x1, x2, x3, some (.int i), x5, x6, x7, x8, x9], .int i :: st, a, h) := Rn_go c174_44 rfl
theorem c174_46 : mcode 174 46 = some (.invokevirtual 163, 3, 166, 2, 6) := rfl
theorem r174_46 : Rn 174 (46, [x0, x1, x2, x3, x4, x5, x6, x7, x8, x9], [v1, v0, .ref q], a, h) = if mis h q 6 = true then Bk 174 49 [x0, x1, x2, x3, x4, x5, x6, x7, x8, x9] [] (Ec 166 [.ref q, v0, v1] a h) else none := Rn_call1 c174_46 rfl (Nat.le_of_ble_eq_true rfl) rfl rfl (Nat.le_of_ble_eq_true rfl)
theorem c174_49 : mcode 174 49 = some (.istore 9, 2, 0, 0, 0) := rfl
theorem r174_49 : Rn 174 (49, [x0, x1, x2, x3, x4, x5, x6, x7, x8, x9], .int i :: st, a, h) = Nl x8 (Rn 174 (51, [x0, x1, x2, x3, x4, x5, x6, x7, x8, some (.int i)], st, a, h)) := Rn_st1 (k := 9) (v := .int i) x8 c174_49 rfl rfl rfl rfl
theorem c174_51 : mcode 174 51 = some (.iload 9, 2, 0, 0, 0) := rfl
theorem r174_51 : Rn 174 (51, [x0, x1, x2, x3, x4, x5, x6, x7, x8, some (.int i)], st, a, h) = Rn 174 (53, [x0, x1, x2, x3, x4, x5, x6, x7, x8, some (.int i)], .int i :: st, a, h) := Rn_go c174_51 rfl
theorem c174_53 : mcode 174 53 = some (.iload 7, 2, 0, 0, 0) := rfl
theorem r174_53 : Rn 174 (53, [x0, x1, x2, x3, x4, x5, x6, some (.int i), x8, x9], st, a, h) = Rn 174 (55, [x0, x1, x2, x3, x4, x5, x6, some (.int i), x8, x9], .int i :: st, a, h) := Rn_go c174_53 rfl
theorem c174_55 : mcode 174 55 = some (.if_icmp .le 8, 3, 0, 0, 0) := rfl
theorem r174_55 : Rn 174 (55, [x0, x1, x2, x3, x4, x5, x6, x7, x8, x9], .int j :: .int i :: st, a, h) = if j < i then Rn 174 (58, [x0, x1, x2, x3, x4, x5, x6, x7, x8, x9], st, a, h) else Rn 174 (63, [x0, x1, x2, x3, x4, x5, x6, x7, x8, x9], st, a, h) := Rn_icmpn c174_55 mc_le rfl rfl
theorem c174_58 : mcode 174 58 = some (.iload 8, 2, 0, 0, 0) := rfl
theorem r174_58 : Rn 174 (58, [x0, x1, x2, x3, x4, x5, x6, x7, some (.int i), x9], st, a, h) = Rn 174 (60, [x0, x1, x2, x3, x4, x5, x6, x7, some (.int i), x9], .int i :: st, a, h) := Rn_go c174_58 rfl
theorem c174_60 : mcode 174 60 = some (.goto 5, 3, 0, 0, 0) := rfl
theorem r174_60 : Rn 174 (60, [x0, x1, x2, x3, x4, x5, x6, x7, x8, x9], st, a, h) = Rn 174 (65, [x0, x1, x2, x3, x4, x5, x6, x7, x8, x9], st, a, h) := Rn_goto c174_60 rfl
theorem c174_63 : mcode 174 63 = some (.iload 6, 2, 0, 0, 0) := rfl
theorem r174_63 : Rn 174 (63, [x0, x1, x2, x3, x4, x5, some (.int i), x7, x8, x9], st, a, h) = Rn 174 (65, [x0, x1, x2, x3, x4, x5, some (.int i), x7, x8, x9], .int i :: st, a, h) := Rn_go c174_63 rfl
theorem c174_65 : mcode 174 65 = some (.istore 6, 2, 0, 0, 0) := rfl
theorem r174_65 : Rn 174 (65, [x0, x1, x2, x3, x4, x5, x6, x7, x8, x9], .int i :: st, a, h) = Nl x5 (Rn 174 (67, [x0, x1, x2, x3, x4, x5, some (.int i), x7, x8, x9], st, a, h)) := Rn_st1 (k := 6) (v := .int i) x5 c174_65 rfl rfl rfl rfl
theorem c174_67 : mcode 174 67 = some (.iload 7, 2, 0, 0, 0) := rfl
theorem r174_67 : Rn 174 (67, [x0, x1, x2, x3, x4, x5, x6, some (.int i), x8, x9], st, a, h) = Rn 174 (69, [x0, x1, x2, x3, x4, x5, x6, some (.int i), x8, x9], .int i :: st, a, h) := Rn_go c174_67 rfl
theorem c174_69 : mcode 174 69 = some (.iload 9, 2, 0, 0, 0) := rfl
theorem r174_69 : Rn 174 (69, [x0, x1, x2, x3, x4, x5, x6, x7, x8, some (.int i)], st, a, h) = Rn 174 (71, [x0, x1, x2, x3, x4, x5, x6, x7, x8, some (.int i)], .int i :: st, a, h) := Rn_go c174_69 rfl
theorem c174_71 : mcode 174 71 = some (.invokestatic 115, 3, 134, 2, 0) := rfl
theorem r174_71 : Rn 174 (71, [x0, x1, x2, x3, x4, x5, x6, x7, x8, x9], [v1, v0], a, h) = Bk 174 74 [x0, x1, x2, x3, x4, x5, x6, x7, x8, x9] [] (Ec 134 [v0, v1] a h) := Rn_call0 c174_71 (fun z => nomatch z) rfl (Nat.le_of_ble_eq_true rfl) rfl rfl (Nat.le_of_ble_eq_true rfl)
theorem c174_74 : mcode 174 74 = some (.istore 7, 2, 0, 0, 0) := rfl
theorem r174_74 : Rn 174 (74, [x0, x1, x2, x3, x4, x5, x6, x7, x8, x9], .int i :: st, a, h) = Nl x6 (Rn 174 (76, [x0, x1, x2, x3, x4, x5, x6, some (.int i), x8, x9], st, a, h)) := Rn_st1 (k := 7) (v := .int i) x6 c174_74 rfl rfl rfl rfl
theorem c174_76 : mcode 174 76 = some (.iinc 8 1, 3, 0, 0, 0) := rfl
theorem r174_76 : Rn 174 (76, [x0, x1, x2, x3, x4, x5, x6, x7, some (.int i), x9], st, a, h) = Nl x7 (Rn 174 (79, [x0, x1, x2, x3, x4, x5, x6, x7, some (.int (i + (1 : Int32))), x9], st, a, h)) := Rn_st1 (k := 8) (v := .int (i + (1 : Int32))) x7 c174_76 rfl rfl rfl rfl
theorem c174_79 : mcode 174 79 = some (.goto (-62), 3, 0, 0, 0) := rfl
theorem r174_79 : Rn 174 (79, [x0, x1, x2, x3, x4, x5, x6, x7, x8, x9], st, a, h) = Rn 174 (17, [x0, x1, x2, x3, x4, x5, x6, x7, x8, x9], st, a, h) := Rn_goto c174_79 rfl
theorem c174_82 : mcode 174 82 = some (.aload_n 0, 1, 0, 0, 0) := rfl
theorem r174_82 : Rn 174 (82, [some (.ref q), x1, x2, x3, x4, x5, x6, x7, x8, x9], st, a, h) = Rn 174 (83, [some (.ref q), x1, x2, x3, x4, x5, x6, x7, x8, x9], .ref q :: st, a, h) := Rn_go c174_82 rfl
theorem c174_83 : mcode 174 83 = some (.getfield 7, 3, 6, 0, 0) := rfl
theorem r174_83 : Rn 174 (83, [x0, x1, x2, x3, x4, x5, x6, x7, x8, x9], .ref q :: st, a, h) = Kv 174 86 [x0, x1, x2, x3, x4, x5, x6, x7, x8, x9] st a h (mgf h q 6 0) := Rn_getf c174_83 rfl
theorem c174_86 : mcode 174 86 = some (.iload_n 1, 1, 0, 0, 0) := rfl
theorem r174_86 : Rn 174 (86, [x0, some (.int i), x2, x3, x4, x5, x6, x7, x8, x9], st, a, h) = Rn 174 (87, [x0, some (.int i), x2, x3, x4, x5, x6, x7, x8, x9], .int i :: st, a, h) := Rn_go c174_86 rfl
theorem c174_87 : mcode 174 87 = some (.iload_n 2, 1, 0, 0, 0) := rfl
theorem r174_87 : Rn 174 (87, [x0, x1, some (.int i), x3, x4, x5, x6, x7, x8, x9], st, a, h) = Rn 174 (88, [x0, x1, some (.int i), x3, x4, x5, x6, x7, x8, x9], .int i :: st, a, h) := Rn_go c174_87 rfl
theorem c174_88 : mcode 174 88 = some (.invokestatic 79, 3, 130, 2, 0) := rfl
theorem r174_88 : Rn 174 (88, [x0, x1, x2, x3, x4, x5, x6, x7, x8, x9], [v1, v0, .ref q0], a, h) = Bk 174 91 [x0, x1, x2, x3, x4, x5, x6, x7, x8, x9] [.ref q0] (Ec 130 [v0, v1] a h) := Rn_call0 c174_88 (fun z => nomatch z) rfl (Nat.le_of_ble_eq_true rfl) rfl rfl (Nat.le_of_ble_eq_true rfl)
theorem c174_91 : mcode 174 91 = some (.iload 5, 2, 0, 0, 0) := rfl
theorem r174_91 : Rn 174 (91, [x0, x1, x2, x3, x4, some (.int i), x6, x7, x8, x9], st, a, h) = Rn 174 (93, [x0, x1, x2, x3, x4, some (.int i), x6, x7, x8, x9], .int i :: st, a, h) := Rn_go c174_91 rfl
theorem c174_93 : mcode 174 93 = some (.iastore, 1, 0, 0, 0) := rfl
theorem r174_93 : Rn 174 (93, [x0, x1, x2, x3, x4, x5, x6, x7, x8, x9], .int j :: .int i :: .ref q :: st, a, h) = Kh 174 94 [x0, x1, x2, x3, x4, x5, x6, x7, x8, x9] st a (mias h q i j) := Rn_iast c174_93 rfl
theorem c174_94 : mcode 174 94 = some (.iload 6, 2, 0, 0, 0) := rfl
theorem r174_94 : Rn 174 (94, [x0, x1, x2, x3, x4, x5, some (.int i), x7, x8, x9], st, a, h) = Rn 174 (96, [x0, x1, x2, x3, x4, x5, some (.int i), x7, x8, x9], .int i :: st, a, h) := Rn_go c174_94 rfl
theorem c174_96 : mcode 174 96 = some (.ireturn, 1, 0, 0, 0) := rfl
theorem r174_96 : Rn 174 (96, [x0, x1, x2, x3, x4, x5, x6, x7, x8, x9], [.int i], a, h) = some (some (.int i), a, h) := Rn_ireti c174_96
theorem c175_0 : mcode 175 0 = some (.aload_n 0, 1, 0, 0, 0) := rfl
theorem r175_0 : Rn 175 (0, [some (.ref q), x1, x2], st, a, h) = Rn 175 (1, [some (.ref q), x1, x2], .ref q :: st, a, h) := Rn_go c175_0 rfl
theorem c175_1 : mcode 175 1 = some (.iload_n 1, 1, 0, 0, 0) := rfl
theorem r175_1 : Rn 175 (1, [x0, some (.int i), x2], st, a, h) = Rn 175 (2, [x0, some (.int i), x2], .int i :: st, a, h) := Rn_go c175_1 rfl
theorem c175_2 : mcode 175 2 = some (.invokevirtual 98, 3, 129, 1, 6) := rfl
theorem r175_2 : Rn 175 (2, [x0, x1, x2], [v0, .ref q], a, h) = if mis h q 6 = true then Bk 175 5 [x0, x1, x2] [] (Ec 129 [.ref q, v0] a h) else none := Rn_call1 c175_2 rfl (Nat.le_of_ble_eq_true rfl) rfl rfl (Nat.le_of_ble_eq_true rfl)
theorem c175_5 : mcode 175 5 = some (.ifCond .eq 26, 3, 0, 0, 0) := rfl
theorem r175_5 : Rn 175 (5, [x0, x1, x2], .int i :: st, a, h) = if i = 0 then Rn 175 (31, [x0, x1, x2], st, a, h) else Rn 175 (8, [x0, x1, x2], st, a, h) := Rn_ifc c175_5 mc_eq rfl rfl
theorem c175_8 : mcode 175 8 = some (.iload_n 2, 1, 0, 0, 0) := rfl
theorem r175_8 : Rn 175 (8, [x0, x1, some (.int i)], st, a, h) = Rn 175 (9, [x0, x1, some (.int i)], .int i :: st, a, h) := Rn_go c175_8 rfl
theorem c175_9 : mcode 175 9 = some (.i2l, 1, 0, 0, 0) := rfl
theorem r175_9 : Rn 175 (9, [x0, x1, x2], .int i :: st, a, h) = Rn 175 (10, [x0, x1, x2], .long i.toInt64 :: st, a, h) := Rn_go c175_9 rfl
theorem c175_10 : mcode 175 10 = some (.lconst 0, 1, 0, 0, 0) := rfl
theorem r175_10 : Rn 175 (10, [x0, x1, x2], st, a, h) = Rn 175 (11, [x0, x1, x2], .long (0 : Int64) :: st, a, h) := Rn_go c175_10 rfl
theorem c175_11 : mcode 175 11 = some (.ldc2_w 166, 3, 0, 0, 30) := rfl
theorem r175_11 : Rn 175 (11, [x0, x1, x2], st, a, h) = Rn 175 (14, [x0, x1, x2], .long (30 : Int64) :: st, a, h) := Rn_go c175_11 rfl
theorem c175_14 : mcode 175 14 = some (.invokestatic 52, 3, 123, 3, 0) := rfl
theorem r175_14 : Rn 175 (14, [x0, x1, x2], [v2, v1, v0], a, h) = Bk 175 17 [x0, x1, x2] [] (Ec 123 [v0, v1, v2] a h) := Rn_call0 c175_14 (fun z => nomatch z) rfl (Nat.le_of_ble_eq_true rfl) rfl rfl (Nat.le_of_ble_eq_true rfl)
theorem c175_17 : mcode 175 17 = some (.ifCond .eq 14, 3, 0, 0, 0) := rfl
theorem r175_17 : Rn 175 (17, [x0, x1, x2], .int i :: st, a, h) = if i = 0 then Rn 175 (31, [x0, x1, x2], st, a, h) else Rn 175 (20, [x0, x1, x2], st, a, h) := Rn_ifc c175_17 mc_eq rfl rfl
theorem c175_20 : mcode 175 20 = some (.aload_n 0, 1, 0, 0, 0) := rfl
theorem r175_20 : Rn 175 (20, [some (.ref q), x1, x2], st, a, h) = Rn 175 (21, [some (.ref q), x1, x2], .ref q :: st, a, h) := Rn_go c175_20 rfl
theorem c175_21 : mcode 175 21 = some (.iload_n 1, 1, 0, 0, 0) := rfl
theorem r175_21 : Rn 175 (21, [x0, some (.int i), x2], st, a, h) = Rn 175 (22, [x0, some (.int i), x2], .int i :: st, a, h) := Rn_go c175_21 rfl
theorem c175_22 : mcode 175 22 = some (.iconst 1, 1, 0, 0, 0) := rfl
theorem r175_22 : Rn 175 (22, [x0, x1, x2], st, a, h) = Rn 175 (23, [x0, x1, x2], .int (1 : Int32) :: st, a, h) := Rn_go c175_22 rfl
theorem c175_23 : mcode 175 23 = some (.iconst 5, 1, 0, 0, 0) := rfl
theorem r175_23 : Rn 175 (23, [x0, x1, x2], st, a, h) = Rn 175 (24, [x0, x1, x2], .int (5 : Int32) :: st, a, h) := Rn_go c175_23 rfl
theorem c175_24 : mcode 175 24 = some (.iload_n 2, 1, 0, 0, 0) := rfl
theorem r175_24 : Rn 175 (24, [x0, x1, some (.int i)], st, a, h) = Rn 175 (25, [x0, x1, some (.int i)], .int i :: st, a, h) := Rn_go c175_24 rfl
theorem c175_25 : mcode 175 25 = some (.invokevirtual 168, 3, 174, 4, 6) := rfl
theorem r175_25 : Rn 175 (25, [x0, x1, x2], [v3, v2, v1, v0, .ref q], a, h) = if mis h q 6 = true then Bk 175 28 [x0, x1, x2] [] (Ec 174 [.ref q, v0, v1, v2, v3] a h) else none := Rn_call1 c175_25 rfl (Nat.le_of_ble_eq_true rfl) rfl rfl (Nat.le_of_ble_eq_true rfl)
theorem c175_28 : mcode 175 28 = some (.goto 9, 3, 0, 0, 0) := rfl
theorem r175_28 : Rn 175 (28, [x0, x1, x2], st, a, h) = Rn 175 (37, [x0, x1, x2], st, a, h) := Rn_goto c175_28 rfl
theorem c175_31 : mcode 175 31 = some (.aload_n 0, 1, 0, 0, 0) := rfl
theorem r175_31 : Rn 175 (31, [some (.ref q), x1, x2], st, a, h) = Rn 175 (32, [some (.ref q), x1, x2], .ref q :: st, a, h) := Rn_go c175_31 rfl
theorem c175_32 : mcode 175 32 = some (.ldc 37, 2, 0, 0, -1000001) := rfl
theorem r175_32 : Rn 175 (32, [x0, x1, x2], st, a, h) = Rn 175 (34, [x0, x1, x2], .int (-1000001 : Int32) :: st, a, h) := Rn_go c175_32 rfl
theorem c175_34 : mcode 175 34 = some (.invokevirtual 39, 3, 124, 1, 6) := rfl
theorem r175_34 : Rn 175 (34, [x0, x1, x2], [v0, .ref q], a, h) = if mis h q 6 = true then Bk 175 37 [x0, x1, x2] [] (Ec 124 [.ref q, v0] a h) else none := Rn_call1 c175_34 rfl (Nat.le_of_ble_eq_true rfl) rfl rfl (Nat.le_of_ble_eq_true rfl)
theorem c175_37 : mcode 175 37 = some (.ireturn, 1, 0, 0, 0) := rfl
theorem r175_37 : Rn 175 (37, [x0, x1, x2], [.int i], a, h) = some (some (.int i), a, h) := Rn_ireti c175_37
theorem c176_0 : mcode 176 0 = some (.aload_n 0, 1, 0, 0, 0) := rfl
theorem r176_0 : Rn 176 (0, [some (.ref q), x1, x2], st, a, h) = Rn 176 (1, [some (.ref q), x1, x2], .ref q :: st, a, h) := Rn_go c176_0 rfl
theorem c176_1 : mcode 176 1 = some (.iload_n 1, 1, 0, 0, 0) := rfl
theorem r176_1 : Rn 176 (1, [x0, some (.int i), x2], st, a, h) = Rn 176 (2, [x0, some (.int i), x2], .int i :: st, a, h) := Rn_go c176_1 rfl
theorem c176_2 : mcode 176 2 = some (.invokevirtual 98, 3, 129, 1, 6) := rfl
theorem r176_2 : Rn 176 (2, [x0, x1, x2], [v0, .ref q], a, h) = if mis h q 6 = true then Bk 176 5 [x0, x1, x2] [] (Ec 129 [.ref q, v0] a h) else none := Rn_call1 c176_2 rfl (Nat.le_of_ble_eq_true rfl) rfl rfl (Nat.le_of_ble_eq_true rfl)
theorem c176_5 : mcode 176 5 = some (.ifCond .eq 26, 3, 0, 0, 0) := rfl
theorem r176_5 : Rn 176 (5, [x0, x1, x2], .int i :: st, a, h) = if i = 0 then Rn 176 (31, [x0, x1, x2], st, a, h) else Rn 176 (8, [x0, x1, x2], st, a, h) := Rn_ifc c176_5 mc_eq rfl rfl
theorem c176_8 : mcode 176 8 = some (.iload_n 2, 1, 0, 0, 0) := rfl
theorem r176_8 : Rn 176 (8, [x0, x1, some (.int i)], st, a, h) = Rn 176 (9, [x0, x1, some (.int i)], .int i :: st, a, h) := Rn_go c176_8 rfl
theorem c176_9 : mcode 176 9 = some (.i2l, 1, 0, 0, 0) := rfl
theorem r176_9 : Rn 176 (9, [x0, x1, x2], .int i :: st, a, h) = Rn 176 (10, [x0, x1, x2], .long i.toInt64 :: st, a, h) := Rn_go c176_9 rfl
theorem c176_10 : mcode 176 10 = some (.lconst 0, 1, 0, 0, 0) := rfl
theorem r176_10 : Rn 176 (10, [x0, x1, x2], st, a, h) = Rn 176 (11, [x0, x1, x2], .long (0 : Int64) :: st, a, h) := Rn_go c176_10 rfl
theorem c176_11 : mcode 176 11 = some (.ldc2_w 172, 3, 0, 0, 40) := rfl
theorem r176_11 : Rn 176 (11, [x0, x1, x2], st, a, h) = Rn 176 (14, [x0, x1, x2], .long (40 : Int64) :: st, a, h) := Rn_go c176_11 rfl
theorem c176_14 : mcode 176 14 = some (.invokestatic 52, 3, 123, 3, 0) := rfl
theorem r176_14 : Rn 176 (14, [x0, x1, x2], [v2, v1, v0], a, h) = Bk 176 17 [x0, x1, x2] [] (Ec 123 [v0, v1, v2] a h) := Rn_call0 c176_14 (fun z => nomatch z) rfl (Nat.le_of_ble_eq_true rfl) rfl rfl (Nat.le_of_ble_eq_true rfl)
theorem c176_17 : mcode 176 17 = some (.ifCond .eq 14, 3, 0, 0, 0) := rfl
theorem r176_17 : Rn 176 (17, [x0, x1, x2], .int i :: st, a, h) = if i = 0 then Rn 176 (31, [x0, x1, x2], st, a, h) else Rn 176 (20, [x0, x1, x2], st, a, h) := Rn_ifc c176_17 mc_eq rfl rfl
theorem c176_20 : mcode 176 20 = some (.aload_n 0, 1, 0, 0, 0) := rfl
theorem r176_20 : Rn 176 (20, [some (.ref q), x1, x2], st, a, h) = Rn 176 (21, [some (.ref q), x1, x2], .ref q :: st, a, h) := Rn_go c176_20 rfl
theorem c176_21 : mcode 176 21 = some (.iload_n 1, 1, 0, 0, 0) := rfl
theorem r176_21 : Rn 176 (21, [x0, some (.int i), x2], st, a, h) = Rn 176 (22, [x0, some (.int i), x2], .int i :: st, a, h) := Rn_go c176_21 rfl
theorem c176_22 : mcode 176 22 = some (.iconst 0, 1, 0, 0, 0) := rfl
theorem r176_22 : Rn 176 (22, [x0, x1, x2], st, a, h) = Rn 176 (23, [x0, x1, x2], .int (0 : Int32) :: st, a, h) := Rn_go c176_22 rfl
theorem c176_23 : mcode 176 23 = some (.iconst 3, 1, 0, 0, 0) := rfl
theorem r176_23 : Rn 176 (23, [x0, x1, x2], st, a, h) = Rn 176 (24, [x0, x1, x2], .int (3 : Int32) :: st, a, h) := Rn_go c176_23 rfl
theorem c176_24 : mcode 176 24 = some (.iload_n 2, 1, 0, 0, 0) := rfl
theorem r176_24 : Rn 176 (24, [x0, x1, some (.int i)], st, a, h) = Rn 176 (25, [x0, x1, some (.int i)], .int i :: st, a, h) := Rn_go c176_24 rfl
theorem c176_25 : mcode 176 25 = some (.invokevirtual 168, 3, 174, 4, 6) := rfl
theorem r176_25 : Rn 176 (25, [x0, x1, x2], [v3, v2, v1, v0, .ref q], a, h) = if mis h q 6 = true then Bk 176 28 [x0, x1, x2] [] (Ec 174 [.ref q, v0, v1, v2, v3] a h) else none := Rn_call1 c176_25 rfl (Nat.le_of_ble_eq_true rfl) rfl rfl (Nat.le_of_ble_eq_true rfl)
theorem c176_28 : mcode 176 28 = some (.goto 9, 3, 0, 0, 0) := rfl
theorem r176_28 : Rn 176 (28, [x0, x1, x2], st, a, h) = Rn 176 (37, [x0, x1, x2], st, a, h) := Rn_goto c176_28 rfl
theorem c176_31 : mcode 176 31 = some (.aload_n 0, 1, 0, 0, 0) := rfl
theorem r176_31 : Rn 176 (31, [some (.ref q), x1, x2], st, a, h) = Rn 176 (32, [some (.ref q), x1, x2], .ref q :: st, a, h) := Rn_go c176_31 rfl
theorem c176_32 : mcode 176 32 = some (.ldc 37, 2, 0, 0, -1000001) := rfl
theorem r176_32 : Rn 176 (32, [x0, x1, x2], st, a, h) = Rn 176 (34, [x0, x1, x2], .int (-1000001 : Int32) :: st, a, h) := Rn_go c176_32 rfl
theorem c176_34 : mcode 176 34 = some (.invokevirtual 39, 3, 124, 1, 6) := rfl
theorem r176_34 : Rn 176 (34, [x0, x1, x2], [v0, .ref q], a, h) = if mis h q 6 = true then Bk 176 37 [x0, x1, x2] [] (Ec 124 [.ref q, v0] a h) else none := Rn_call1 c176_34 rfl (Nat.le_of_ble_eq_true rfl) rfl rfl (Nat.le_of_ble_eq_true rfl)
theorem c176_37 : mcode 176 37 = some (.ireturn, 1, 0, 0, 0) := rfl
theorem r176_37 : Rn 176 (37, [x0, x1, x2], [.int i], a, h) = some (some (.int i), a, h) := Rn_ireti c176_37
theorem c177_0 : mcode 177 0 = some (.aload_n 0, 1, 0, 0, 0) := rfl
theorem r177_0 : Rn 177 (0, [some (.ref q), x1, x2, x3, x4, x5], st, a, h) = Rn 177 (1, [some (.ref q), x1, x2, x3, x4, x5], .ref q :: st, a, h) := Rn_go c177_0 rfl
theorem c177_1 : mcode 177 1 = some (.iload_n 1, 1, 0, 0, 0) := rfl
theorem r177_1 : Rn 177 (1, [x0, some (.int i), x2, x3, x4, x5], st, a, h) = Rn 177 (2, [x0, some (.int i), x2, x3, x4, x5], .int i :: st, a, h) := Rn_go c177_1 rfl
theorem c177_2 : mcode 177 2 = some (.invokevirtual 98, 3, 129, 1, 6) := rfl
theorem r177_2 : Rn 177 (2, [x0, x1, x2, x3, x4, x5], [v0, .ref q], a, h) = if mis h q 6 = true then Bk 177 5 [x0, x1, x2, x3, x4, x5] [] (Ec 129 [.ref q, v0] a h) else none := Rn_call1 c177_2 rfl (Nat.le_of_ble_eq_true rfl) rfl rfl (Nat.le_of_ble_eq_true rfl)
theorem c177_5 : mcode 177 5 = some (.ifCond .eq 15, 3, 0, 0, 0) := rfl
theorem r177_5 : Rn 177 (5, [x0, x1, x2, x3, x4, x5], .int i :: st, a, h) = if i = 0 then Rn 177 (20, [x0, x1, x2, x3, x4, x5], st, a, h) else Rn 177 (8, [x0, x1, x2, x3, x4, x5], st, a, h) := Rn_ifc c177_5 mc_eq rfl rfl
theorem c177_8 : mcode 177 8 = some (.iload_n 2, 1, 0, 0, 0) := rfl
theorem r177_8 : Rn 177 (8, [x0, x1, some (.int i), x3, x4, x5], st, a, h) = Rn 177 (9, [x0, x1, some (.int i), x3, x4, x5], .int i :: st, a, h) := Rn_go c177_8 rfl
theorem c177_9 : mcode 177 9 = some (.i2l, 1, 0, 0, 0) := rfl
theorem r177_9 : Rn 177 (9, [x0, x1, x2, x3, x4, x5], .int i :: st, a, h) = Rn 177 (10, [x0, x1, x2, x3, x4, x5], .long i.toInt64 :: st, a, h) := Rn_go c177_9 rfl
theorem c177_10 : mcode 177 10 = some (.lconst 0, 1, 0, 0, 0) := rfl
theorem r177_10 : Rn 177 (10, [x0, x1, x2, x3, x4, x5], st, a, h) = Rn 177 (11, [x0, x1, x2, x3, x4, x5], .long (0 : Int64) :: st, a, h) := Rn_go c177_10 rfl
theorem c177_11 : mcode 177 11 = some (.ldc2_w 172, 3, 0, 0, 40) := rfl
theorem r177_11 : Rn 177 (11, [x0, x1, x2, x3, x4, x5], st, a, h) = Rn 177 (14, [x0, x1, x2, x3, x4, x5], .long (40 : Int64) :: st, a, h) := Rn_go c177_11 rfl
theorem c177_14 : mcode 177 14 = some (.invokestatic 52, 3, 123, 3, 0) := rfl
theorem r177_14 : Rn 177 (14, [x0, x1, x2, x3, x4, x5], [v2, v1, v0], a, h) = Bk 177 17 [x0, x1, x2, x3, x4, x5] [] (Ec 123 [v0, v1, v2] a h) := Rn_call0 c177_14 (fun z => nomatch z) rfl (Nat.le_of_ble_eq_true rfl) rfl rfl (Nat.le_of_ble_eq_true rfl)
theorem c177_17 : mcode 177 17 = some (.ifCond .ne 10, 3, 0, 0, 0) := rfl
theorem r177_17 : Rn 177 (17, [x0, x1, x2, x3, x4, x5], .int i :: st, a, h) = if i = 0 then Rn 177 (20, [x0, x1, x2, x3, x4, x5], st, a, h) else Rn 177 (27, [x0, x1, x2, x3, x4, x5], st, a, h) := Rn_ifcn c177_17 mc_ne rfl rfl
theorem c177_20 : mcode 177 20 = some (.aload_n 0, 1, 0, 0, 0) := rfl
theorem r177_20 : Rn 177 (20, [some (.ref q), x1, x2, x3, x4, x5], st, a, h) = Rn 177 (21, [some (.ref q), x1, x2, x3, x4, x5], .ref q :: st, a, h) := Rn_go c177_20 rfl
theorem c177_21 : mcode 177 21 = some (.ldc 37, 2, 0, 0, -1000001) := rfl
theorem r177_21 : Rn 177 (21, [x0, x1, x2, x3, x4, x5], st, a, h) = Rn 177 (23, [x0, x1, x2, x3, x4, x5], .int (-1000001 : Int32) :: st, a, h) := Rn_go c177_21 rfl
theorem c177_23 : mcode 177 23 = some (.invokevirtual 39, 3, 124, 1, 6) := rfl
theorem r177_23 : Rn 177 (23, [x0, x1, x2, x3, x4, x5], [v0, .ref q], a, h) = if mis h q 6 = true then Bk 177 26 [x0, x1, x2, x3, x4, x5] [] (Ec 124 [.ref q, v0] a h) else none := Rn_call1 c177_23 rfl (Nat.le_of_ble_eq_true rfl) rfl rfl (Nat.le_of_ble_eq_true rfl)
theorem c177_26 : mcode 177 26 = some (.ireturn, 1, 0, 0, 0) := rfl
theorem r177_26 : Rn 177 (26, [x0, x1, x2, x3, x4, x5], [.int i], a, h) = some (some (.int i), a, h) := Rn_ireti c177_26
theorem c177_27 : mcode 177 27 = some (.aload_n 0, 1, 0, 0, 0) := rfl
theorem r177_27 : Rn 177 (27, [some (.ref q), x1, x2, x3, x4, x5], st, a, h) = Rn 177 (28, [some (.ref q), x1, x2, x3, x4, x5], .ref q :: st, a, h) := Rn_go c177_27 rfl
theorem c177_28 : mcode 177 28 = some (.iload_n 1, 1, 0, 0, 0) := rfl
theorem r177_28 : Rn 177 (28, [x0, some (.int i), x2, x3, x4, x5], st, a, h) = Rn 177 (29, [x0, some (.int i), x2, x3, x4, x5], .int i :: st, a, h) := Rn_go c177_28 rfl
theorem c177_29 : mcode 177 29 = some (.iconst 3, 1, 0, 0, 0) := rfl
theorem r177_29 : Rn 177 (29, [x0, x1, x2, x3, x4, x5], st, a, h) = Rn 177 (30, [x0, x1, x2, x3, x4, x5], .int (3 : Int32) :: st, a, h) := Rn_go c177_29 rfl
theorem c177_30 : mcode 177 30 = some (.invokevirtual 63, 3, 131, 2, 6) := rfl
theorem r177_30 : Rn 177 (30, [x0, x1, x2, x3, x4, x5], [v1, v0, .ref q], a, h) = if mis h q 6 = true then Bk 177 33 [x0, x1, x2, x3, x4, x5] [] (Ec 131 [.ref q, v0, v1] a h) else none := Rn_call1 c177_30 rfl (Nat.le_of_ble_eq_true rfl) rfl rfl (Nat.le_of_ble_eq_true rfl)
theorem c177_33 : mcode 177 33 = some (.istore_n 3, 1, 0, 0, 0) := rfl
theorem r177_33 : Rn 177 (33, [x0, x1, x2, x3, x4, x5], .int i :: st, a, h) = Nl x2 (Rn 177 (34, [x0, x1, x2, some (.int i), x4, x5], st, a, h)) := Rn_st1 (k := 3) (v := .int i) x2 c177_33 rfl rfl rfl rfl
theorem c177_34 : mcode 177 34 = some (.iconst (-1), 1, 0, 0, 0) := rfl
theorem r177_34 : Rn 177 (34, [x0, x1, x2, x3, x4, x5], st, a, h) = Rn 177 (35, [x0, x1, x2, x3, x4, x5], .int (-1 : Int32) :: st, a, h) := Rn_go c177_34 rfl
theorem c177_35 : mcode 177 35 = some (.istore 4, 2, 0, 0, 0) := rfl
theorem r177_35 : Rn 177 (35, [x0, x1, x2, x3, x4, x5], .int i :: st, a, h) = Nl x3 (Rn 177 (37, [x0, x1, x2, x3, some (.int i), x5], st, a, h)) := Rn_st1 (k := 4) (v := .int i) x3 c177_35 rfl rfl rfl rfl
theorem c177_37 : mcode 177 37 = some (.iconst 0, 1, 0, 0, 0) := rfl
theorem r177_37 : Rn 177 (37, [x0, x1, x2, x3, x4, x5], st, a, h) = Rn 177 (38, [x0, x1, x2, x3, x4, x5], .int (0 : Int32) :: st, a, h) := Rn_go c177_37 rfl
theorem c177_38 : mcode 177 38 = some (.istore 5, 2, 0, 0, 0) := rfl
theorem r177_38 : Rn 177 (38, [x0, x1, x2, x3, x4, x5], .int i :: st, a, h) = Nl x4 (Rn 177 (40, [x0, x1, x2, x3, x4, some (.int i)], st, a, h)) := Rn_st1 (k := 5) (v := .int i) x4 c177_38 rfl rfl rfl rfl
theorem c177_40 : mcode 177 40 = some (.iload 5, 2, 0, 0, 0) := rfl
theorem r177_40 : Rn 177 (40, [x0, x1, x2, x3, x4, some (.int i)], st, a, h) = Rn 177 (42, [x0, x1, x2, x3, x4, some (.int i)], .int i :: st, a, h) := Rn_go c177_40 rfl
theorem c177_42 : mcode 177 42 = some (.sipush 200, 3, 0, 0, 0) := rfl
theorem r177_42 : Rn 177 (42, [x0, x1, x2, x3, x4, x5], st, a, h) = Rn 177 (45, [x0, x1, x2, x3, x4, x5], .int (200 : Int32) :: st, a, h) := Rn_go c177_42 rfl
theorem c177_45 : mcode 177 45 = some (.if_icmp .gt 53, 3, 0, 0, 0) := rfl
theorem r177_45 : Rn 177 (45, [x0, x1, x2, x3, x4, x5], .int j :: .int i :: st, a, h) = if j < i then Rn 177 (98, [x0, x1, x2, x3, x4, x5], st, a, h) else Rn 177 (48, [x0, x1, x2, x3, x4, x5], st, a, h) := Rn_icmp c177_45 mc_gt rfl rfl
theorem c177_48 : mcode 177 48 = some (.iload 4, 2, 0, 0, 0) := rfl
theorem r177_48 : Rn 177 (48, [x0, x1, x2, x3, some (.int i), x5], st, a, h) = Rn 177 (50, [x0, x1, x2, x3, some (.int i), x5], .int i :: st, a, h) := Rn_go c177_48 rfl
theorem c177_50 : mcode 177 50 = some (.ifCond .ge 48, 3, 0, 0, 0) := rfl
theorem r177_50 : Rn 177 (50, [x0, x1, x2, x3, x4, x5], .int i :: st, a, h) = if i < 0 then Rn 177 (53, [x0, x1, x2, x3, x4, x5], st, a, h) else Rn 177 (98, [x0, x1, x2, x3, x4, x5], st, a, h) := Rn_ifcn c177_50 mc_ge rfl rfl
theorem c177_53 : mcode 177 53 = some (.aload_n 0, 1, 0, 0, 0) := rfl
theorem r177_53 : Rn 177 (53, [some (.ref q), x1, x2, x3, x4, x5], st, a, h) = Rn 177 (54, [some (.ref q), x1, x2, x3, x4, x5], .ref q :: st, a, h) := Rn_go c177_53 rfl
theorem c177_54 : mcode 177 54 = some (.getfield 7, 3, 6, 0, 0) := rfl
theorem r177_54 : Rn 177 (54, [x0, x1, x2, x3, x4, x5], .ref q :: st, a, h) = Kv 177 57 [x0, x1, x2, x3, x4, x5] st a h (mgf h q 6 0) := Rn_getf c177_54 rfl
theorem c177_57 : mcode 177 57 = some (.iload_n 1, 1, 0, 0, 0) := rfl
theorem r177_57 : Rn 177 (57, [x0, some (.int i), x2, x3, x4, x5], st, a, h) = Rn 177 (58, [x0, some (.int i), x2, x3, x4, x5], .int i :: st, a, h) := Rn_go c177_57 rfl
theorem c177_58 : mcode 177 58 = some (.iconst 3, 1, 0, 0, 0) := rfl
theorem r177_58 : Rn 177 (58, [x0, x1, x2, x3, x4, x5], st, a, h) = Rn 177 (59, [x0, x1, x2, x3, x4, x5], .int (3 : Int32) :: st, a, h) := Rn_go c177_58 rfl
theorem c177_59 : mcode 177 59 = some (.invokestatic 79, 3, 130, 2, 0) := rfl
theorem r177_59 : Rn 177 (59, [x0, x1, x2, x3, x4, x5], [v1, v0, .ref q0], a, h) = Bk 177 62 [x0, x1, x2, x3, x4, x5] [.ref q0] (Ec 130 [v0, v1] a h) := Rn_call0 c177_59 (fun z => nomatch z) rfl (Nat.le_of_ble_eq_true rfl) rfl rfl (Nat.le_of_ble_eq_true rfl)
theorem c177_62 : mcode 177 62 = some (.iload 5, 2, 0, 0, 0) := rfl
theorem r177_62 : Rn 177 (62, [x0, x1, x2, x3, x4, some (.int i)], st, a, h) = Rn 177 (64, [x0, x1, x2, x3, x4, some (.int i)], .int i :: st, a, h) := Rn_go c177_62 rfl
theorem c177_64 : mcode 177 64 = some (.iastore, 1, 0, 0, 0) := rfl
theorem r177_64 : Rn 177 (64, [x0, x1, x2, x3, x4, x5], .int j :: .int i :: .ref q :: st, a, h) = Kh 177 65 [x0, x1, x2, x3, x4, x5] st a (mias h q i j) := Rn_iast c177_64 rfl
theorem c177_65 : mcode 177 65 = some (.aload_n 0, 1, 0, 0, 0) := rfl
theorem r177_65 : Rn 177 (65, [some (.ref q), x1, x2, x3, x4, x5], st, a, h) = Rn 177 (66, [some (.ref q), x1, x2, x3, x4, x5], .ref q :: st, a, h) := Rn_go c177_65 rfl
theorem c177_66 : mcode 177 66 = some (.iload_n 1, 1, 0, 0, 0) := rfl
theorem r177_66 : Rn 177 (66, [x0, some (.int i), x2, x3, x4, x5], st, a, h) = Rn 177 (67, [x0, some (.int i), x2, x3, x4, x5], .int i :: st, a, h) := Rn_go c177_66 rfl
theorem c177_67 : mcode 177 67 = some (.iconst 2, 1, 0, 0, 0) := rfl
theorem r177_67 : Rn 177 (67, [x0, x1, x2, x3, x4, x5], st, a, h) = Rn 177 (68, [x0, x1, x2, x3, x4, x5], .int (2 : Int32) :: st, a, h) := Rn_go c177_67 rfl
theorem c177_68 : mcode 177 68 = some (.invokestatic 79, 3, 130, 2, 0) := rfl
theorem r177_68 : Rn 177 (68, [x0, x1, x2, x3, x4, x5], [v1, v0, .ref q0], a, h) = Bk 177 71 [x0, x1, x2, x3, x4, x5] [.ref q0] (Ec 130 [v0, v1] a h) := Rn_call0 c177_68 (fun z => nomatch z) rfl (Nat.le_of_ble_eq_true rfl) rfl rfl (Nat.le_of_ble_eq_true rfl)
theorem c177_71 : mcode 177 71 = some (.iload_n 2, 1, 0, 0, 0) := rfl
theorem r177_71 : Rn 177 (71, [x0, x1, some (.int i), x3, x4, x5], st, a, h) = Rn 177 (72, [x0, x1, some (.int i), x3, x4, x5], .int i :: st, a, h) := Rn_go c177_71 rfl
theorem c177_72 : mcode 177 72 = some (.invokevirtual 163, 3, 166, 2, 6) := rfl
theorem r177_72 : Rn 177 (72, [x0, x1, x2, x3, x4, x5], [v1, v0, .ref q], a, h) = if mis h q 6 = true then Bk 177 75 [x0, x1, x2, x3, x4, x5] [] (Ec 166 [.ref q, v0, v1] a h) else none := Rn_call1 c177_72 rfl (Nat.le_of_ble_eq_true rfl) rfl rfl (Nat.le_of_ble_eq_true rfl)
theorem c177_75 : mcode 177 75 = some (.aload_n 0, 1, 0, 0, 0) := rfl
theorem r177_75 : Rn 177 (75, [some (.ref q), x1, x2, x3, x4, x5], st, a, h) = Rn 177 (76, [some (.ref q), x1, x2, x3, x4, x5], .ref q :: st, a, h) := Rn_go c177_75 rfl
theorem c177_76 : mcode 177 76 = some (.iload_n 1, 1, 0, 0, 0) := rfl
theorem r177_76 : Rn 177 (76, [x0, some (.int i), x2, x3, x4, x5], st, a, h) = Rn 177 (77, [x0, some (.int i), x2, x3, x4, x5], .int i :: st, a, h) := Rn_go c177_76 rfl
theorem c177_77 : mcode 177 77 = some (.iconst 2, 1, 0, 0, 0) := rfl
theorem r177_77 : Rn 177 (77, [x0, x1, x2, x3, x4, x5], st, a, h) = Rn 177 (78, [x0, x1, x2, x3, x4, x5], .int (2 : Int32) :: st, a, h) := Rn_go c177_77 rfl
theorem c177_78 : mcode 177 78 = some (.invokevirtual 63, 3, 131, 2, 6) := rfl
theorem r177_78 : Rn 177 (78, [x0, x1, x2, x3, x4, x5], [v1, v0, .ref q, .int i0], a, h) = if mis h q 6 = true then Bk 177 81 [x0, x1, x2, x3, x4, x5] [.int i0] (Ec 131 [.ref q, v0, v1] a h) else none := Rn_call1 c177_78 rfl (Nat.le_of_ble_eq_true rfl) rfl rfl (Nat.le_of_ble_eq_true rfl)
theorem c177_81 : mcode 177 81 = some (.if_icmp .ne 8, 3, 0, 0, 0) := rfl
theorem r177_81 : Rn 177 (81, [x0, x1, x2, x3, x4, x5], .int j :: .int i :: st, a, h) = if i = j then Rn 177 (84, [x0, x1, x2, x3, x4, x5], st, a, h) else Rn 177 (89, [x0, x1, x2, x3, x4, x5], st, a, h) := Rn_icmpn c177_81 mc_ne rfl rfl
theorem c177_84 : mcode 177 84 = some (.iload 5, 2, 0, 0, 0) := rfl
theorem r177_84 : Rn 177 (84, [x0, x1, x2, x3, x4, some (.int i)], st, a, h) = Rn 177 (86, [x0, x1, x2, x3, x4, some (.int i)], .int i :: st, a, h) := Rn_go c177_84 rfl
theorem c177_86 : mcode 177 86 = some (.goto 4, 3, 0, 0, 0) := rfl
theorem r177_86 : Rn 177 (86, [x0, x1, x2, x3, x4, x5], st, a, h) = Rn 177 (90, [x0, x1, x2, x3, x4, x5], st, a, h) := Rn_goto c177_86 rfl
theorem c177_89 : mcode 177 89 = some (.iconst (-1), 1, 0, 0, 0) := rfl
theorem r177_89 : Rn 177 (89, [x0, x1, x2, x3, x4, x5], st, a, h) = Rn 177 (90, [x0, x1, x2, x3, x4, x5], .int (-1 : Int32) :: st, a, h) := Rn_go c177_89 rfl
theorem c177_90 : mcode 177 90 = some (.istore 4, 2, 0, 0, 0) := rfl
theorem r177_90 : Rn 177 (90, [x0, x1, x2, x3, x4, x5], .int i :: st, a, h) = Nl x3 (Rn 177 (92, [x0, x1, x2, x3, some (.int i), x5], st, a, h)) := Rn_st1 (k := 4) (v := .int i) x3 c177_90 rfl rfl rfl rfl
theorem c177_92 : mcode 177 92 = some (.iinc 5 1, 3, 0, 0, 0) := rfl
theorem r177_92 : Rn 177 (92, [x0, x1, x2, x3, x4, some (.int i)], st, a, h) = Nl x4 (Rn 177 (95, [x0, x1, x2, x3, x4, some (.int (i + (1 : Int32)))], st, a, h)) := Rn_st1 (k := 5) (v := .int (i + (1 : Int32))) x4 c177_92 rfl rfl rfl rfl
theorem c177_95 : mcode 177 95 = some (.goto (-55), 3, 0, 0, 0) := rfl
theorem r177_95 : Rn 177 (95, [x0, x1, x2, x3, x4, x5], st, a, h) = Rn 177 (40, [x0, x1, x2, x3, x4, x5], st, a, h) := Rn_goto c177_95 rfl
theorem c177_98 : mcode 177 98 = some (.aload_n 0, 1, 0, 0, 0) := rfl
theorem r177_98 : Rn 177 (98, [some (.ref q), x1, x2, x3, x4, x5], st, a, h) = Rn 177 (99, [some (.ref q), x1, x2, x3, x4, x5], .ref q :: st, a, h) := Rn_go c177_98 rfl
theorem c177_99 : mcode 177 99 = some (.getfield 7, 3, 6, 0, 0) := rfl
theorem r177_99 : Rn 177 (99, [x0, x1, x2, x3, x4, x5], .ref q :: st, a, h) = Kv 177 102 [x0, x1, x2, x3, x4, x5] st a h (mgf h q 6 0) := Rn_getf c177_99 rfl
theorem c177_102 : mcode 177 102 = some (.iload_n 1, 1, 0, 0, 0) := rfl
theorem r177_102 : Rn 177 (102, [x0, some (.int i), x2, x3, x4, x5], st, a, h) = Rn 177 (103, [x0, some (.int i), x2, x3, x4, x5], .int i :: st, a, h) := Rn_go c177_102 rfl
theorem c177_103 : mcode 177 103 = some (.iconst 3, 1, 0, 0, 0) := rfl
theorem r177_103 : Rn 177 (103, [x0, x1, x2, x3, x4, x5], st, a, h) = Rn 177 (104, [x0, x1, x2, x3, x4, x5], .int (3 : Int32) :: st, a, h) := Rn_go c177_103 rfl
theorem c177_104 : mcode 177 104 = some (.invokestatic 79, 3, 130, 2, 0) := rfl
theorem r177_104 : Rn 177 (104, [x0, x1, x2, x3, x4, x5], [v1, v0, .ref q0], a, h) = Bk 177 107 [x0, x1, x2, x3, x4, x5] [.ref q0] (Ec 130 [v0, v1] a h) := Rn_call0 c177_104 (fun z => nomatch z) rfl (Nat.le_of_ble_eq_true rfl) rfl rfl (Nat.le_of_ble_eq_true rfl)
theorem c177_107 : mcode 177 107 = some (.iload_n 3, 1, 0, 0, 0) := rfl
theorem r177_107 : Rn 177 (107, [x0, x1, x2, some (.int i), x4, x5], st, a, h) = Rn 177 (108, [x0, x1, x2, some (.int i), x4, x5], .int i :: st, a, h) := Rn_go c177_107 rfl
theorem c177_108 : mcode 177 108 = some (.iastore, 1, 0, 0, 0) := rfl
theorem r177_108 : Rn 177 (108, [x0, x1, x2, x3, x4, x5], .int j :: .int i :: .ref q :: st, a, h) = Kh 177 109 [x0, x1, x2, x3, x4, x5] st a (mias h q i j) := Rn_iast c177_108 rfl
theorem c177_109 : mcode 177 109 = some (.aload_n 0, 1, 0, 0, 0) := rfl
theorem r177_109 : Rn 177 (109, [some (.ref q), x1, x2, x3, x4, x5], st, a, h) = Rn 177 (110, [some (.ref q), x1, x2, x3, x4, x5], .ref q :: st, a, h) := Rn_go c177_109 rfl
theorem c177_110 : mcode 177 110 = some (.iload 4, 2, 0, 0, 0) := rfl
theorem r177_110 : Rn 177 (110, [x0, x1, x2, x3, some (.int i), x5], st, a, h) = Rn 177 (112, [x0, x1, x2, x3, some (.int i), x5], .int i :: st, a, h) := Rn_go c177_110 rfl
theorem c177_112 : mcode 177 112 = some (.invokevirtual 174, 3, 135, 1, 6) := rfl
theorem r177_112 : Rn 177 (112, [x0, x1, x2, x3, x4, x5], [v0, .ref q], a, h) = if mis h q 6 = true then Bk 177 115 [x0, x1, x2, x3, x4, x5] [] (Ec 135 [.ref q, v0] a h) else none := Rn_call1 c177_112 rfl (Nat.le_of_ble_eq_true rfl) rfl rfl (Nat.le_of_ble_eq_true rfl)
theorem c177_115 : mcode 177 115 = some (.ireturn, 1, 0, 0, 0) := rfl
theorem r177_115 : Rn 177 (115, [x0, x1, x2, x3, x4, x5], [.int i], a, h) = some (some (.int i), a, h) := Rn_ireti c177_115
theorem c178_0 : mcode 178 0 = some (.aload_n 0, 1, 0, 0, 0) := rfl
theorem r178_0 : Rn 178 (0, [some (.ref q), x1, x2, x3, x4], st, a, h) = Rn 178 (1, [some (.ref q), x1, x2, x3, x4], .ref q :: st, a, h) := Rn_go c178_0 rfl
theorem c178_1 : mcode 178 1 = some (.getfield 7, 3, 6, 0, 0) := rfl
theorem r178_1 : Rn 178 (1, [x0, x1, x2, x3, x4], .ref q :: st, a, h) = Kv 178 4 [x0, x1, x2, x3, x4] st a h (mgf h q 6 0) := Rn_getf c178_1 rfl
theorem c178_4 : mcode 178 4 = some (.aload_n 0, 1, 0, 0, 0) := rfl
theorem r178_4 : Rn 178 (4, [some (.ref q), x1, x2, x3, x4], st, a, h) = Rn 178 (5, [some (.ref q), x1, x2, x3, x4], .ref q :: st, a, h) := Rn_go c178_4 rfl
theorem c178_5 : mcode 178 5 = some (.getfield 19, 3, 6, 3, 0) := rfl
theorem r178_5 : Rn 178 (5, [x0, x1, x2, x3, x4], .ref q :: st, a, h) = Kv 178 8 [x0, x1, x2, x3, x4] st a h (mgf h q 6 3) := Rn_getf c178_5 rfl
theorem c178_8 : mcode 178 8 = some (.invokestatic 157, 3, 126, 2, 0) := rfl
theorem r178_8 : Rn 178 (8, [x0, x1, x2, x3, x4], [v1, v0], a, h) = Bk 178 11 [x0, x1, x2, x3, x4] [] (Ec 126 [v0, v1] a h) := Rn_call0 c178_8 (fun z => nomatch z) rfl (Nat.le_of_ble_eq_true rfl) rfl rfl (Nat.le_of_ble_eq_true rfl)
theorem c178_11 : mcode 178 11 = some (.iconst 0, 1, 0, 0, 0) := rfl
theorem r178_11 : Rn 178 (11, [x0, x1, x2, x3, x4], st, a, h) = Rn 178 (12, [x0, x1, x2, x3, x4], .int (0 : Int32) :: st, a, h) := Rn_go c178_11 rfl
theorem c178_12 : mcode 178 12 = some (.istore 4, 2, 0, 0, 0) := rfl
theorem r178_12 : Rn 178 (12, [x0, x1, x2, x3, x4], .int i :: st, a, h) = Nl x3 (Rn 178 (14, [x0, x1, x2, x3, some (.int i)], st, a, h)) := Rn_st1 (k := 4) (v := .int i) x3 c178_12 rfl rfl rfl rfl
theorem c178_14 : mcode 178 14 = some (.iload 4, 2, 0, 0, 0) := rfl
theorem r178_14 : Rn 178 (14, [x0, x1, x2, x3, some (.int i)], st, a, h) = Rn 178 (16, [x0, x1, x2, x3, some (.int i)], .int i :: st, a, h) := Rn_go c178_14 rfl
theorem c178_16 : mcode 178 16 = some (.iload_n 2, 1, 0, 0, 0) := rfl
theorem r178_16 : Rn 178 (16, [x0, x1, some (.int i), x3, x4], st, a, h) = Rn 178 (17, [x0, x1, some (.int i), x3, x4], .int i :: st, a, h) := Rn_go c178_16 rfl
theorem c178_17 : mcode 178 17 = some (.if_icmp .ge 14, 3, 0, 0, 0) := rfl
theorem r178_17 : Rn 178 (17, [x0, x1, x2, x3, x4], .int j :: .int i :: st, a, h) = if i < j then Rn 178 (20, [x0, x1, x2, x3, x4], st, a, h) else Rn 178 (31, [x0, x1, x2, x3, x4], st, a, h) := Rn_icmpn c178_17 mc_ge rfl rfl
theorem c178_20 : mcode 178 20 = some (.aload_n 0, 1, 0, 0, 0) := rfl
theorem r178_20 : Rn 178 (20, [some (.ref q), x1, x2, x3, x4], st, a, h) = Rn 178 (21, [some (.ref q), x1, x2, x3, x4], .ref q :: st, a, h) := Rn_go c178_20 rfl
theorem c178_21 : mcode 178 21 = some (.iload_n 3, 1, 0, 0, 0) := rfl
theorem r178_21 : Rn 178 (21, [x0, x1, x2, some (.int i), x4], st, a, h) = Rn 178 (22, [x0, x1, x2, some (.int i), x4], .int i :: st, a, h) := Rn_go c178_21 rfl
theorem c178_22 : mcode 178 22 = some (.invokevirtual 131, 3, 157, 1, 6) := rfl
theorem r178_22 : Rn 178 (22, [x0, x1, x2, x3, x4], [v0, .ref q], a, h) = if mis h q 6 = true then Bk 178 25 [x0, x1, x2, x3, x4] [] (Ec 157 [.ref q, v0] a h) else none := Rn_call1 c178_22 rfl (Nat.le_of_ble_eq_true rfl) rfl rfl (Nat.le_of_ble_eq_true rfl)
theorem c178_25 : mcode 178 25 = some (.iinc 4 1, 3, 0, 0, 0) := rfl
theorem r178_25 : Rn 178 (25, [x0, x1, x2, x3, some (.int i)], st, a, h) = Nl x3 (Rn 178 (28, [x0, x1, x2, x3, some (.int (i + (1 : Int32)))], st, a, h)) := Rn_st1 (k := 4) (v := .int (i + (1 : Int32))) x3 c178_25 rfl rfl rfl rfl
theorem c178_28 : mcode 178 28 = some (.goto (-14), 3, 0, 0, 0) := rfl
theorem r178_28 : Rn 178 (28, [x0, x1, x2, x3, x4], st, a, h) = Rn 178 (14, [x0, x1, x2, x3, x4], st, a, h) := Rn_goto c178_28 rfl
theorem c178_31 : mcode 178 31 = some (.aload_n 0, 1, 0, 0, 0) := rfl
theorem r178_31 : Rn 178 (31, [some (.ref q), x1, x2, x3, x4], st, a, h) = Rn 178 (32, [some (.ref q), x1, x2, x3, x4], .ref q :: st, a, h) := Rn_go c178_31 rfl
theorem c178_32 : mcode 178 32 = some (.iload_n 1, 1, 0, 0, 0) := rfl
theorem r178_32 : Rn 178 (32, [x0, some (.int i), x2, x3, x4], st, a, h) = Rn 178 (33, [x0, some (.int i), x2, x3, x4], .int i :: st, a, h) := Rn_go c178_32 rfl
theorem c178_33 : mcode 178 33 = some (.invokevirtual 145, 3, 162, 1, 6) := rfl
theorem r178_33 : Rn 178 (33, [x0, x1, x2, x3, x4], [v0, .ref q], a, h) = if mis h q 6 = true then Bk 178 36 [x0, x1, x2, x3, x4] [] (Ec 162 [.ref q, v0] a h) else none := Rn_call1 c178_33 rfl (Nat.le_of_ble_eq_true rfl) rfl rfl (Nat.le_of_ble_eq_true rfl)
theorem c178_36 : mcode 178 36 = some (.istore 4, 2, 0, 0, 0) := rfl
theorem r178_36 : Rn 178 (36, [x0, x1, x2, x3, x4], .int i :: st, a, h) = Nl x3 (Rn 178 (38, [x0, x1, x2, x3, some (.int i)], st, a, h)) := Rn_st1 (k := 4) (v := .int i) x3 c178_36 rfl rfl rfl rfl
theorem c178_38 : mcode 178 38 = some (.aload_n 0, 1, 0, 0, 0) := rfl
theorem r178_38 : Rn 178 (38, [some (.ref q), x1, x2, x3, x4], st, a, h) = Rn 178 (39, [some (.ref q), x1, x2, x3, x4], .ref q :: st, a, h) := Rn_go c178_38 rfl
theorem c178_39 : mcode 178 39 = some (.getfield 19, 3, 6, 3, 0) := rfl
theorem r178_39 : Rn 178 (39, [x0, x1, x2, x3, x4], .ref q :: st, a, h) = Kv 178 42 [x0, x1, x2, x3, x4] st a h (mgf h q 6 3) := Rn_getf c178_39 rfl
theorem c178_42 : mcode 178 42 = some (.aload_n 0, 1, 0, 0, 0) := rfl
theorem r178_42 : Rn 178 (42, [some (.ref q), x1, x2, x3, x4], st, a, h) = Rn 178 (43, [some (.ref q), x1, x2, x3, x4], .ref q :: st, a, h) := Rn_go c178_42 rfl
theorem c178_43 : mcode 178 43 = some (.getfield 7, 3, 6, 0, 0) := rfl
theorem r178_43 : Rn 178 (43, [x0, x1, x2, x3, x4], .ref q :: st, a, h) = Kv 178 46 [x0, x1, x2, x3, x4] st a h (mgf h q 6 0) := Rn_getf c178_43 rfl
theorem c178_46 : mcode 178 46 = some (.invokestatic 157, 3, 126, 2, 0) := rfl
theorem r178_46 : Rn 178 (46, [x0, x1, x2, x3, x4], [v1, v0], a, h) = Bk 178 49 [x0, x1, x2, x3, x4] [] (Ec 126 [v0, v1] a h) := Rn_call0 c178_46 (fun z => nomatch z) rfl (Nat.le_of_ble_eq_true rfl) rfl rfl (Nat.le_of_ble_eq_true rfl)
theorem c178_49 : mcode 178 49 = some (.iload 4, 2, 0, 0, 0) := rfl
theorem r178_49 : Rn 178 (49, [x0, x1, x2, x3, some (.int i)], st, a, h) = Rn 178 (51, [x0, x1, x2, x3, some (.int i)], .int i :: st, a, h) := Rn_go c178_49 rfl
theorem c178_51 : mcode 178 51 = some (.ireturn, 1, 1, 0, 0) := rfl
theorem r178_51 : Rn 178 (51, [x0, x1, x2, x3, x4], [.int i], a, h) = if mrt 1 i = true then some (some (.int i), a, h) else none := Rn_iretz c178_51
theorem c179_0 : mcode 179 0 = some (.iload_n 1, 1, 0, 0, 0) := rfl
theorem r179_0 : Rn 179 (0, [x0, some (.int i), x2, x3, x4, x5], st, a, h) = Rn 179 (1, [x0, some (.int i), x2, x3, x4, x5], .int i :: st, a, h) := Rn_go c179_0 rfl
theorem c179_1 : mcode 179 1 = some (.invokestatic 43, 3, 127, 1, 0) := rfl
theorem r179_1 : Rn 179 (1, [x0, x1, x2, x3, x4, x5], [v0], a, h) = Bk 179 4 [x0, x1, x2, x3, x4, x5] [] (Ec 127 [v0] a h) := Rn_call0 c179_1 (fun z => nomatch z) rfl (Nat.le_of_ble_eq_true rfl) rfl rfl (Nat.le_of_ble_eq_true rfl)
theorem c179_4 : mcode 179 4 = some (.ifCond .eq 15, 3, 0, 0, 0) := rfl
theorem r179_4 : Rn 179 (4, [x0, x1, x2, x3, x4, x5], .int i :: st, a, h) = if i = 0 then Rn 179 (19, [x0, x1, x2, x3, x4, x5], st, a, h) else Rn 179 (7, [x0, x1, x2, x3, x4, x5], st, a, h) := Rn_ifc c179_4 mc_eq rfl rfl
theorem c179_7 : mcode 179 7 = some (.iload_n 2, 1, 0, 0, 0) := rfl
theorem r179_7 : Rn 179 (7, [x0, x1, some (.int i), x3, x4, x5], st, a, h) = Rn 179 (8, [x0, x1, some (.int i), x3, x4, x5], .int i :: st, a, h) := Rn_go c179_7 rfl
theorem c179_8 : mcode 179 8 = some (.i2l, 1, 0, 0, 0) := rfl
theorem r179_8 : Rn 179 (8, [x0, x1, x2, x3, x4, x5], .int i :: st, a, h) = Rn 179 (9, [x0, x1, x2, x3, x4, x5], .long i.toInt64 :: st, a, h) := Rn_go c179_8 rfl
theorem c179_9 : mcode 179 9 = some (.lconst 0, 1, 0, 0, 0) := rfl
theorem r179_9 : Rn 179 (9, [x0, x1, x2, x3, x4, x5], st, a, h) = Rn 179 (10, [x0, x1, x2, x3, x4, x5], .long (0 : Int64) :: st, a, h) := Rn_go c179_9 rfl
theorem c179_10 : mcode 179 10 = some (.ldc2_w 172, 3, 0, 0, 40) := rfl
theorem r179_10 : Rn 179 (10, [x0, x1, x2, x3, x4, x5], st, a, h) = Rn 179 (13, [x0, x1, x2, x3, x4, x5], .long (40 : Int64) :: st, a, h) := Rn_go c179_10 rfl
theorem c179_13 : mcode 179 13 = some (.invokestatic 52, 3, 123, 3, 0) := rfl
theorem r179_13 : Rn 179 (13, [x0, x1, x2, x3, x4, x5], [v2, v1, v0], a, h) = Bk 179 16 [x0, x1, x2, x3, x4, x5] [] (Ec 123 [v0, v1, v2] a h) := Rn_call0 c179_13 (fun z => nomatch z) rfl (Nat.le_of_ble_eq_true rfl) rfl rfl (Nat.le_of_ble_eq_true rfl)
theorem c179_16 : mcode 179 16 = some (.ifCond .ne 10, 3, 0, 0, 0) := rfl
theorem r179_16 : Rn 179 (16, [x0, x1, x2, x3, x4, x5], .int i :: st, a, h) = if i = 0 then Rn 179 (19, [x0, x1, x2, x3, x4, x5], st, a, h) else Rn 179 (26, [x0, x1, x2, x3, x4, x5], st, a, h) := Rn_ifcn c179_16 mc_ne rfl rfl
theorem c179_19 : mcode 179 19 = some (.aload_n 0, 1, 0, 0, 0) := rfl
theorem r179_19 : Rn 179 (19, [some (.ref q), x1, x2, x3, x4, x5], st, a, h) = Rn 179 (20, [some (.ref q), x1, x2, x3, x4, x5], .ref q :: st, a, h) := Rn_go c179_19 rfl
theorem c179_20 : mcode 179 20 = some (.ldc 37, 2, 0, 0, -1000001) := rfl
theorem r179_20 : Rn 179 (20, [x0, x1, x2, x3, x4, x5], st, a, h) = Rn 179 (22, [x0, x1, x2, x3, x4, x5], .int (-1000001 : Int32) :: st, a, h) := Rn_go c179_20 rfl
theorem c179_22 : mcode 179 22 = some (.invokevirtual 39, 3, 124, 1, 6) := rfl
theorem r179_22 : Rn 179 (22, [x0, x1, x2, x3, x4, x5], [v0, .ref q], a, h) = if mis h q 6 = true then Bk 179 25 [x0, x1, x2, x3, x4, x5] [] (Ec 124 [.ref q, v0] a h) else none := Rn_call1 c179_22 rfl (Nat.le_of_ble_eq_true rfl) rfl rfl (Nat.le_of_ble_eq_true rfl)
theorem c179_25 : mcode 179 25 = some (.ireturn, 1, 0, 0, 0) := rfl
theorem r179_25 : Rn 179 (25, [x0, x1, x2, x3, x4, x5], [.int i], a, h) = some (some (.int i), a, h) := Rn_ireti c179_25
theorem c179_26 : mcode 179 26 = some (.aload_n 0, 1, 0, 0, 0) := rfl
theorem r179_26 : Rn 179 (26, [some (.ref q), x1, x2, x3, x4, x5], st, a, h) = Rn 179 (27, [some (.ref q), x1, x2, x3, x4, x5], .ref q :: st, a, h) := Rn_go c179_26 rfl
theorem c179_27 : mcode 179 27 = some (.getfield 7, 3, 6, 0, 0) := rfl
theorem r179_27 : Rn 179 (27, [x0, x1, x2, x3, x4, x5], .ref q :: st, a, h) = Kv 179 30 [x0, x1, x2, x3, x4, x5] st a h (mgf h q 6 0) := Rn_getf c179_27 rfl
theorem c179_30 : mcode 179 30 = some (.iconst 3, 1, 0, 0, 0) := rfl
theorem r179_30 : Rn 179 (30, [x0, x1, x2, x3, x4, x5], st, a, h) = Rn 179 (31, [x0, x1, x2, x3, x4, x5], .int (3 : Int32) :: st, a, h) := Rn_go c179_30 rfl
theorem c179_31 : mcode 179 31 = some (.iaload, 1, 0, 0, 0) := rfl
theorem r179_31 : Rn 179 (31, [x0, x1, x2, x3, x4, x5], .int i :: .ref q :: st, a, h) = Ki 179 32 [x0, x1, x2, x3, x4, x5] st a h (mld h q i false) := Rn_iald c179_31 rfl
theorem c179_32 : mcode 179 32 = some (.istore_n 3, 1, 0, 0, 0) := rfl
theorem r179_32 : Rn 179 (32, [x0, x1, x2, x3, x4, x5], .int i :: st, a, h) = Nl x2 (Rn 179 (33, [x0, x1, x2, some (.int i), x4, x5], st, a, h)) := Rn_st1 (k := 3) (v := .int i) x2 c179_32 rfl rfl rfl rfl
theorem c179_33 : mcode 179 33 = some (.iconst (-1), 1, 0, 0, 0) := rfl
theorem r179_33 : Rn 179 (33, [x0, x1, x2, x3, x4, x5], st, a, h) = Rn 179 (34, [x0, x1, x2, x3, x4, x5], .int (-1 : Int32) :: st, a, h) := Rn_go c179_33 rfl
theorem c179_34 : mcode 179 34 = some (.istore 4, 2, 0, 0, 0) := rfl
theorem r179_34 : Rn 179 (34, [x0, x1, x2, x3, x4, x5], .int i :: st, a, h) = Nl x3 (Rn 179 (36, [x0, x1, x2, x3, some (.int i), x5], st, a, h)) := Rn_st1 (k := 4) (v := .int i) x3 c179_34 rfl rfl rfl rfl
theorem c179_36 : mcode 179 36 = some (.bipush 9, 2, 0, 0, 0) := rfl
theorem r179_36 : Rn 179 (36, [x0, x1, x2, x3, x4, x5], st, a, h) = Rn 179 (38, [x0, x1, x2, x3, x4, x5], .int (9 : Int32) :: st, a, h) := Rn_go c179_36 rfl
theorem c179_38 : mcode 179 38 = some (.istore 5, 2, 0, 0, 0) := rfl
theorem r179_38 : Rn 179 (38, [x0, x1, x2, x3, x4, x5], .int i :: st, a, h) = Nl x4 (Rn 179 (40, [x0, x1, x2, x3, x4, some (.int i)], st, a, h)) := Rn_st1 (k := 5) (v := .int i) x4 c179_38 rfl rfl rfl rfl
theorem c179_40 : mcode 179 40 = some (.iload 5, 2, 0, 0, 0) := rfl
theorem r179_40 : Rn 179 (40, [x0, x1, x2, x3, x4, some (.int i)], st, a, h) = Rn 179 (42, [x0, x1, x2, x3, x4, some (.int i)], .int i :: st, a, h) := Rn_go c179_40 rfl
theorem c179_42 : mcode 179 42 = some (.ifCond .lt 40, 3, 0, 0, 0) := rfl
theorem r179_42 : Rn 179 (42, [x0, x1, x2, x3, x4, x5], .int i :: st, a, h) = if i < 0 then Rn 179 (82, [x0, x1, x2, x3, x4, x5], st, a, h) else Rn 179 (45, [x0, x1, x2, x3, x4, x5], st, a, h) := Rn_ifc c179_42 mc_lt rfl rfl
theorem c179_45 : mcode 179 45 = some (.iload 4, 2, 0, 0, 0) := rfl
theorem r179_45 : Rn 179 (45, [x0, x1, x2, x3, some (.int i), x5], st, a, h) = Rn 179 (47, [x0, x1, x2, x3, some (.int i), x5], .int i :: st, a, h) := Rn_go c179_45 rfl
theorem c179_47 : mcode 179 47 = some (.ifCond .ge 35, 3, 0, 0, 0) := rfl
theorem r179_47 : Rn 179 (47, [x0, x1, x2, x3, x4, x5], .int i :: st, a, h) = if i < 0 then Rn 179 (50, [x0, x1, x2, x3, x4, x5], st, a, h) else Rn 179 (82, [x0, x1, x2, x3, x4, x5], st, a, h) := Rn_ifcn c179_47 mc_ge rfl rfl
theorem c179_50 : mcode 179 50 = some (.aload_n 0, 1, 0, 0, 0) := rfl
theorem r179_50 : Rn 179 (50, [some (.ref q), x1, x2, x3, x4, x5], st, a, h) = Rn 179 (51, [some (.ref q), x1, x2, x3, x4, x5], .ref q :: st, a, h) := Rn_go c179_50 rfl
theorem c179_51 : mcode 179 51 = some (.getfield 7, 3, 6, 0, 0) := rfl
theorem r179_51 : Rn 179 (51, [x0, x1, x2, x3, x4, x5], .ref q :: st, a, h) = Kv 179 54 [x0, x1, x2, x3, x4, x5] st a h (mgf h q 6 0) := Rn_getf c179_51 rfl
theorem c179_54 : mcode 179 54 = some (.iconst 3, 1, 0, 0, 0) := rfl
theorem r179_54 : Rn 179 (54, [x0, x1, x2, x3, x4, x5], st, a, h) = Rn 179 (55, [x0, x1, x2, x3, x4, x5], .int (3 : Int32) :: st, a, h) := Rn_go c179_54 rfl
theorem c179_55 : mcode 179 55 = some (.iload 5, 2, 0, 0, 0) := rfl
theorem r179_55 : Rn 179 (55, [x0, x1, x2, x3, x4, some (.int i)], st, a, h) = Rn 179 (57, [x0, x1, x2, x3, x4, some (.int i)], .int i :: st, a, h) := Rn_go c179_55 rfl
theorem c179_57 : mcode 179 57 = some (.iastore, 1, 0, 0, 0) := rfl
theorem r179_57 : Rn 179 (57, [x0, x1, x2, x3, x4, x5], .int j :: .int i :: .ref q :: st, a, h) = Kh 179 58 [x0, x1, x2, x3, x4, x5] st a (mias h q i j) := Rn_iast c179_57 rfl
theorem c179_58 : mcode 179 58 = some (.aload_n 0, 1, 0, 0, 0) := rfl
theorem r179_58 : Rn 179 (58, [some (.ref q), x1, x2, x3, x4, x5], st, a, h) = Rn 179 (59, [some (.ref q), x1, x2, x3, x4, x5], .ref q :: st, a, h) := Rn_go c179_58 rfl
theorem c179_59 : mcode 179 59 = some (.iload_n 1, 1, 0, 0, 0) := rfl
theorem r179_59 : Rn 179 (59, [x0, some (.int i), x2, x3, x4, x5], st, a, h) = Rn 179 (60, [x0, some (.int i), x2, x3, x4, x5], .int i :: st, a, h) := Rn_go c179_59 rfl
theorem c179_60 : mcode 179 60 = some (.iload_n 2, 1, 0, 0, 0) := rfl
theorem r179_60 : Rn 179 (60, [x0, x1, some (.int i), x3, x4, x5], st, a, h) = Rn 179 (61, [x0, x1, some (.int i), x3, x4, x5], .int i :: st, a, h) := Rn_go c179_60 rfl
theorem c179_61 : mcode 179 61 = some (.iconst 0, 1, 0, 0, 0) := rfl
theorem r179_61 : Rn 179 (61, [x0, x1, x2, x3, x4, x5], st, a, h) = Rn 179 (62, [x0, x1, x2, x3, x4, x5], .int (0 : Int32) :: st, a, h) := Rn_go c179_61 rfl
theorem c179_62 : mcode 179 62 = some (.invokevirtual 177, 3, 178, 3, 6) := rfl
theorem r179_62 : Rn 179 (62, [x0, x1, x2, x3, x4, x5], [v2, v1, v0, .ref q], a, h) = if mis h q 6 = true then Bk 179 65 [x0, x1, x2, x3, x4, x5] [] (Ec 178 [.ref q, v0, v1, v2] a h) else none := Rn_call1 c179_62 rfl (Nat.le_of_ble_eq_true rfl) rfl rfl (Nat.le_of_ble_eq_true rfl)
theorem c179_65 : mcode 179 65 = some (.ifCond .eq 8, 3, 0, 0, 0) := rfl
theorem r179_65 : Rn 179 (65, [x0, x1, x2, x3, x4, x5], .int i :: st, a, h) = if i = 0 then Rn 179 (73, [x0, x1, x2, x3, x4, x5], st, a, h) else Rn 179 (68, [x0, x1, x2, x3, x4, x5], st, a, h) := Rn_ifc c179_65 mc_eq rfl rfl
theorem c179_68 : mcode 179 68 = some (.iload 5, 2, 0, 0, 0) := rfl
theorem r179_68 : Rn 179 (68, [x0, x1, x2, x3, x4, some (.int i)], st, a, h) = Rn 179 (70, [x0, x1, x2, x3, x4, some (.int i)], .int i :: st, a, h) := Rn_go c179_68 rfl
theorem c179_70 : mcode 179 70 = some (.goto 4, 3, 0, 0, 0) := rfl
theorem r179_70 : Rn 179 (70, [x0, x1, x2, x3, x4, x5], st, a, h) = Rn 179 (74, [x0, x1, x2, x3, x4, x5], st, a, h) := Rn_goto c179_70 rfl
theorem c179_73 : mcode 179 73 = some (.iconst (-1), 1, 0, 0, 0) := rfl
theorem r179_73 : Rn 179 (73, [x0, x1, x2, x3, x4, x5], st, a, h) = Rn 179 (74, [x0, x1, x2, x3, x4, x5], .int (-1 : Int32) :: st, a, h) := Rn_go c179_73 rfl
theorem c179_74 : mcode 179 74 = some (.istore 4, 2, 0, 0, 0) := rfl
theorem r179_74 : Rn 179 (74, [x0, x1, x2, x3, x4, x5], .int i :: st, a, h) = Nl x3 (Rn 179 (76, [x0, x1, x2, x3, some (.int i), x5], st, a, h)) := Rn_st1 (k := 4) (v := .int i) x3 c179_74 rfl rfl rfl rfl
theorem c179_76 : mcode 179 76 = some (.iinc 5 (-1), 3, 0, 0, 0) := rfl
theorem r179_76 : Rn 179 (76, [x0, x1, x2, x3, x4, some (.int i)], st, a, h) = Nl x4 (Rn 179 (79, [x0, x1, x2, x3, x4, some (.int (i + (-1 : Int32)))], st, a, h)) := Rn_st1 (k := 5) (v := .int (i + (-1 : Int32))) x4 c179_76 rfl rfl rfl rfl
theorem c179_79 : mcode 179 79 = some (.goto (-39), 3, 0, 0, 0) := rfl
theorem r179_79 : Rn 179 (79, [x0, x1, x2, x3, x4, x5], st, a, h) = Rn 179 (40, [x0, x1, x2, x3, x4, x5], st, a, h) := Rn_goto c179_79 rfl
theorem c179_82 : mcode 179 82 = some (.aload_n 0, 1, 0, 0, 0) := rfl
theorem r179_82 : Rn 179 (82, [some (.ref q), x1, x2, x3, x4, x5], st, a, h) = Rn 179 (83, [some (.ref q), x1, x2, x3, x4, x5], .ref q :: st, a, h) := Rn_go c179_82 rfl
theorem c179_83 : mcode 179 83 = some (.getfield 7, 3, 6, 0, 0) := rfl
theorem r179_83 : Rn 179 (83, [x0, x1, x2, x3, x4, x5], .ref q :: st, a, h) = Kv 179 86 [x0, x1, x2, x3, x4, x5] st a h (mgf h q 6 0) := Rn_getf c179_83 rfl
theorem c179_86 : mcode 179 86 = some (.iconst 3, 1, 0, 0, 0) := rfl
theorem r179_86 : Rn 179 (86, [x0, x1, x2, x3, x4, x5], st, a, h) = Rn 179 (87, [x0, x1, x2, x3, x4, x5], .int (3 : Int32) :: st, a, h) := Rn_go c179_86 rfl
theorem c179_87 : mcode 179 87 = some (.iload_n 3, 1, 0, 0, 0) := rfl
theorem r179_87 : Rn 179 (87, [x0, x1, x2, some (.int i), x4, x5], st, a, h) = Rn 179 (88, [x0, x1, x2, some (.int i), x4, x5], .int i :: st, a, h) := Rn_go c179_87 rfl
theorem c179_88 : mcode 179 88 = some (.iastore, 1, 0, 0, 0) := rfl
theorem r179_88 : Rn 179 (88, [x0, x1, x2, x3, x4, x5], .int j :: .int i :: .ref q :: st, a, h) = Kh 179 89 [x0, x1, x2, x3, x4, x5] st a (mias h q i j) := Rn_iast c179_88 rfl
theorem c179_89 : mcode 179 89 = some (.aload_n 0, 1, 0, 0, 0) := rfl
theorem r179_89 : Rn 179 (89, [some (.ref q), x1, x2, x3, x4, x5], st, a, h) = Rn 179 (90, [some (.ref q), x1, x2, x3, x4, x5], .ref q :: st, a, h) := Rn_go c179_89 rfl
theorem c179_90 : mcode 179 90 = some (.iload 4, 2, 0, 0, 0) := rfl
theorem r179_90 : Rn 179 (90, [x0, x1, x2, x3, some (.int i), x5], st, a, h) = Rn 179 (92, [x0, x1, x2, x3, some (.int i), x5], .int i :: st, a, h) := Rn_go c179_90 rfl
theorem c179_92 : mcode 179 92 = some (.invokevirtual 174, 3, 135, 1, 6) := rfl
theorem r179_92 : Rn 179 (92, [x0, x1, x2, x3, x4, x5], [v0, .ref q], a, h) = if mis h q 6 = true then Bk 179 95 [x0, x1, x2, x3, x4, x5] [] (Ec 135 [.ref q, v0] a h) else none := Rn_call1 c179_92 rfl (Nat.le_of_ble_eq_true rfl) rfl rfl (Nat.le_of_ble_eq_true rfl)
theorem c179_95 : mcode 179 95 = some (.ireturn, 1, 0, 0, 0) := rfl
theorem r179_95 : Rn 179 (95, [x0, x1, x2, x3, x4, x5], [.int i], a, h) = some (some (.int i), a, h) := Rn_ireti c179_95
theorem c180_0 : mcode 180 0 = some (.iload_n 1, 1, 0, 0, 0) := rfl
theorem r180_0 : Rn 180 (0, [x0, some (.int i), x2, x3, x4], st, a, h) = Rn 180 (1, [x0, some (.int i), x2, x3, x4], .int i :: st, a, h) := Rn_go c180_0 rfl
theorem c180_1 : mcode 180 1 = some (.invokestatic 43, 3, 127, 1, 0) := rfl
theorem r180_1 : Rn 180 (1, [x0, x1, x2, x3, x4], [v0], a, h) = Bk 180 4 [x0, x1, x2, x3, x4] [] (Ec 127 [v0] a h) := Rn_call0 c180_1 (fun z => nomatch z) rfl (Nat.le_of_ble_eq_true rfl) rfl rfl (Nat.le_of_ble_eq_true rfl)
theorem c180_4 : mcode 180 4 = some (.ifCond .eq 15, 3, 0, 0, 0) := rfl
theorem r180_4 : Rn 180 (4, [x0, x1, x2, x3, x4], .int i :: st, a, h) = if i = 0 then Rn 180 (19, [x0, x1, x2, x3, x4], st, a, h) else Rn 180 (7, [x0, x1, x2, x3, x4], st, a, h) := Rn_ifc c180_4 mc_eq rfl rfl
theorem c180_7 : mcode 180 7 = some (.iload_n 2, 1, 0, 0, 0) := rfl
theorem r180_7 : Rn 180 (7, [x0, x1, some (.int i), x3, x4], st, a, h) = Rn 180 (8, [x0, x1, some (.int i), x3, x4], .int i :: st, a, h) := Rn_go c180_7 rfl
theorem c180_8 : mcode 180 8 = some (.i2l, 1, 0, 0, 0) := rfl
theorem r180_8 : Rn 180 (8, [x0, x1, x2, x3, x4], .int i :: st, a, h) = Rn 180 (9, [x0, x1, x2, x3, x4], .long i.toInt64 :: st, a, h) := Rn_go c180_8 rfl
theorem c180_9 : mcode 180 9 = some (.lconst 0, 1, 0, 0, 0) := rfl
theorem r180_9 : Rn 180 (9, [x0, x1, x2, x3, x4], st, a, h) = Rn 180 (10, [x0, x1, x2, x3, x4], .long (0 : Int64) :: st, a, h) := Rn_go c180_9 rfl
theorem c180_10 : mcode 180 10 = some (.ldc2_w 181, 3, 0, 0, 20) := rfl
theorem r180_10 : Rn 180 (10, [x0, x1, x2, x3, x4], st, a, h) = Rn 180 (13, [x0, x1, x2, x3, x4], .long (20 : Int64) :: st, a, h) := Rn_go c180_10 rfl
theorem c180_13 : mcode 180 13 = some (.invokestatic 52, 3, 123, 3, 0) := rfl
theorem r180_13 : Rn 180 (13, [x0, x1, x2, x3, x4], [v2, v1, v0], a, h) = Bk 180 16 [x0, x1, x2, x3, x4] [] (Ec 123 [v0, v1, v2] a h) := Rn_call0 c180_13 (fun z => nomatch z) rfl (Nat.le_of_ble_eq_true rfl) rfl rfl (Nat.le_of_ble_eq_true rfl)
theorem c180_16 : mcode 180 16 = some (.ifCond .ne 10, 3, 0, 0, 0) := rfl
theorem r180_16 : Rn 180 (16, [x0, x1, x2, x3, x4], .int i :: st, a, h) = if i = 0 then Rn 180 (19, [x0, x1, x2, x3, x4], st, a, h) else Rn 180 (26, [x0, x1, x2, x3, x4], st, a, h) := Rn_ifcn c180_16 mc_ne rfl rfl
theorem c180_19 : mcode 180 19 = some (.aload_n 0, 1, 0, 0, 0) := rfl
theorem r180_19 : Rn 180 (19, [some (.ref q), x1, x2, x3, x4], st, a, h) = Rn 180 (20, [some (.ref q), x1, x2, x3, x4], .ref q :: st, a, h) := Rn_go c180_19 rfl
theorem c180_20 : mcode 180 20 = some (.ldc 37, 2, 0, 0, -1000001) := rfl
theorem r180_20 : Rn 180 (20, [x0, x1, x2, x3, x4], st, a, h) = Rn 180 (22, [x0, x1, x2, x3, x4], .int (-1000001 : Int32) :: st, a, h) := Rn_go c180_20 rfl
theorem c180_22 : mcode 180 22 = some (.invokevirtual 39, 3, 124, 1, 6) := rfl
theorem r180_22 : Rn 180 (22, [x0, x1, x2, x3, x4], [v0, .ref q], a, h) = if mis h q 6 = true then Bk 180 25 [x0, x1, x2, x3, x4] [] (Ec 124 [.ref q, v0] a h) else none := Rn_call1 c180_22 rfl (Nat.le_of_ble_eq_true rfl) rfl rfl (Nat.le_of_ble_eq_true rfl)
theorem c180_25 : mcode 180 25 = some (.ireturn, 1, 0, 0, 0) := rfl
theorem r180_25 : Rn 180 (25, [x0, x1, x2, x3, x4], [.int i], a, h) = some (some (.int i), a, h) := Rn_ireti c180_25
theorem c180_26 : mcode 180 26 = some (.iconst (-1), 1, 0, 0, 0) := rfl
theorem r180_26 : Rn 180 (26, [x0, x1, x2, x3, x4], st, a, h) = Rn 180 (27, [x0, x1, x2, x3, x4], .int (-1 : Int32) :: st, a, h) := Rn_go c180_26 rfl
theorem c180_27 : mcode 180 27 = some (.istore_n 3, 1, 0, 0, 0) := rfl
theorem r180_27 : Rn 180 (27, [x0, x1, x2, x3, x4], .int i :: st, a, h) = Nl x2 (Rn 180 (28, [x0, x1, x2, some (.int i), x4], st, a, h)) := Rn_st1 (k := 3) (v := .int i) x2 c180_27 rfl rfl rfl rfl
theorem c180_28 : mcode 180 28 = some (.iconst 0, 1, 0, 0, 0) := rfl
theorem r180_28 : Rn 180 (28, [x0, x1, x2, x3, x4], st, a, h) = Rn 180 (29, [x0, x1, x2, x3, x4], .int (0 : Int32) :: st, a, h) := Rn_go c180_28 rfl
theorem c180_29 : mcode 180 29 = some (.istore 4, 2, 0, 0, 0) := rfl
theorem r180_29 : Rn 180 (29, [x0, x1, x2, x3, x4], .int i :: st, a, h) = Nl x3 (Rn 180 (31, [x0, x1, x2, x3, some (.int i)], st, a, h)) := Rn_st1 (k := 4) (v := .int i) x3 c180_29 rfl rfl rfl rfl
theorem c180_31 : mcode 180 31 = some (.iload 4, 2, 0, 0, 0) := rfl
theorem r180_31 : Rn 180 (31, [x0, x1, x2, x3, some (.int i)], st, a, h) = Rn 180 (33, [x0, x1, x2, x3, some (.int i)], .int i :: st, a, h) := Rn_go c180_31 rfl
theorem c180_33 : mcode 180 33 = some (.iconst 1, 1, 0, 0, 0) := rfl
theorem r180_33 : Rn 180 (33, [x0, x1, x2, x3, x4], st, a, h) = Rn 180 (34, [x0, x1, x2, x3, x4], .int (1 : Int32) :: st, a, h) := Rn_go c180_33 rfl
theorem c180_34 : mcode 180 34 = some (.aload_n 0, 1, 0, 0, 0) := rfl
theorem r180_34 : Rn 180 (34, [some (.ref q), x1, x2, x3, x4], st, a, h) = Rn 180 (35, [some (.ref q), x1, x2, x3, x4], .ref q :: st, a, h) := Rn_go c180_34 rfl
theorem c180_35 : mcode 180 35 = some (.getfield 7, 3, 6, 0, 0) := rfl
theorem r180_35 : Rn 180 (35, [x0, x1, x2, x3, x4], .ref q :: st, a, h) = Kv 180 38 [x0, x1, x2, x3, x4] st a h (mgf h q 6 0) := Rn_getf c180_35 rfl
theorem c180_38 : mcode 180 38 = some (.iconst 0, 1, 0, 0, 0) := rfl
theorem r180_38 : Rn 180 (38, [x0, x1, x2, x3, x4], st, a, h) = Rn 180 (39, [x0, x1, x2, x3, x4], .int (0 : Int32) :: st, a, h) := Rn_go c180_38 rfl
theorem c180_39 : mcode 180 39 = some (.iaload, 1, 0, 0, 0) := rfl
theorem r180_39 : Rn 180 (39, [x0, x1, x2, x3, x4], .int i :: .ref q :: st, a, h) = Ki 180 40 [x0, x1, x2, x3, x4] st a h (mld h q i false) := Rn_iald c180_39 rfl
theorem c180_40 : mcode 180 40 = some (.ishl, 1, 0, 0, 0) := rfl
theorem r180_40 : Rn 180 (40, [x0, x1, x2, x3, x4], .int j :: .int i :: st, a, h) = Rn 180 (41, [x0, x1, x2, x3, x4], .int (i <<< (j &&& 31)) :: st, a, h) := Rn_go c180_40 rfl
theorem c180_41 : mcode 180 41 = some (.if_icmp .ge 43, 3, 0, 0, 0) := rfl
theorem r180_41 : Rn 180 (41, [x0, x1, x2, x3, x4], .int j :: .int i :: st, a, h) = if i < j then Rn 180 (44, [x0, x1, x2, x3, x4], st, a, h) else Rn 180 (84, [x0, x1, x2, x3, x4], st, a, h) := Rn_icmpn c180_41 mc_ge rfl rfl
theorem c180_44 : mcode 180 44 = some (.iload_n 3, 1, 0, 0, 0) := rfl
theorem r180_44 : Rn 180 (44, [x0, x1, x2, some (.int i), x4], st, a, h) = Rn 180 (45, [x0, x1, x2, some (.int i), x4], .int i :: st, a, h) := Rn_go c180_44 rfl
theorem c180_45 : mcode 180 45 = some (.ifCond .lt 15, 3, 0, 0, 0) := rfl
theorem r180_45 : Rn 180 (45, [x0, x1, x2, x3, x4], .int i :: st, a, h) = if i < 0 then Rn 180 (60, [x0, x1, x2, x3, x4], st, a, h) else Rn 180 (48, [x0, x1, x2, x3, x4], st, a, h) := Rn_ifc c180_45 mc_lt rfl rfl
theorem c180_48 : mcode 180 48 = some (.iload 4, 2, 0, 0, 0) := rfl
theorem r180_48 : Rn 180 (48, [x0, x1, x2, x3, some (.int i)], st, a, h) = Rn 180 (50, [x0, x1, x2, x3, some (.int i)], .int i :: st, a, h) := Rn_go c180_48 rfl
theorem c180_50 : mcode 180 50 = some (.invokestatic 86, 3, 136, 1, 0) := rfl
theorem r180_50 : Rn 180 (50, [x0, x1, x2, x3, x4], [v0], a, h) = Bk 180 53 [x0, x1, x2, x3, x4] [] (Ec 136 [v0] a h) := Rn_call0 c180_50 (fun z => nomatch z) rfl (Nat.le_of_ble_eq_true rfl) rfl rfl (Nat.le_of_ble_eq_true rfl)
theorem c180_53 : mcode 180 53 = some (.iload_n 3, 1, 0, 0, 0) := rfl
theorem r180_53 : Rn 180 (53, [x0, x1, x2, some (.int i), x4], st, a, h) = Rn 180 (54, [x0, x1, x2, some (.int i), x4], .int i :: st, a, h) := Rn_go c180_53 rfl
theorem c180_54 : mcode 180 54 = some (.invokestatic 86, 3, 136, 1, 0) := rfl
theorem r180_54 : Rn 180 (54, [x0, x1, x2, x3, x4], [v0, .int i0], a, h) = Bk 180 57 [x0, x1, x2, x3, x4] [.int i0] (Ec 136 [v0] a h) := Rn_call0 c180_54 (fun z => nomatch z) rfl (Nat.le_of_ble_eq_true rfl) rfl rfl (Nat.le_of_ble_eq_true rfl)
theorem c180_57 : mcode 180 57 = some (.if_icmp .ge 19, 3, 0, 0, 0) := rfl
theorem r180_57 : Rn 180 (57, [x0, x1, x2, x3, x4], .int j :: .int i :: st, a, h) = if i < j then Rn 180 (60, [x0, x1, x2, x3, x4], st, a, h) else Rn 180 (76, [x0, x1, x2, x3, x4], st, a, h) := Rn_icmpn c180_57 mc_ge rfl rfl
theorem c180_60 : mcode 180 60 = some (.aload_n 0, 1, 0, 0, 0) := rfl
theorem r180_60 : Rn 180 (60, [some (.ref q), x1, x2, x3, x4], st, a, h) = Rn 180 (61, [some (.ref q), x1, x2, x3, x4], .ref q :: st, a, h) := Rn_go c180_60 rfl
theorem c180_61 : mcode 180 61 = some (.iload_n 1, 1, 0, 0, 0) := rfl
theorem r180_61 : Rn 180 (61, [x0, some (.int i), x2, x3, x4], st, a, h) = Rn 180 (62, [x0, some (.int i), x2, x3, x4], .int i :: st, a, h) := Rn_go c180_61 rfl
theorem c180_62 : mcode 180 62 = some (.iload_n 2, 1, 0, 0, 0) := rfl
theorem r180_62 : Rn 180 (62, [x0, x1, some (.int i), x3, x4], st, a, h) = Rn 180 (63, [x0, x1, some (.int i), x3, x4], .int i :: st, a, h) := Rn_go c180_62 rfl
theorem c180_63 : mcode 180 63 = some (.iload 4, 2, 0, 0, 0) := rfl
theorem r180_63 : Rn 180 (63, [x0, x1, x2, x3, some (.int i)], st, a, h) = Rn 180 (65, [x0, x1, x2, x3, some (.int i)], .int i :: st, a, h) := Rn_go c180_63 rfl
theorem c180_65 : mcode 180 65 = some (.invokevirtual 177, 3, 178, 3, 6) := rfl
theorem r180_65 : Rn 180 (65, [x0, x1, x2, x3, x4], [v2, v1, v0, .ref q], a, h) = if mis h q 6 = true then Bk 180 68 [x0, x1, x2, x3, x4] [] (Ec 178 [.ref q, v0, v1, v2] a h) else none := Rn_call1 c180_65 rfl (Nat.le_of_ble_eq_true rfl) rfl rfl (Nat.le_of_ble_eq_true rfl)
theorem c180_68 : mcode 180 68 = some (.ifCond .eq 8, 3, 0, 0, 0) := rfl
theorem r180_68 : Rn 180 (68, [x0, x1, x2, x3, x4], .int i :: st, a, h) = if i = 0 then Rn 180 (76, [x0, x1, x2, x3, x4], st, a, h) else Rn 180 (71, [x0, x1, x2, x3, x4], st, a, h) := Rn_ifc c180_68 mc_eq rfl rfl
theorem c180_71 : mcode 180 71 = some (.iload 4, 2, 0, 0, 0) := rfl
theorem r180_71 : Rn 180 (71, [x0, x1, x2, x3, some (.int i)], st, a, h) = Rn 180 (73, [x0, x1, x2, x3, some (.int i)], .int i :: st, a, h) := Rn_go c180_71 rfl
theorem c180_73 : mcode 180 73 = some (.goto 4, 3, 0, 0, 0) := rfl
theorem r180_73 : Rn 180 (73, [x0, x1, x2, x3, x4], st, a, h) = Rn 180 (77, [x0, x1, x2, x3, x4], st, a, h) := Rn_goto c180_73 rfl
theorem c180_76 : mcode 180 76 = some (.iload_n 3, 1, 0, 0, 0) := rfl
theorem r180_76 : Rn 180 (76, [x0, x1, x2, some (.int i), x4], st, a, h) = Rn 180 (77, [x0, x1, x2, some (.int i), x4], .int i :: st, a, h) := Rn_go c180_76 rfl
theorem c180_77 : mcode 180 77 = some (.istore_n 3, 1, 0, 0, 0) := rfl
theorem r180_77 : Rn 180 (77, [x0, x1, x2, x3, x4], .int i :: st, a, h) = Nl x2 (Rn 180 (78, [x0, x1, x2, some (.int i), x4], st, a, h)) := Rn_st1 (k := 3) (v := .int i) x2 c180_77 rfl rfl rfl rfl
theorem c180_78 : mcode 180 78 = some (.iinc 4 1, 3, 0, 0, 0) := rfl
theorem r180_78 : Rn 180 (78, [x0, x1, x2, x3, some (.int i)], st, a, h) = Nl x3 (Rn 180 (81, [x0, x1, x2, x3, some (.int (i + (1 : Int32)))], st, a, h)) := Rn_st1 (k := 4) (v := .int (i + (1 : Int32))) x3 c180_78 rfl rfl rfl rfl
theorem c180_81 : mcode 180 81 = some (.goto (-50), 3, 0, 0, 0) := rfl
theorem r180_81 : Rn 180 (81, [x0, x1, x2, x3, x4], st, a, h) = Rn 180 (31, [x0, x1, x2, x3, x4], st, a, h) := Rn_goto c180_81 rfl
theorem c180_84 : mcode 180 84 = some (.aload_n 0, 1, 0, 0, 0) := rfl
theorem r180_84 : Rn 180 (84, [some (.ref q), x1, x2, x3, x4], st, a, h) = Rn 180 (85, [some (.ref q), x1, x2, x3, x4], .ref q :: st, a, h) := Rn_go c180_84 rfl
theorem c180_85 : mcode 180 85 = some (.iload_n 3, 1, 0, 0, 0) := rfl
theorem r180_85 : Rn 180 (85, [x0, x1, x2, some (.int i), x4], st, a, h) = Rn 180 (86, [x0, x1, x2, some (.int i), x4], .int i :: st, a, h) := Rn_go c180_85 rfl
theorem c180_86 : mcode 180 86 = some (.invokevirtual 174, 3, 135, 1, 6) := rfl
theorem r180_86 : Rn 180 (86, [x0, x1, x2, x3, x4], [v0, .ref q], a, h) = if mis h q 6 = true then Bk 180 89 [x0, x1, x2, x3, x4] [] (Ec 135 [.ref q, v0] a h) else none := Rn_call1 c180_86 rfl (Nat.le_of_ble_eq_true rfl) rfl rfl (Nat.le_of_ble_eq_true rfl)
theorem c180_89 : mcode 180 89 = some (.ireturn, 1, 0, 0, 0) := rfl
theorem r180_89 : Rn 180 (89, [x0, x1, x2, x3, x4], [.int i], a, h) = some (some (.int i), a, h) := Rn_ireti c180_89
theorem c181_0 : mcode 181 0 = some (.aload_n 0, 1, 0, 0, 0) := rfl
theorem r181_0 : Rn 181 (0, [some (.ref q), x1, x2, x3, x4, x5], st, a, h) = Rn 181 (1, [some (.ref q), x1, x2, x3, x4, x5], .ref q :: st, a, h) := Rn_go c181_0 rfl
theorem c181_1 : mcode 181 1 = some (.getfield 7, 3, 6, 0, 0) := rfl
theorem r181_1 : Rn 181 (1, [x0, x1, x2, x3, x4, x5], .ref q :: st, a, h) = Kv 181 4 [x0, x1, x2, x3, x4, x5] st a h (mgf h q 6 0) := Rn_getf c181_1 rfl
theorem c181_4 : mcode 181 4 = some (.aload_n 0, 1, 0, 0, 0) := rfl
theorem r181_4 : Rn 181 (4, [some (.ref q), x1, x2, x3, x4, x5], st, a, h) = Rn 181 (5, [some (.ref q), x1, x2, x3, x4, x5], .ref q :: st, a, h) := Rn_go c181_4 rfl
theorem c181_5 : mcode 181 5 = some (.getfield 19, 3, 6, 3, 0) := rfl
theorem r181_5 : Rn 181 (5, [x0, x1, x2, x3, x4, x5], .ref q :: st, a, h) = Kv 181 8 [x0, x1, x2, x3, x4, x5] st a h (mgf h q 6 3) := Rn_getf c181_5 rfl
theorem c181_8 : mcode 181 8 = some (.invokestatic 157, 3, 126, 2, 0) := rfl
theorem r181_8 : Rn 181 (8, [x0, x1, x2, x3, x4, x5], [v1, v0], a, h) = Bk 181 11 [x0, x1, x2, x3, x4, x5] [] (Ec 126 [v0, v1] a h) := Rn_call0 c181_8 (fun z => nomatch z) rfl (Nat.le_of_ble_eq_true rfl) rfl rfl (Nat.le_of_ble_eq_true rfl)
theorem c181_11 : mcode 181 11 = some (.iconst 1, 1, 0, 0, 0) := rfl
theorem r181_11 : Rn 181 (11, [x0, x1, x2, x3, x4, x5], st, a, h) = Rn 181 (12, [x0, x1, x2, x3, x4, x5], .int (1 : Int32) :: st, a, h) := Rn_go c181_11 rfl
theorem c181_12 : mcode 181 12 = some (.istore_n 3, 1, 0, 0, 0) := rfl
theorem r181_12 : Rn 181 (12, [x0, x1, x2, x3, x4, x5], .int i :: st, a, h) = Nl x2 (Rn 181 (13, [x0, x1, x2, some (.int i), x4, x5], st, a, h)) := Rn_st1 (k := 3) (v := .int i) x2 c181_12 rfl rfl rfl rfl
theorem c181_13 : mcode 181 13 = some (.iconst 0, 1, 0, 0, 0) := rfl
theorem r181_13 : Rn 181 (13, [x0, x1, x2, x3, x4, x5], st, a, h) = Rn 181 (14, [x0, x1, x2, x3, x4, x5], .int (0 : Int32) :: st, a, h) := Rn_go c181_13 rfl
theorem c181_14 : mcode 181 14 = some (.istore 4, 2, 0, 0, 0) := rfl
theorem r181_14 : Rn 181 (14, [x0, x1, x2, x3, x4, x5], .int i :: st, a, h) = Nl x3 (Rn 181 (16, [x0, x1, x2, x3, some (.int i), x5], st, a, h)) := Rn_st1 (k := 4) (v := .int i) x3 c181_14 rfl rfl rfl rfl
theorem c181_16 : mcode 181 16 = some (.iload 4, 2, 0, 0, 0) := rfl
theorem r181_16 : Rn 181 (16, [x0, x1, x2, x3, some (.int i), x5], st, a, h) = Rn 181 (18, [x0, x1, x2, x3, some (.int i), x5], .int i :: st, a, h) := Rn_go c181_16 rfl
theorem c181_18 : mcode 181 18 = some (.aload_n 0, 1, 0, 0, 0) := rfl
theorem r181_18 : Rn 181 (18, [some (.ref q), x1, x2, x3, x4, x5], st, a, h) = Rn 181 (19, [some (.ref q), x1, x2, x3, x4, x5], .ref q :: st, a, h) := Rn_go c181_18 rfl
theorem c181_19 : mcode 181 19 = some (.getfield 31, 3, 6, 9, 0) := rfl
theorem r181_19 : Rn 181 (19, [x0, x1, x2, x3, x4, x5], .ref q :: st, a, h) = Kv 181 22 [x0, x1, x2, x3, x4, x5] st a h (mgf h q 6 9) := Rn_getf c181_19 rfl
theorem c181_22 : mcode 181 22 = some (.iload_n 1, 1, 0, 0, 0) := rfl
theorem r181_22 : Rn 181 (22, [x0, some (.int i), x2, x3, x4, x5], st, a, h) = Rn 181 (23, [x0, some (.int i), x2, x3, x4, x5], .int i :: st, a, h) := Rn_go c181_22 rfl
theorem c181_23 : mcode 181 23 = some (.iaload, 1, 0, 0, 0) := rfl
theorem r181_23 : Rn 181 (23, [x0, x1, x2, x3, x4, x5], .int i :: .ref q :: st, a, h) = Ki 181 24 [x0, x1, x2, x3, x4, x5] st a h (mld h q i false) := Rn_iald c181_23 rfl
theorem c181_24 : mcode 181 24 = some (.if_icmp .ge 55, 3, 0, 0, 0) := rfl
theorem r181_24 : Rn 181 (24, [x0, x1, x2, x3, x4, x5], .int j :: .int i :: st, a, h) = if i < j then Rn 181 (27, [x0, x1, x2, x3, x4, x5], st, a, h) else Rn 181 (79, [x0, x1, x2, x3, x4, x5], st, a, h) := Rn_icmpn c181_24 mc_ge rfl rfl
theorem c181_27 : mcode 181 27 = some (.iload_n 3, 1, 0, 0, 0) := rfl
theorem r181_27 : Rn 181 (27, [x0, x1, x2, some (.int i), x4, x5], st, a, h) = Rn 181 (28, [x0, x1, x2, some (.int i), x4, x5], .int i :: st, a, h) := Rn_go c181_27 rfl
theorem c181_28 : mcode 181 28 = some (.ifCond .eq 51, 3, 0, 0, 0) := rfl
theorem r181_28 : Rn 181 (28, [x0, x1, x2, x3, x4, x5], .int i :: st, a, h) = if i = 0 then Rn 181 (79, [x0, x1, x2, x3, x4, x5], st, a, h) else Rn 181 (31, [x0, x1, x2, x3, x4, x5], st, a, h) := Rn_ifc c181_28 mc_eq rfl rfl
theorem c181_31 : mcode 181 31 = some (.aload_n 0, 1, 0, 0, 0) := rfl
theorem r181_31 : Rn 181 (31, [some (.ref q), x1, x2, x3, x4, x5], st, a, h) = Rn 181 (32, [some (.ref q), x1, x2, x3, x4, x5], .ref q :: st, a, h) := Rn_go c181_31 rfl
theorem c181_32 : mcode 181 32 = some (.getfield 34, 3, 6, 10, 0) := rfl
theorem r181_32 : Rn 181 (32, [x0, x1, x2, x3, x4, x5], .ref q :: st, a, h) = Kv 181 35 [x0, x1, x2, x3, x4, x5] st a h (mgf h q 6 10) := Rn_getf c181_32 rfl
theorem c181_35 : mcode 181 35 = some (.bipush 40, 2, 0, 0, 0) := rfl
theorem r181_35 : Rn 181 (35, [x0, x1, x2, x3, x4, x5], st, a, h) = Rn 181 (37, [x0, x1, x2, x3, x4, x5], .int (40 : Int32) :: st, a, h) := Rn_go c181_35 rfl
theorem c181_37 : mcode 181 37 = some (.iload_n 1, 1, 0, 0, 0) := rfl
theorem r181_37 : Rn 181 (37, [x0, some (.int i), x2, x3, x4, x5], st, a, h) = Rn 181 (38, [x0, some (.int i), x2, x3, x4, x5], .int i :: st, a, h) := Rn_go c181_37 rfl
theorem c181_38 : mcode 181 38 = some (.imul, 1, 0, 0, 0) := rfl
theorem r181_38 : Rn 181 (38, [x0, x1, x2, x3, x4, x5], .int j :: .int i :: st, a, h) = Rn 181 (39, [x0, x1, x2, x3, x4, x5], .int (i * j) :: st, a, h) := Rn_go c181_38 rfl
theorem c181_39 : mcode 181 39 = some (.iload 4, 2, 0, 0, 0) := rfl
theorem r181_39 : Rn 181 (39, [x0, x1, x2, x3, some (.int i), x5], st, a, h) = Rn 181 (41, [x0, x1, x2, x3, some (.int i), x5], .int i :: st, a, h) := Rn_go c181_39 rfl
theorem c181_41 : mcode 181 41 = some (.iadd, 1, 0, 0, 0) := rfl
theorem r181_41 : Rn 181 (41, [x0, x1, x2, x3, x4, x5], .int j :: .int i :: st, a, h) = Rn 181 (42, [x0, x1, x2, x3, x4, x5], .int (i + j) :: st, a, h) := Rn_go c181_41 rfl
theorem c181_42 : mcode 181 42 = some (.iaload, 1, 0, 0, 0) := rfl
theorem r181_42 : Rn 181 (42, [x0, x1, x2, x3, x4, x5], .int i :: .ref q :: st, a, h) = Ki 181 43 [x0, x1, x2, x3, x4, x5] st a h (mld h q i false) := Rn_iald c181_42 rfl
theorem c181_43 : mcode 181 43 = some (.istore 5, 2, 0, 0, 0) := rfl
theorem r181_43 : Rn 181 (43, [x0, x1, x2, x3, x4, x5], .int i :: st, a, h) = Nl x4 (Rn 181 (45, [x0, x1, x2, x3, x4, some (.int i)], st, a, h)) := Rn_st1 (k := 5) (v := .int i) x4 c181_43 rfl rfl rfl rfl
theorem c181_45 : mcode 181 45 = some (.iload 5, 2, 0, 0, 0) := rfl
theorem r181_45 : Rn 181 (45, [x0, x1, x2, x3, x4, some (.int i)], st, a, h) = Rn 181 (47, [x0, x1, x2, x3, x4, some (.int i)], .int i :: st, a, h) := Rn_go c181_45 rfl
theorem c181_47 : mcode 181 47 = some (.iconst (-1), 1, 0, 0, 0) := rfl
theorem r181_47 : Rn 181 (47, [x0, x1, x2, x3, x4, x5], st, a, h) = Rn 181 (48, [x0, x1, x2, x3, x4, x5], .int (-1 : Int32) :: st, a, h) := Rn_go c181_47 rfl
theorem c181_48 : mcode 181 48 = some (.if_icmp .eq 14, 3, 0, 0, 0) := rfl
theorem r181_48 : Rn 181 (48, [x0, x1, x2, x3, x4, x5], .int j :: .int i :: st, a, h) = if i = j then Rn 181 (62, [x0, x1, x2, x3, x4, x5], st, a, h) else Rn 181 (51, [x0, x1, x2, x3, x4, x5], st, a, h) := Rn_icmp c181_48 mc_eq rfl rfl
theorem c181_51 : mcode 181 51 = some (.iload 5, 2, 0, 0, 0) := rfl
theorem r181_51 : Rn 181 (51, [x0, x1, x2, x3, x4, some (.int i)], st, a, h) = Rn 181 (53, [x0, x1, x2, x3, x4, some (.int i)], .int i :: st, a, h) := Rn_go c181_51 rfl
theorem c181_53 : mcode 181 53 = some (.aload_n 0, 1, 0, 0, 0) := rfl
theorem r181_53 : Rn 181 (53, [some (.ref q), x1, x2, x3, x4, x5], st, a, h) = Rn 181 (54, [some (.ref q), x1, x2, x3, x4, x5], .ref q :: st, a, h) := Rn_go c181_53 rfl
theorem c181_54 : mcode 181 54 = some (.getfield 7, 3, 6, 0, 0) := rfl
theorem r181_54 : Rn 181 (54, [x0, x1, x2, x3, x4, x5], .ref q :: st, a, h) = Kv 181 57 [x0, x1, x2, x3, x4, x5] st a h (mgf h q 6 0) := Rn_getf c181_54 rfl
theorem c181_57 : mcode 181 57 = some (.iload_n 2, 1, 0, 0, 0) := rfl
theorem r181_57 : Rn 181 (57, [x0, x1, some (.int i), x3, x4, x5], st, a, h) = Rn 181 (58, [x0, x1, some (.int i), x3, x4, x5], .int i :: st, a, h) := Rn_go c181_57 rfl
theorem c181_58 : mcode 181 58 = some (.iaload, 1, 0, 0, 0) := rfl
theorem r181_58 : Rn 181 (58, [x0, x1, x2, x3, x4, x5], .int i :: .ref q :: st, a, h) = Ki 181 59 [x0, x1, x2, x3, x4, x5] st a h (mld h q i false) := Rn_iald c181_58 rfl
theorem c181_59 : mcode 181 59 = some (.if_icmp .ne 7, 3, 0, 0, 0) := rfl
theorem r181_59 : Rn 181 (59, [x0, x1, x2, x3, x4, x5], .int j :: .int i :: st, a, h) = if i = j then Rn 181 (62, [x0, x1, x2, x3, x4, x5], st, a, h) else Rn 181 (66, [x0, x1, x2, x3, x4, x5], st, a, h) := Rn_icmpn c181_59 mc_ne rfl rfl
theorem c181_62 : mcode 181 62 = some (.iconst 1, 1, 0, 0, 0) := rfl
theorem r181_62 : Rn 181 (62, [x0, x1, x2, x3, x4, x5], st, a, h) = Rn 181 (63, [x0, x1, x2, x3, x4, x5], .int (1 : Int32) :: st, a, h) := Rn_go c181_62 rfl
theorem c181_63 : mcode 181 63 = some (.goto 4, 3, 0, 0, 0) := rfl
theorem r181_63 : Rn 181 (63, [x0, x1, x2, x3, x4, x5], st, a, h) = Rn 181 (67, [x0, x1, x2, x3, x4, x5], st, a, h) := Rn_goto c181_63 rfl
theorem c181_66 : mcode 181 66 = some (.iconst 0, 1, 0, 0, 0) := rfl
theorem r181_66 : Rn 181 (66, [x0, x1, x2, x3, x4, x5], st, a, h) = Rn 181 (67, [x0, x1, x2, x3, x4, x5], .int (0 : Int32) :: st, a, h) := Rn_go c181_66 rfl
theorem c181_67 : mcode 181 67 = some (.istore_n 3, 1, 0, 0, 0) := rfl
theorem r181_67 : Rn 181 (67, [x0, x1, x2, x3, x4, x5], .int i :: st, a, h) = Nl x2 (Rn 181 (68, [x0, x1, x2, some (.int i), x4, x5], st, a, h)) := Rn_st1 (k := 3) (v := .int i) x2 c181_67 rfl rfl rfl rfl
theorem c181_68 : mcode 181 68 = some (.aload_n 0, 1, 0, 0, 0) := rfl
theorem r181_68 : Rn 181 (68, [some (.ref q), x1, x2, x3, x4, x5], st, a, h) = Rn 181 (69, [some (.ref q), x1, x2, x3, x4, x5], .ref q :: st, a, h) := Rn_go c181_68 rfl
theorem c181_69 : mcode 181 69 = some (.iconst 0, 1, 0, 0, 0) := rfl
theorem r181_69 : Rn 181 (69, [x0, x1, x2, x3, x4, x5], st, a, h) = Rn 181 (70, [x0, x1, x2, x3, x4, x5], .int (0 : Int32) :: st, a, h) := Rn_go c181_69 rfl
theorem c181_70 : mcode 181 70 = some (.invokevirtual 131, 3, 157, 1, 6) := rfl
theorem r181_70 : Rn 181 (70, [x0, x1, x2, x3, x4, x5], [v0, .ref q], a, h) = if mis h q 6 = true then Bk 181 73 [x0, x1, x2, x3, x4, x5] [] (Ec 157 [.ref q, v0] a h) else none := Rn_call1 c181_70 rfl (Nat.le_of_ble_eq_true rfl) rfl rfl (Nat.le_of_ble_eq_true rfl)
theorem c181_73 : mcode 181 73 = some (.iinc 4 1, 3, 0, 0, 0) := rfl
theorem r181_73 : Rn 181 (73, [x0, x1, x2, x3, some (.int i), x5], st, a, h) = Nl x3 (Rn 181 (76, [x0, x1, x2, x3, some (.int (i + (1 : Int32))), x5], st, a, h)) := Rn_st1 (k := 4) (v := .int (i + (1 : Int32))) x3 c181_73 rfl rfl rfl rfl
theorem c181_76 : mcode 181 76 = some (.goto (-60), 3, 0, 0, 0) := rfl
theorem r181_76 : Rn 181 (76, [x0, x1, x2, x3, x4, x5], st, a, h) = Rn 181 (16, [x0, x1, x2, x3, x4, x5], st, a, h) := Rn_goto c181_76 rfl
theorem c181_79 : mcode 181 79 = some (.aload_n 0, 1, 0, 0, 0) := rfl
theorem r181_79 : Rn 181 (79, [some (.ref q), x1, x2, x3, x4, x5], st, a, h) = Rn 181 (80, [some (.ref q), x1, x2, x3, x4, x5], .ref q :: st, a, h) := Rn_go c181_79 rfl
theorem c181_80 : mcode 181 80 = some (.getfield 19, 3, 6, 3, 0) := rfl
theorem r181_80 : Rn 181 (80, [x0, x1, x2, x3, x4, x5], .ref q :: st, a, h) = Kv 181 83 [x0, x1, x2, x3, x4, x5] st a h (mgf h q 6 3) := Rn_getf c181_80 rfl
theorem c181_83 : mcode 181 83 = some (.aload_n 0, 1, 0, 0, 0) := rfl
theorem r181_83 : Rn 181 (83, [some (.ref q), x1, x2, x3, x4, x5], st, a, h) = Rn 181 (84, [some (.ref q), x1, x2, x3, x4, x5], .ref q :: st, a, h) := Rn_go c181_83 rfl
theorem c181_84 : mcode 181 84 = some (.getfield 7, 3, 6, 0, 0) := rfl
theorem r181_84 : Rn 181 (84, [x0, x1, x2, x3, x4, x5], .ref q :: st, a, h) = Kv 181 87 [x0, x1, x2, x3, x4, x5] st a h (mgf h q 6 0) := Rn_getf c181_84 rfl
theorem c181_87 : mcode 181 87 = some (.invokestatic 157, 3, 126, 2, 0) := rfl
theorem r181_87 : Rn 181 (87, [x0, x1, x2, x3, x4, x5], [v1, v0], a, h) = Bk 181 90 [x0, x1, x2, x3, x4, x5] [] (Ec 126 [v0, v1] a h) := Rn_call0 c181_87 (fun z => nomatch z) rfl (Nat.le_of_ble_eq_true rfl) rfl rfl (Nat.le_of_ble_eq_true rfl)
theorem c181_90 : mcode 181 90 = some (.iload_n 3, 1, 0, 0, 0) := rfl
theorem r181_90 : Rn 181 (90, [x0, x1, x2, some (.int i), x4, x5], st, a, h) = Rn 181 (91, [x0, x1, x2, some (.int i), x4, x5], .int i :: st, a, h) := Rn_go c181_90 rfl
theorem c181_91 : mcode 181 91 = some (.ireturn, 1, 1, 0, 0) := rfl
theorem r181_91 : Rn 181 (91, [x0, x1, x2, x3, x4, x5], [.int i], a, h) = if mrt 1 i = true then some (some (.int i), a, h) else none := Rn_iretz c181_91
theorem c182_0 : mcode 182 0 = some (.aload_n 0, 1, 0, 0, 0) := rfl
theorem r182_0 : Rn 182 (0, [some (.ref q), x1, x2, x3, x4, x5, x6], st, a, h) = Rn 182 (1, [some (.ref q), x1, x2, x3, x4, x5, x6], .ref q :: st, a, h) := Rn_go c182_0 rfl
theorem c182_1 : mcode 182 1 = some (.iload_n 2, 1, 0, 0, 0) := rfl
theorem r182_1 : Rn 182 (1, [x0, x1, some (.int i), x3, x4, x5, x6], st, a, h) = Rn 182 (2, [x0, x1, some (.int i), x3, x4, x5, x6], .int i :: st, a, h) := Rn_go c182_1 rfl
theorem c182_2 : mcode 182 2 = some (.iconst 3, 1, 0, 0, 0) := rfl
theorem r182_2 : Rn 182 (2, [x0, x1, x2, x3, x4, x5, x6], st, a, h) = Rn 182 (3, [x0, x1, x2, x3, x4, x5, x6], .int (3 : Int32) :: st, a, h) := Rn_go c182_2 rfl
theorem c182_3 : mcode 182 3 = some (.invokevirtual 63, 3, 131, 2, 6) := rfl
theorem r182_3 : Rn 182 (3, [x0, x1, x2, x3, x4, x5, x6], [v1, v0, .ref q], a, h) = if mis h q 6 = true then Bk 182 6 [x0, x1, x2, x3, x4, x5, x6] [] (Ec 131 [.ref q, v0, v1] a h) else none := Rn_call1 c182_3 rfl (Nat.le_of_ble_eq_true rfl) rfl rfl (Nat.le_of_ble_eq_true rfl)
theorem c182_6 : mcode 182 6 = some (.istore 4, 2, 0, 0, 0) := rfl
theorem r182_6 : Rn 182 (6, [x0, x1, x2, x3, x4, x5, x6], .int i :: st, a, h) = Nl x3 (Rn 182 (8, [x0, x1, x2, x3, some (.int i), x5, x6], st, a, h)) := Rn_st1 (k := 4) (v := .int i) x3 c182_6 rfl rfl rfl rfl
theorem c182_8 : mcode 182 8 = some (.iconst 4, 1, 0, 0, 0) := rfl
theorem r182_8 : Rn 182 (8, [x0, x1, x2, x3, x4, x5, x6], st, a, h) = Rn 182 (9, [x0, x1, x2, x3, x4, x5, x6], .int (4 : Int32) :: st, a, h) := Rn_go c182_8 rfl
theorem c182_9 : mcode 182 9 = some (.iconst 3, 1, 0, 0, 0) := rfl
theorem r182_9 : Rn 182 (9, [x0, x1, x2, x3, x4, x5, x6], st, a, h) = Rn 182 (10, [x0, x1, x2, x3, x4, x5, x6], .int (3 : Int32) :: st, a, h) := Rn_go c182_9 rfl
theorem c182_10 : mcode 182 10 = some (.aload_n 0, 1, 0, 0, 0) := rfl
theorem r182_10 : Rn 182 (10, [some (.ref q), x1, x2, x3, x4, x5, x6], st, a, h) = Rn 182 (11, [some (.ref q), x1, x2, x3, x4, x5, x6], .ref q :: st, a, h) := Rn_go c182_10 rfl
theorem c182_11 : mcode 182 11 = some (.iload_n 2, 1, 0, 0, 0) := rfl
theorem r182_11 : Rn 182 (11, [x0, x1, some (.int i), x3, x4, x5, x6], st, a, h) = Rn 182 (12, [x0, x1, some (.int i), x3, x4, x5, x6], .int i :: st, a, h) := Rn_go c182_11 rfl
theorem c182_12 : mcode 182 12 = some (.iconst 1, 1, 0, 0, 0) := rfl
theorem r182_12 : Rn 182 (12, [x0, x1, x2, x3, x4, x5, x6], st, a, h) = Rn 182 (13, [x0, x1, x2, x3, x4, x5, x6], .int (1 : Int32) :: st, a, h) := Rn_go c182_12 rfl
theorem c182_13 : mcode 182 13 = some (.invokevirtual 63, 3, 131, 2, 6) := rfl
theorem r182_13 : Rn 182 (13, [x0, x1, x2, x3, x4, x5, x6], [v1, v0, .ref q, .int i0, .int i1], a, h) = if mis h q 6 = true then Bk 182 16 [x0, x1, x2, x3, x4, x5, x6] [.int i0, .int i1] (Ec 131 [.ref q, v0, v1] a h) else none := Rn_call1 c182_13 rfl (Nat.le_of_ble_eq_true rfl) rfl rfl (Nat.le_of_ble_eq_true rfl)
theorem c182_16 : mcode 182 16 = some (.imul, 1, 0, 0, 0) := rfl
theorem r182_16 : Rn 182 (16, [x0, x1, x2, x3, x4, x5, x6], .int j :: .int i :: st, a, h) = Rn 182 (17, [x0, x1, x2, x3, x4, x5, x6], .int (i * j) :: st, a, h) := Rn_go c182_16 rfl
theorem c182_17 : mcode 182 17 = some (.iadd, 1, 0, 0, 0) := rfl
theorem r182_17 : Rn 182 (17, [x0, x1, x2, x3, x4, x5, x6], .int j :: .int i :: st, a, h) = Rn 182 (18, [x0, x1, x2, x3, x4, x5, x6], .int (i + j) :: st, a, h) := Rn_go c182_17 rfl
theorem c182_18 : mcode 182 18 = some (.iload_n 3, 1, 0, 0, 0) := rfl
theorem r182_18 : Rn 182 (18, [x0, x1, x2, some (.int i), x4, x5, x6], st, a, h) = Rn 182 (19, [x0, x1, x2, some (.int i), x4, x5, x6], .int i :: st, a, h) := Rn_go c182_18 rfl
theorem c182_19 : mcode 182 19 = some (.iadd, 1, 0, 0, 0) := rfl
theorem r182_19 : Rn 182 (19, [x0, x1, x2, x3, x4, x5, x6], .int j :: .int i :: st, a, h) = Rn 182 (20, [x0, x1, x2, x3, x4, x5, x6], .int (i + j) :: st, a, h) := Rn_go c182_19 rfl
theorem c182_20 : mcode 182 20 = some (.istore 5, 2, 0, 0, 0) := rfl
theorem r182_20 : Rn 182 (20, [x0, x1, x2, x3, x4, x5, x6], .int i :: st, a, h) = Nl x4 (Rn 182 (22, [x0, x1, x2, x3, x4, some (.int i), x6], st, a, h)) := Rn_st1 (k := 5) (v := .int i) x4 c182_20 rfl rfl rfl rfl
theorem c182_22 : mcode 182 22 = some (.aload_n 0, 1, 0, 0, 0) := rfl
theorem r182_22 : Rn 182 (22, [some (.ref q), x1, x2, x3, x4, x5, x6], st, a, h) = Rn 182 (23, [some (.ref q), x1, x2, x3, x4, x5, x6], .ref q :: st, a, h) := Rn_go c182_22 rfl
theorem c182_23 : mcode 182 23 = some (.iconst 0, 1, 0, 0, 0) := rfl
theorem r182_23 : Rn 182 (23, [x0, x1, x2, x3, x4, x5, x6], st, a, h) = Rn 182 (24, [x0, x1, x2, x3, x4, x5, x6], .int (0 : Int32) :: st, a, h) := Rn_go c182_23 rfl
theorem c182_24 : mcode 182 24 = some (.putfield 183, 3, 6, 11, 0) := rfl
theorem r182_24 : Rn 182 (24, [x0, x1, x2, x3, x4, x5, x6], .int i :: .ref q :: st, a, h) = Kh 182 27 [x0, x1, x2, x3, x4, x5, x6] st a (mpf h q 6 11 (.int i)) := Rn_putfi c182_24 rfl rfl
theorem c182_27 : mcode 182 27 = some (.sipush 200, 3, 0, 0, 0) := rfl
theorem r182_27 : Rn 182 (27, [x0, x1, x2, x3, x4, x5, x6], st, a, h) = Rn 182 (30, [x0, x1, x2, x3, x4, x5, x6], .int (200 : Int32) :: st, a, h) := Rn_go c182_27 rfl
theorem c182_30 : mcode 182 30 = some (.istore 6, 2, 0, 0, 0) := rfl
theorem r182_30 : Rn 182 (30, [x0, x1, x2, x3, x4, x5, x6], .int i :: st, a, h) = Nl x5 (Rn 182 (32, [x0, x1, x2, x3, x4, x5, some (.int i)], st, a, h)) := Rn_st1 (k := 6) (v := .int i) x5 c182_30 rfl rfl rfl rfl
theorem c182_32 : mcode 182 32 = some (.iload 6, 2, 0, 0, 0) := rfl
theorem r182_32 : Rn 182 (32, [x0, x1, x2, x3, x4, x5, some (.int i)], st, a, h) = Rn 182 (34, [x0, x1, x2, x3, x4, x5, some (.int i)], .int i :: st, a, h) := Rn_go c182_32 rfl
theorem c182_34 : mcode 182 34 = some (.ifCond .lt 47, 3, 0, 0, 0) := rfl
theorem r182_34 : Rn 182 (34, [x0, x1, x2, x3, x4, x5, x6], .int i :: st, a, h) = if i < 0 then Rn 182 (81, [x0, x1, x2, x3, x4, x5, x6], st, a, h) else Rn 182 (37, [x0, x1, x2, x3, x4, x5, x6], st, a, h) := Rn_ifc c182_34 mc_lt rfl rfl
theorem c182_37 : mcode 182 37 = some (.aload_n 0, 1, 0, 0, 0) := rfl
theorem r182_37 : Rn 182 (37, [some (.ref q), x1, x2, x3, x4, x5, x6], st, a, h) = Rn 182 (38, [some (.ref q), x1, x2, x3, x4, x5, x6], .ref q :: st, a, h) := Rn_go c182_37 rfl
theorem c182_38 : mcode 182 38 = some (.getfield 7, 3, 6, 0, 0) := rfl
theorem r182_38 : Rn 182 (38, [x0, x1, x2, x3, x4, x5, x6], .ref q :: st, a, h) = Kv 182 41 [x0, x1, x2, x3, x4, x5, x6] st a h (mgf h q 6 0) := Rn_getf c182_38 rfl
theorem c182_41 : mcode 182 41 = some (.iload_n 2, 1, 0, 0, 0) := rfl
theorem r182_41 : Rn 182 (41, [x0, x1, some (.int i), x3, x4, x5, x6], st, a, h) = Rn 182 (42, [x0, x1, some (.int i), x3, x4, x5, x6], .int i :: st, a, h) := Rn_go c182_41 rfl
theorem c182_42 : mcode 182 42 = some (.iconst 3, 1, 0, 0, 0) := rfl
theorem r182_42 : Rn 182 (42, [x0, x1, x2, x3, x4, x5, x6], st, a, h) = Rn 182 (43, [x0, x1, x2, x3, x4, x5, x6], .int (3 : Int32) :: st, a, h) := Rn_go c182_42 rfl
theorem c182_43 : mcode 182 43 = some (.invokestatic 79, 3, 130, 2, 0) := rfl
theorem r182_43 : Rn 182 (43, [x0, x1, x2, x3, x4, x5, x6], [v1, v0, .ref q0], a, h) = Bk 182 46 [x0, x1, x2, x3, x4, x5, x6] [.ref q0] (Ec 130 [v0, v1] a h) := Rn_call0 c182_43 (fun z => nomatch z) rfl (Nat.le_of_ble_eq_true rfl) rfl rfl (Nat.le_of_ble_eq_true rfl)
theorem c182_46 : mcode 182 46 = some (.iload 6, 2, 0, 0, 0) := rfl
theorem r182_46 : Rn 182 (46, [x0, x1, x2, x3, x4, x5, some (.int i)], st, a, h) = Rn 182 (48, [x0, x1, x2, x3, x4, x5, some (.int i)], .int i :: st, a, h) := Rn_go c182_46 rfl
theorem c182_48 : mcode 182 48 = some (.iastore, 1, 0, 0, 0) := rfl
theorem r182_48 : Rn 182 (48, [x0, x1, x2, x3, x4, x5, x6], .int j :: .int i :: .ref q :: st, a, h) = Kh 182 49 [x0, x1, x2, x3, x4, x5, x6] st a (mias h q i j) := Rn_iast c182_48 rfl
theorem c182_49 : mcode 182 49 = some (.aload_n 0, 1, 0, 0, 0) := rfl
theorem r182_49 : Rn 182 (49, [some (.ref q), x1, x2, x3, x4, x5, x6], st, a, h) = Rn 182 (50, [some (.ref q), x1, x2, x3, x4, x5, x6], .ref q :: st, a, h) := Rn_go c182_49 rfl
theorem c182_50 : mcode 182 50 = some (.iload_n 1, 1, 0, 0, 0) := rfl
theorem r182_50 : Rn 182 (50, [x0, some (.int i), x2, x3, x4, x5, x6], st, a, h) = Rn 182 (51, [x0, some (.int i), x2, x3, x4, x5, x6], .int i :: st, a, h) := Rn_go c182_50 rfl
theorem c182_51 : mcode 182 51 = some (.iload 5, 2, 0, 0, 0) := rfl
theorem r182_51 : Rn 182 (51, [x0, x1, x2, x3, x4, some (.int i), x6], st, a, h) = Rn 182 (53, [x0, x1, x2, x3, x4, some (.int i), x6], .int i :: st, a, h) := Rn_go c182_51 rfl
theorem c182_53 : mcode 182 53 = some (.invokevirtual 187, 3, 181, 2, 6) := rfl
theorem r182_53 : Rn 182 (53, [x0, x1, x2, x3, x4, x5, x6], [v1, v0, .ref q], a, h) = if mis h q 6 = true then Bk 182 56 [x0, x1, x2, x3, x4, x5, x6] [] (Ec 181 [.ref q, v0, v1] a h) else none := Rn_call1 c182_53 rfl (Nat.le_of_ble_eq_true rfl) rfl rfl (Nat.le_of_ble_eq_true rfl)
theorem c182_56 : mcode 182 56 = some (.ifCond .eq 19, 3, 0, 0, 0) := rfl
theorem r182_56 : Rn 182 (56, [x0, x1, x2, x3, x4, x5, x6], .int i :: st, a, h) = if i = 0 then Rn 182 (75, [x0, x1, x2, x3, x4, x5, x6], st, a, h) else Rn 182 (59, [x0, x1, x2, x3, x4, x5, x6], st, a, h) := Rn_ifc c182_56 mc_eq rfl rfl
theorem c182_59 : mcode 182 59 = some (.aload_n 0, 1, 0, 0, 0) := rfl
theorem r182_59 : Rn 182 (59, [some (.ref q), x1, x2, x3, x4, x5, x6], st, a, h) = Rn 182 (60, [some (.ref q), x1, x2, x3, x4, x5, x6], .ref q :: st, a, h) := Rn_go c182_59 rfl
theorem c182_60 : mcode 182 60 = some (.dup, 1, 0, 0, 0) := rfl
theorem r182_60 : Rn 182 (60, [x0, x1, x2, x3, x4, x5, x6], .ref q :: st, a, h) = Rn 182 (61, [x0, x1, x2, x3, x4, x5, x6], .ref q :: .ref q :: st, a, h) := Rn_go c182_60 rfl
theorem c182_61 : mcode 182 61 = some (.getfield 183, 3, 6, 11, 0) := rfl
theorem r182_61 : Rn 182 (61, [x0, x1, x2, x3, x4, x5, x6], .ref q :: st, a, h) = Kv 182 64 [x0, x1, x2, x3, x4, x5, x6] st a h (mgf h q 6 11) := Rn_getf c182_61 rfl
theorem c182_64 : mcode 182 64 = some (.iconst 1, 1, 0, 0, 0) := rfl
theorem r182_64 : Rn 182 (64, [x0, x1, x2, x3, x4, x5, x6], st, a, h) = Rn 182 (65, [x0, x1, x2, x3, x4, x5, x6], .int (1 : Int32) :: st, a, h) := Rn_go c182_64 rfl
theorem c182_65 : mcode 182 65 = some (.iadd, 1, 0, 0, 0) := rfl
theorem r182_65 : Rn 182 (65, [x0, x1, x2, x3, x4, x5, x6], .int j :: .int i :: st, a, h) = Rn 182 (66, [x0, x1, x2, x3, x4, x5, x6], .int (i + j) :: st, a, h) := Rn_go c182_65 rfl
theorem c182_66 : mcode 182 66 = some (.putfield 183, 3, 6, 11, 0) := rfl
theorem r182_66 : Rn 182 (66, [x0, x1, x2, x3, x4, x5, x6], .int i :: .ref q :: st, a, h) = Kh 182 69 [x0, x1, x2, x3, x4, x5, x6] st a (mpf h q 6 11 (.int i)) := Rn_putfi c182_66 rfl rfl
theorem c182_69 : mcode 182 69 = some (.aload_n 0, 1, 0, 0, 0) := rfl
theorem r182_69 : Rn 182 (69, [some (.ref q), x1, x2, x3, x4, x5, x6], st, a, h) = Rn 182 (70, [some (.ref q), x1, x2, x3, x4, x5, x6], .ref q :: st, a, h) := Rn_go c182_69 rfl
theorem c182_70 : mcode 182 70 = some (.iload 6, 2, 0, 0, 0) := rfl
theorem r182_70 : Rn 182 (70, [x0, x1, x2, x3, x4, x5, some (.int i)], st, a, h) = Rn 182 (72, [x0, x1, x2, x3, x4, x5, some (.int i)], .int i :: st, a, h) := Rn_go c182_70 rfl
theorem c182_72 : mcode 182 72 = some (.putfield 191, 3, 6, 12, 0) := rfl
theorem r182_72 : Rn 182 (72, [x0, x1, x2, x3, x4, x5, x6], .int i :: .ref q :: st, a, h) = Kh 182 75 [x0, x1, x2, x3, x4, x5, x6] st a (mpf h q 6 12 (.int i)) := Rn_putfi c182_72 rfl rfl
theorem c182_75 : mcode 182 75 = some (.iinc 6 (-1), 3, 0, 0, 0) := rfl
theorem r182_75 : Rn 182 (75, [x0, x1, x2, x3, x4, x5, some (.int i)], st, a, h) = Nl x5 (Rn 182 (78, [x0, x1, x2, x3, x4, x5, some (.int (i + (-1 : Int32)))], st, a, h)) := Rn_st1 (k := 6) (v := .int (i + (-1 : Int32))) x5 c182_75 rfl rfl rfl rfl
theorem c182_78 : mcode 182 78 = some (.goto (-46), 3, 0, 0, 0) := rfl
theorem r182_78 : Rn 182 (78, [x0, x1, x2, x3, x4, x5, x6], st, a, h) = Rn 182 (32, [x0, x1, x2, x3, x4, x5, x6], st, a, h) := Rn_goto c182_78 rfl
theorem c182_81 : mcode 182 81 = some (.aload_n 0, 1, 0, 0, 0) := rfl
theorem r182_81 : Rn 182 (81, [some (.ref q), x1, x2, x3, x4, x5, x6], st, a, h) = Rn 182 (82, [some (.ref q), x1, x2, x3, x4, x5, x6], .ref q :: st, a, h) := Rn_go c182_81 rfl
theorem c182_82 : mcode 182 82 = some (.getfield 7, 3, 6, 0, 0) := rfl
theorem r182_82 : Rn 182 (82, [x0, x1, x2, x3, x4, x5, x6], .ref q :: st, a, h) = Kv 182 85 [x0, x1, x2, x3, x4, x5, x6] st a h (mgf h q 6 0) := Rn_getf c182_82 rfl
theorem c182_85 : mcode 182 85 = some (.iload_n 2, 1, 0, 0, 0) := rfl
theorem r182_85 : Rn 182 (85, [x0, x1, some (.int i), x3, x4, x5, x6], st, a, h) = Rn 182 (86, [x0, x1, some (.int i), x3, x4, x5, x6], .int i :: st, a, h) := Rn_go c182_85 rfl
theorem c182_86 : mcode 182 86 = some (.iconst 3, 1, 0, 0, 0) := rfl
theorem r182_86 : Rn 182 (86, [x0, x1, x2, x3, x4, x5, x6], st, a, h) = Rn 182 (87, [x0, x1, x2, x3, x4, x5, x6], .int (3 : Int32) :: st, a, h) := Rn_go c182_86 rfl
theorem c182_87 : mcode 182 87 = some (.invokestatic 79, 3, 130, 2, 0) := rfl
theorem r182_87 : Rn 182 (87, [x0, x1, x2, x3, x4, x5, x6], [v1, v0, .ref q0], a, h) = Bk 182 90 [x0, x1, x2, x3, x4, x5, x6] [.ref q0] (Ec 130 [v0, v1] a h) := Rn_call0 c182_87 (fun z => nomatch z) rfl (Nat.le_of_ble_eq_true rfl) rfl rfl (Nat.le_of_ble_eq_true rfl)
theorem c182_90 : mcode 182 90 = some (.iload 4, 2, 0, 0, 0) := rfl
theorem r182_90 : Rn 182 (90, [x0, x1, x2, x3, some (.int i), x5, x6], st, a, h) = Rn 182 (92, [x0, x1, x2, x3, some (.int i), x5, x6], .int i :: st, a, h) := Rn_go c182_90 rfl
theorem c182_92 : mcode 182 92 = some (.iastore, 1, 0, 0, 0) := rfl
theorem r182_92 : Rn 182 (92, [x0, x1, x2, x3, x4, x5, x6], .int j :: .int i :: .ref q :: st, a, h) = Kh 182 93 [x0, x1, x2, x3, x4, x5, x6] st a (mias h q i j) := Rn_iast c182_92 rfl
theorem c182_93 : mcode 182 93 = some (.return_, 1, 0, 0, 0) := rfl
theorem r182_93 : Rn 182 (93, [x0, x1, x2, x3, x4, x5, x6], [], a, h) = some (none, a, h) := Rn_act c182_93
theorem c183_0 : mcode 183 0 = some (.aload_n 0, 1, 0, 0, 0) := rfl
theorem r183_0 : Rn 183 (0, [some (.ref q), x1, x2, x3], st, a, h) = Rn 183 (1, [some (.ref q), x1, x2, x3], .ref q :: st, a, h) := Rn_go c183_0 rfl
theorem c183_1 : mcode 183 1 = some (.iload_n 1, 1, 0, 0, 0) := rfl
theorem r183_1 : Rn 183 (1, [x0, some (.int i), x2, x3], st, a, h) = Rn 183 (2, [x0, some (.int i), x2, x3], .int i :: st, a, h) := Rn_go c183_1 rfl
theorem c183_2 : mcode 183 2 = some (.invokevirtual 194, 3, 218, 1, 6) := rfl
theorem r183_2 : Rn 183 (2, [x0, x1, x2, x3], [v0, .ref q], a, h) = if mis h q 6 = true then Bk 183 5 [x0, x1, x2, x3] [] (Ec 218 [.ref q, v0] a h) else none := Rn_call1 c183_2 rfl (Nat.le_of_ble_eq_true rfl) rfl rfl (Nat.le_of_ble_eq_true rfl)
theorem c183_5 : mcode 183 5 = some (.ifCond .eq 11, 3, 0, 0, 0) := rfl
theorem r183_5 : Rn 183 (5, [x0, x1, x2, x3], .int i :: st, a, h) = if i = 0 then Rn 183 (16, [x0, x1, x2, x3], st, a, h) else Rn 183 (8, [x0, x1, x2, x3], st, a, h) := Rn_ifc c183_5 mc_eq rfl rfl
theorem c183_8 : mcode 183 8 = some (.aload_n 0, 1, 0, 0, 0) := rfl
theorem r183_8 : Rn 183 (8, [some (.ref q), x1, x2, x3], st, a, h) = Rn 183 (9, [some (.ref q), x1, x2, x3], .ref q :: st, a, h) := Rn_go c183_8 rfl
theorem c183_9 : mcode 183 9 = some (.iload_n 1, 1, 0, 0, 0) := rfl
theorem r183_9 : Rn 183 (9, [x0, some (.int i), x2, x3], st, a, h) = Rn 183 (10, [x0, some (.int i), x2, x3], .int i :: st, a, h) := Rn_go c183_9 rfl
theorem c183_10 : mcode 183 10 = some (.invokevirtual 194, 3, 218, 1, 6) := rfl
theorem r183_10 : Rn 183 (10, [x0, x1, x2, x3], [v0, .ref q], a, h) = if mis h q 6 = true then Bk 183 13 [x0, x1, x2, x3] [] (Ec 218 [.ref q, v0] a h) else none := Rn_call1 c183_10 rfl (Nat.le_of_ble_eq_true rfl) rfl rfl (Nat.le_of_ble_eq_true rfl)
theorem c183_13 : mcode 183 13 = some (.goto 24, 3, 0, 0, 0) := rfl
theorem r183_13 : Rn 183 (13, [x0, x1, x2, x3], st, a, h) = Rn 183 (37, [x0, x1, x2, x3], st, a, h) := Rn_goto c183_13 rfl
theorem c183_16 : mcode 183 16 = some (.aload_n 0, 1, 0, 0, 0) := rfl
theorem r183_16 : Rn 183 (16, [some (.ref q), x1, x2, x3], st, a, h) = Rn 183 (17, [some (.ref q), x1, x2, x3], .ref q :: st, a, h) := Rn_go c183_16 rfl
theorem c183_17 : mcode 183 17 = some (.iload_n 2, 1, 0, 0, 0) := rfl
theorem r183_17 : Rn 183 (17, [x0, x1, some (.int i), x3], st, a, h) = Rn 183 (18, [x0, x1, some (.int i), x3], .int i :: st, a, h) := Rn_go c183_17 rfl
theorem c183_18 : mcode 183 18 = some (.invokevirtual 98, 3, 129, 1, 6) := rfl
theorem r183_18 : Rn 183 (18, [x0, x1, x2, x3], [v0, .ref q], a, h) = if mis h q 6 = true then Bk 183 21 [x0, x1, x2, x3] [] (Ec 129 [.ref q, v0] a h) else none := Rn_call1 c183_18 rfl (Nat.le_of_ble_eq_true rfl) rfl rfl (Nat.le_of_ble_eq_true rfl)
theorem c183_21 : mcode 183 21 = some (.ifCond .eq 14, 3, 0, 0, 0) := rfl
theorem r183_21 : Rn 183 (21, [x0, x1, x2, x3], .int i :: st, a, h) = if i = 0 then Rn 183 (35, [x0, x1, x2, x3], st, a, h) else Rn 183 (24, [x0, x1, x2, x3], st, a, h) := Rn_ifc c183_21 mc_eq rfl rfl
theorem c183_24 : mcode 183 24 = some (.iload_n 3, 1, 0, 0, 0) := rfl
theorem r183_24 : Rn 183 (24, [x0, x1, x2, some (.int i)], st, a, h) = Rn 183 (25, [x0, x1, x2, some (.int i)], .int i :: st, a, h) := Rn_go c183_24 rfl
theorem c183_25 : mcode 183 25 = some (.invokestatic 47, 3, 128, 1, 0) := rfl
theorem r183_25 : Rn 183 (25, [x0, x1, x2, x3], [v0], a, h) = Bk 183 28 [x0, x1, x2, x3] [] (Ec 128 [v0] a h) := Rn_call0 c183_25 (fun z => nomatch z) rfl (Nat.le_of_ble_eq_true rfl) rfl rfl (Nat.le_of_ble_eq_true rfl)
theorem c183_28 : mcode 183 28 = some (.ifCond .eq 7, 3, 0, 0, 0) := rfl
theorem r183_28 : Rn 183 (28, [x0, x1, x2, x3], .int i :: st, a, h) = if i = 0 then Rn 183 (35, [x0, x1, x2, x3], st, a, h) else Rn 183 (31, [x0, x1, x2, x3], st, a, h) := Rn_ifc c183_28 mc_eq rfl rfl
theorem c183_31 : mcode 183 31 = some (.iconst 0, 1, 0, 0, 0) := rfl
theorem r183_31 : Rn 183 (31, [x0, x1, x2, x3], st, a, h) = Rn 183 (32, [x0, x1, x2, x3], .int (0 : Int32) :: st, a, h) := Rn_go c183_31 rfl
theorem c183_32 : mcode 183 32 = some (.goto 5, 3, 0, 0, 0) := rfl
theorem r183_32 : Rn 183 (32, [x0, x1, x2, x3], st, a, h) = Rn 183 (37, [x0, x1, x2, x3], st, a, h) := Rn_goto c183_32 rfl
theorem c183_35 : mcode 183 35 = some (.ldc 37, 2, 0, 0, -1000001) := rfl
theorem r183_35 : Rn 183 (35, [x0, x1, x2, x3], st, a, h) = Rn 183 (37, [x0, x1, x2, x3], .int (-1000001 : Int32) :: st, a, h) := Rn_go c183_35 rfl
theorem c183_37 : mcode 183 37 = some (.ireturn, 1, 0, 0, 0) := rfl
theorem r183_37 : Rn 183 (37, [x0, x1, x2, x3], [.int i], a, h) = some (some (.int i), a, h) := Rn_ireti c183_37
theorem c184_0 : mcode 184 0 = some (.aload_n 0, 1, 0, 0, 0) := rfl
theorem r184_0 : Rn 184 (0, [some (.ref q), x1, x2, x3, x4], st, a, h) = Rn 184 (1, [some (.ref q), x1, x2, x3, x4], .ref q :: st, a, h) := Rn_go c184_0 rfl
theorem c184_1 : mcode 184 1 = some (.iload_n 1, 1, 0, 0, 0) := rfl
theorem r184_1 : Rn 184 (1, [x0, some (.int i), x2, x3, x4], st, a, h) = Rn 184 (2, [x0, some (.int i), x2, x3, x4], .int i :: st, a, h) := Rn_go c184_1 rfl
theorem c184_2 : mcode 184 2 = some (.iload_n 2, 1, 0, 0, 0) := rfl
theorem r184_2 : Rn 184 (2, [x0, x1, some (.int i), x3, x4], st, a, h) = Rn 184 (3, [x0, x1, some (.int i), x3, x4], .int i :: st, a, h) := Rn_go c184_2 rfl
theorem c184_3 : mcode 184 3 = some (.iload_n 3, 1, 0, 0, 0) := rfl
theorem r184_3 : Rn 184 (3, [x0, x1, x2, some (.int i), x4], st, a, h) = Rn 184 (4, [x0, x1, x2, some (.int i), x4], .int i :: st, a, h) := Rn_go c184_3 rfl
theorem c184_4 : mcode 184 4 = some (.invokevirtual 197, 3, 183, 3, 6) := rfl
theorem r184_4 : Rn 184 (4, [x0, x1, x2, x3, x4], [v2, v1, v0, .ref q], a, h) = if mis h q 6 = true then Bk 184 7 [x0, x1, x2, x3, x4] [] (Ec 183 [.ref q, v0, v1, v2] a h) else none := Rn_call1 c184_4 rfl (Nat.le_of_ble_eq_true rfl) rfl rfl (Nat.le_of_ble_eq_true rfl)
theorem c184_7 : mcode 184 7 = some (.istore 4, 2, 0, 0, 0) := rfl
theorem r184_7 : Rn 184 (7, [x0, x1, x2, x3, x4], .int i :: st, a, h) = Nl x3 (Rn 184 (9, [x0, x1, x2, x3, some (.int i)], st, a, h)) := Rn_st1 (k := 4) (v := .int i) x3 c184_7 rfl rfl rfl rfl
theorem c184_9 : mcode 184 9 = some (.iload 4, 2, 0, 0, 0) := rfl
theorem r184_9 : Rn 184 (9, [x0, x1, x2, x3, some (.int i)], st, a, h) = Rn 184 (11, [x0, x1, x2, x3, some (.int i)], .int i :: st, a, h) := Rn_go c184_9 rfl
theorem c184_11 : mcode 184 11 = some (.ifCond .eq 10, 3, 0, 0, 0) := rfl
theorem r184_11 : Rn 184 (11, [x0, x1, x2, x3, x4], .int i :: st, a, h) = if i = 0 then Rn 184 (21, [x0, x1, x2, x3, x4], st, a, h) else Rn 184 (14, [x0, x1, x2, x3, x4], st, a, h) := Rn_ifc c184_11 mc_eq rfl rfl
theorem c184_14 : mcode 184 14 = some (.aload_n 0, 1, 0, 0, 0) := rfl
theorem r184_14 : Rn 184 (14, [some (.ref q), x1, x2, x3, x4], st, a, h) = Rn 184 (15, [some (.ref q), x1, x2, x3, x4], .ref q :: st, a, h) := Rn_go c184_14 rfl
theorem c184_15 : mcode 184 15 = some (.iload 4, 2, 0, 0, 0) := rfl
theorem r184_15 : Rn 184 (15, [x0, x1, x2, x3, some (.int i)], st, a, h) = Rn 184 (17, [x0, x1, x2, x3, some (.int i)], .int i :: st, a, h) := Rn_go c184_15 rfl
theorem c184_17 : mcode 184 17 = some (.invokevirtual 39, 3, 124, 1, 6) := rfl
theorem r184_17 : Rn 184 (17, [x0, x1, x2, x3, x4], [v0, .ref q], a, h) = if mis h q 6 = true then Bk 184 20 [x0, x1, x2, x3, x4] [] (Ec 124 [.ref q, v0] a h) else none := Rn_call1 c184_17 rfl (Nat.le_of_ble_eq_true rfl) rfl rfl (Nat.le_of_ble_eq_true rfl)
theorem c184_20 : mcode 184 20 = some (.ireturn, 1, 0, 0, 0) := rfl
theorem r184_20 : Rn 184 (20, [x0, x1, x2, x3, x4], [.int i], a, h) = some (some (.int i), a, h) := Rn_ireti c184_20
theorem c184_21 : mcode 184 21 = some (.aload_n 0, 1, 0, 0, 0) := rfl
theorem r184_21 : Rn 184 (21, [some (.ref q), x1, x2, x3, x4], st, a, h) = Rn 184 (22, [some (.ref q), x1, x2, x3, x4], .ref q :: st, a, h) := Rn_go c184_21 rfl
theorem c184_22 : mcode 184 22 = some (.iload_n 1, 1, 0, 0, 0) := rfl
theorem r184_22 : Rn 184 (22, [x0, some (.int i), x2, x3, x4], st, a, h) = Rn 184 (23, [x0, some (.int i), x2, x3, x4], .int i :: st, a, h) := Rn_go c184_22 rfl
theorem c184_23 : mcode 184 23 = some (.iload_n 2, 1, 0, 0, 0) := rfl
theorem r184_23 : Rn 184 (23, [x0, x1, some (.int i), x3, x4], st, a, h) = Rn 184 (24, [x0, x1, some (.int i), x3, x4], .int i :: st, a, h) := Rn_go c184_23 rfl
theorem c184_24 : mcode 184 24 = some (.iload_n 3, 1, 0, 0, 0) := rfl
theorem r184_24 : Rn 184 (24, [x0, x1, x2, some (.int i), x4], st, a, h) = Rn 184 (25, [x0, x1, x2, some (.int i), x4], .int i :: st, a, h) := Rn_go c184_24 rfl
theorem c184_25 : mcode 184 25 = some (.invokevirtual 201, 3, 182, 3, 6) := rfl
theorem r184_25 : Rn 184 (25, [x0, x1, x2, x3, x4], [v2, v1, v0, .ref q], a, h) = if mis h q 6 = true then Bk 184 28 [x0, x1, x2, x3, x4] [] (Ec 182 [.ref q, v0, v1, v2] a h) else none := Rn_call1 c184_25 rfl (Nat.le_of_ble_eq_true rfl) rfl rfl (Nat.le_of_ble_eq_true rfl)
theorem c184_28 : mcode 184 28 = some (.aload_n 0, 1, 0, 0, 0) := rfl
theorem r184_28 : Rn 184 (28, [some (.ref q), x1, x2, x3, x4], st, a, h) = Rn 184 (29, [some (.ref q), x1, x2, x3, x4], .ref q :: st, a, h) := Rn_go c184_28 rfl
theorem c184_29 : mcode 184 29 = some (.getfield 183, 3, 6, 11, 0) := rfl
theorem r184_29 : Rn 184 (29, [x0, x1, x2, x3, x4], .ref q :: st, a, h) = Kv 184 32 [x0, x1, x2, x3, x4] st a h (mgf h q 6 11) := Rn_getf c184_29 rfl
theorem c184_32 : mcode 184 32 = some (.ireturn, 1, 0, 0, 0) := rfl
theorem r184_32 : Rn 184 (32, [x0, x1, x2, x3, x4], [.int i], a, h) = some (some (.int i), a, h) := Rn_ireti c184_32
theorem c185_0 : mcode 185 0 = some (.aload_n 0, 1, 0, 0, 0) := rfl
theorem r185_0 : Rn 185 (0, [some (.ref q), x1, x2, x3, x4], st, a, h) = Rn 185 (1, [some (.ref q), x1, x2, x3, x4], .ref q :: st, a, h) := Rn_go c185_0 rfl
theorem c185_1 : mcode 185 1 = some (.iload_n 1, 1, 0, 0, 0) := rfl
theorem r185_1 : Rn 185 (1, [x0, some (.int i), x2, x3, x4], st, a, h) = Rn 185 (2, [x0, some (.int i), x2, x3, x4], .int i :: st, a, h) := Rn_go c185_1 rfl
theorem c185_2 : mcode 185 2 = some (.iload_n 2, 1, 0, 0, 0) := rfl
theorem r185_2 : Rn 185 (2, [x0, x1, some (.int i), x3, x4], st, a, h) = Rn 185 (3, [x0, x1, some (.int i), x3, x4], .int i :: st, a, h) := Rn_go c185_2 rfl
theorem c185_3 : mcode 185 3 = some (.iload_n 3, 1, 0, 0, 0) := rfl
theorem r185_3 : Rn 185 (3, [x0, x1, x2, some (.int i), x4], st, a, h) = Rn 185 (4, [x0, x1, x2, some (.int i), x4], .int i :: st, a, h) := Rn_go c185_3 rfl
theorem c185_4 : mcode 185 4 = some (.invokevirtual 197, 3, 183, 3, 6) := rfl
theorem r185_4 : Rn 185 (4, [x0, x1, x2, x3, x4], [v2, v1, v0, .ref q], a, h) = if mis h q 6 = true then Bk 185 7 [x0, x1, x2, x3, x4] [] (Ec 183 [.ref q, v0, v1, v2] a h) else none := Rn_call1 c185_4 rfl (Nat.le_of_ble_eq_true rfl) rfl rfl (Nat.le_of_ble_eq_true rfl)
theorem c185_7 : mcode 185 7 = some (.istore 4, 2, 0, 0, 0) := rfl
theorem r185_7 : Rn 185 (7, [x0, x1, x2, x3, x4], .int i :: st, a, h) = Nl x3 (Rn 185 (9, [x0, x1, x2, x3, some (.int i)], st, a, h)) := Rn_st1 (k := 4) (v := .int i) x3 c185_7 rfl rfl rfl rfl
theorem c185_9 : mcode 185 9 = some (.iload 4, 2, 0, 0, 0) := rfl
theorem r185_9 : Rn 185 (9, [x0, x1, x2, x3, some (.int i)], st, a, h) = Rn 185 (11, [x0, x1, x2, x3, some (.int i)], .int i :: st, a, h) := Rn_go c185_9 rfl
theorem c185_11 : mcode 185 11 = some (.ifCond .eq 10, 3, 0, 0, 0) := rfl
theorem r185_11 : Rn 185 (11, [x0, x1, x2, x3, x4], .int i :: st, a, h) = if i = 0 then Rn 185 (21, [x0, x1, x2, x3, x4], st, a, h) else Rn 185 (14, [x0, x1, x2, x3, x4], st, a, h) := Rn_ifc c185_11 mc_eq rfl rfl
theorem c185_14 : mcode 185 14 = some (.aload_n 0, 1, 0, 0, 0) := rfl
theorem r185_14 : Rn 185 (14, [some (.ref q), x1, x2, x3, x4], st, a, h) = Rn 185 (15, [some (.ref q), x1, x2, x3, x4], .ref q :: st, a, h) := Rn_go c185_14 rfl
theorem c185_15 : mcode 185 15 = some (.iload 4, 2, 0, 0, 0) := rfl
theorem r185_15 : Rn 185 (15, [x0, x1, x2, x3, some (.int i)], st, a, h) = Rn 185 (17, [x0, x1, x2, x3, some (.int i)], .int i :: st, a, h) := Rn_go c185_15 rfl
theorem c185_17 : mcode 185 17 = some (.invokevirtual 39, 3, 124, 1, 6) := rfl
theorem r185_17 : Rn 185 (17, [x0, x1, x2, x3, x4], [v0, .ref q], a, h) = if mis h q 6 = true then Bk 185 20 [x0, x1, x2, x3, x4] [] (Ec 124 [.ref q, v0] a h) else none := Rn_call1 c185_17 rfl (Nat.le_of_ble_eq_true rfl) rfl rfl (Nat.le_of_ble_eq_true rfl)
theorem c185_20 : mcode 185 20 = some (.ireturn, 1, 0, 0, 0) := rfl
theorem r185_20 : Rn 185 (20, [x0, x1, x2, x3, x4], [.int i], a, h) = some (some (.int i), a, h) := Rn_ireti c185_20
theorem c185_21 : mcode 185 21 = some (.aload_n 0, 1, 0, 0, 0) := rfl
theorem r185_21 : Rn 185 (21, [some (.ref q), x1, x2, x3, x4], st, a, h) = Rn 185 (22, [some (.ref q), x1, x2, x3, x4], .ref q :: st, a, h) := Rn_go c185_21 rfl
theorem c185_22 : mcode 185 22 = some (.iload_n 1, 1, 0, 0, 0) := rfl
theorem r185_22 : Rn 185 (22, [x0, some (.int i), x2, x3, x4], st, a, h) = Rn 185 (23, [x0, some (.int i), x2, x3, x4], .int i :: st, a, h) := Rn_go c185_22 rfl
theorem c185_23 : mcode 185 23 = some (.iload_n 2, 1, 0, 0, 0) := rfl
theorem r185_23 : Rn 185 (23, [x0, x1, some (.int i), x3, x4], st, a, h) = Rn 185 (24, [x0, x1, some (.int i), x3, x4], .int i :: st, a, h) := Rn_go c185_23 rfl
theorem c185_24 : mcode 185 24 = some (.iload_n 3, 1, 0, 0, 0) := rfl
theorem r185_24 : Rn 185 (24, [x0, x1, x2, some (.int i), x4], st, a, h) = Rn 185 (25, [x0, x1, x2, some (.int i), x4], .int i :: st, a, h) := Rn_go c185_24 rfl
theorem c185_25 : mcode 185 25 = some (.invokevirtual 201, 3, 182, 3, 6) := rfl
theorem r185_25 : Rn 185 (25, [x0, x1, x2, x3, x4], [v2, v1, v0, .ref q], a, h) = if mis h q 6 = true then Bk 185 28 [x0, x1, x2, x3, x4] [] (Ec 182 [.ref q, v0, v1, v2] a h) else none := Rn_call1 c185_25 rfl (Nat.le_of_ble_eq_true rfl) rfl rfl (Nat.le_of_ble_eq_true rfl)
theorem c185_28 : mcode 185 28 = some (.aload_n 0, 1, 0, 0, 0) := rfl
theorem r185_28 : Rn 185 (28, [some (.ref q), x1, x2, x3, x4], st, a, h) = Rn 185 (29, [some (.ref q), x1, x2, x3, x4], .ref q :: st, a, h) := Rn_go c185_28 rfl
theorem c185_29 : mcode 185 29 = some (.getfield 183, 3, 6, 11, 0) := rfl
theorem r185_29 : Rn 185 (29, [x0, x1, x2, x3, x4], .ref q :: st, a, h) = Kv 185 32 [x0, x1, x2, x3, x4] st a h (mgf h q 6 11) := Rn_getf c185_29 rfl
theorem c185_32 : mcode 185 32 = some (.ifCond .le 10, 3, 0, 0, 0) := rfl
theorem r185_32 : Rn 185 (32, [x0, x1, x2, x3, x4], .int i :: st, a, h) = if 0 < i then Rn 185 (35, [x0, x1, x2, x3, x4], st, a, h) else Rn 185 (42, [x0, x1, x2, x3, x4], st, a, h) := Rn_ifcn c185_32 mc_le rfl rfl
theorem c185_35 : mcode 185 35 = some (.aload_n 0, 1, 0, 0, 0) := rfl
theorem r185_35 : Rn 185 (35, [some (.ref q), x1, x2, x3, x4], st, a, h) = Rn 185 (36, [some (.ref q), x1, x2, x3, x4], .ref q :: st, a, h) := Rn_go c185_35 rfl
theorem c185_36 : mcode 185 36 = some (.getfield 191, 3, 6, 12, 0) := rfl
theorem r185_36 : Rn 185 (36, [x0, x1, x2, x3, x4], .ref q :: st, a, h) = Kv 185 39 [x0, x1, x2, x3, x4] st a h (mgf h q 6 12) := Rn_getf c185_36 rfl
theorem c185_39 : mcode 185 39 = some (.goto 9, 3, 0, 0, 0) := rfl
theorem r185_39 : Rn 185 (39, [x0, x1, x2, x3, x4], st, a, h) = Rn 185 (48, [x0, x1, x2, x3, x4], st, a, h) := Rn_goto c185_39 rfl
theorem c185_42 : mcode 185 42 = some (.aload_n 0, 1, 0, 0, 0) := rfl
theorem r185_42 : Rn 185 (42, [some (.ref q), x1, x2, x3, x4], st, a, h) = Rn 185 (43, [some (.ref q), x1, x2, x3, x4], .ref q :: st, a, h) := Rn_go c185_42 rfl
theorem c185_43 : mcode 185 43 = some (.ldc 38, 2, 0, 0, -1000004) := rfl
theorem r185_43 : Rn 185 (43, [x0, x1, x2, x3, x4], st, a, h) = Rn 185 (45, [x0, x1, x2, x3, x4], .int (-1000004 : Int32) :: st, a, h) := Rn_go c185_43 rfl
theorem c185_45 : mcode 185 45 = some (.invokevirtual 39, 3, 124, 1, 6) := rfl
theorem r185_45 : Rn 185 (45, [x0, x1, x2, x3, x4], [v0, .ref q], a, h) = if mis h q 6 = true then Bk 185 48 [x0, x1, x2, x3, x4] [] (Ec 124 [.ref q, v0] a h) else none := Rn_call1 c185_45 rfl (Nat.le_of_ble_eq_true rfl) rfl rfl (Nat.le_of_ble_eq_true rfl)
theorem c185_48 : mcode 185 48 = some (.ireturn, 1, 0, 0, 0) := rfl
theorem r185_48 : Rn 185 (48, [x0, x1, x2, x3, x4], [.int i], a, h) = some (some (.int i), a, h) := Rn_ireti c185_48
theorem c186_0 : mcode 186 0 = some (.aload_n 0, 1, 0, 0, 0) := rfl
theorem r186_0 : Rn 186 (0, [some (.ref q), x1, x2, x3, x4, x5, x6], st, a, h) = Rn 186 (1, [some (.ref q), x1, x2, x3, x4, x5, x6], .ref q :: st, a, h) := Rn_go c186_0 rfl
theorem c186_1 : mcode 186 1 = some (.iload_n 1, 1, 0, 0, 0) := rfl
theorem r186_1 : Rn 186 (1, [x0, some (.int i), x2, x3, x4, x5, x6], st, a, h) = Rn 186 (2, [x0, some (.int i), x2, x3, x4, x5, x6], .int i :: st, a, h) := Rn_go c186_1 rfl
theorem c186_2 : mcode 186 2 = some (.iload_n 2, 1, 0, 0, 0) := rfl
theorem r186_2 : Rn 186 (2, [x0, x1, some (.int i), x3, x4, x5, x6], st, a, h) = Rn 186 (3, [x0, x1, some (.int i), x3, x4, x5, x6], .int i :: st, a, h) := Rn_go c186_2 rfl
theorem c186_3 : mcode 186 3 = some (.iconst 0, 1, 0, 0, 0) := rfl
theorem r186_3 : Rn 186 (3, [x0, x1, x2, x3, x4, x5, x6], st, a, h) = Rn 186 (4, [x0, x1, x2, x3, x4, x5, x6], .int (0 : Int32) :: st, a, h) := Rn_go c186_3 rfl
theorem c186_4 : mcode 186 4 = some (.invokevirtual 197, 3, 183, 3, 6) := rfl
theorem r186_4 : Rn 186 (4, [x0, x1, x2, x3, x4, x5, x6], [v2, v1, v0, .ref q], a, h) = if mis h q 6 = true then Bk 186 7 [x0, x1, x2, x3, x4, x5, x6] [] (Ec 183 [.ref q, v0, v1, v2] a h) else none := Rn_call1 c186_4 rfl (Nat.le_of_ble_eq_true rfl) rfl rfl (Nat.le_of_ble_eq_true rfl)
theorem c186_7 : mcode 186 7 = some (.istore_n 3, 1, 0, 0, 0) := rfl
theorem r186_7 : Rn 186 (7, [x0, x1, x2, x3, x4, x5, x6], .int i :: st, a, h) = Nl x2 (Rn 186 (8, [x0, x1, x2, some (.int i), x4, x5, x6], st, a, h)) := Rn_st1 (k := 3) (v := .int i) x2 c186_7 rfl rfl rfl rfl
theorem c186_8 : mcode 186 8 = some (.iload_n 3, 1, 0, 0, 0) := rfl
theorem r186_8 : Rn 186 (8, [x0, x1, x2, some (.int i), x4, x5, x6], st, a, h) = Rn 186 (9, [x0, x1, x2, some (.int i), x4, x5, x6], .int i :: st, a, h) := Rn_go c186_8 rfl
theorem c186_9 : mcode 186 9 = some (.ifCond .eq 9, 3, 0, 0, 0) := rfl
theorem r186_9 : Rn 186 (9, [x0, x1, x2, x3, x4, x5, x6], .int i :: st, a, h) = if i = 0 then Rn 186 (18, [x0, x1, x2, x3, x4, x5, x6], st, a, h) else Rn 186 (12, [x0, x1, x2, x3, x4, x5, x6], st, a, h) := Rn_ifc c186_9 mc_eq rfl rfl
theorem c186_12 : mcode 186 12 = some (.aload_n 0, 1, 0, 0, 0) := rfl
theorem r186_12 : Rn 186 (12, [some (.ref q), x1, x2, x3, x4, x5, x6], st, a, h) = Rn 186 (13, [some (.ref q), x1, x2, x3, x4, x5, x6], .ref q :: st, a, h) := Rn_go c186_12 rfl
theorem c186_13 : mcode 186 13 = some (.iload_n 3, 1, 0, 0, 0) := rfl
theorem r186_13 : Rn 186 (13, [x0, x1, x2, some (.int i), x4, x5, x6], st, a, h) = Rn 186 (14, [x0, x1, x2, some (.int i), x4, x5, x6], .int i :: st, a, h) := Rn_go c186_13 rfl
theorem c186_14 : mcode 186 14 = some (.invokevirtual 39, 3, 124, 1, 6) := rfl
theorem r186_14 : Rn 186 (14, [x0, x1, x2, x3, x4, x5, x6], [v0, .ref q], a, h) = if mis h q 6 = true then Bk 186 17 [x0, x1, x2, x3, x4, x5, x6] [] (Ec 124 [.ref q, v0] a h) else none := Rn_call1 c186_14 rfl (Nat.le_of_ble_eq_true rfl) rfl rfl (Nat.le_of_ble_eq_true rfl)
theorem c186_17 : mcode 186 17 = some (.ireturn, 1, 0, 0, 0) := rfl
theorem r186_17 : Rn 186 (17, [x0, x1, x2, x3, x4, x5, x6], [.int i], a, h) = some (some (.int i), a, h) := Rn_ireti c186_17
theorem c186_18 : mcode 186 18 = some (.aload_n 0, 1, 0, 0, 0) := rfl
theorem r186_18 : Rn 186 (18, [some (.ref q), x1, x2, x3, x4, x5, x6], st, a, h) = Rn 186 (19, [some (.ref q), x1, x2, x3, x4, x5, x6], .ref q :: st, a, h) := Rn_go c186_18 rfl
theorem c186_19 : mcode 186 19 = some (.iload_n 2, 1, 0, 0, 0) := rfl
theorem r186_19 : Rn 186 (19, [x0, x1, some (.int i), x3, x4, x5, x6], st, a, h) = Rn 186 (20, [x0, x1, some (.int i), x3, x4, x5, x6], .int i :: st, a, h) := Rn_go c186_19 rfl
theorem c186_20 : mcode 186 20 = some (.iconst 0, 1, 0, 0, 0) := rfl
theorem r186_20 : Rn 186 (20, [x0, x1, x2, x3, x4, x5, x6], st, a, h) = Rn 186 (21, [x0, x1, x2, x3, x4, x5, x6], .int (0 : Int32) :: st, a, h) := Rn_go c186_20 rfl
theorem c186_21 : mcode 186 21 = some (.invokevirtual 63, 3, 131, 2, 6) := rfl
theorem r186_21 : Rn 186 (21, [x0, x1, x2, x3, x4, x5, x6], [v1, v0, .ref q], a, h) = if mis h q 6 = true then Bk 186 24 [x0, x1, x2, x3, x4, x5, x6] [] (Ec 131 [.ref q, v0, v1] a h) else none := Rn_call1 c186_21 rfl (Nat.le_of_ble_eq_true rfl) rfl rfl (Nat.le_of_ble_eq_true rfl)
theorem c186_24 : mcode 186 24 = some (.istore 4, 2, 0, 0, 0) := rfl
theorem r186_24 : Rn 186 (24, [x0, x1, x2, x3, x4, x5, x6], .int i :: st, a, h) = Nl x3 (Rn 186 (26, [x0, x1, x2, x3, some (.int i), x5, x6], st, a, h)) := Rn_st1 (k := 4) (v := .int i) x3 c186_24 rfl rfl rfl rfl
theorem c186_26 : mcode 186 26 = some (.iconst 0, 1, 0, 0, 0) := rfl
theorem r186_26 : Rn 186 (26, [x0, x1, x2, x3, x4, x5, x6], st, a, h) = Rn 186 (27, [x0, x1, x2, x3, x4, x5, x6], .int (0 : Int32) :: st, a, h) := Rn_go c186_26 rfl
theorem c186_27 : mcode 186 27 = some (.istore 5, 2, 0, 0, 0) := rfl
theorem r186_27 : Rn 186 (27, [x0, x1, x2, x3, x4, x5, x6], .int i :: st, a, h) = Nl x4 (Rn 186 (29, [x0, x1, x2, x3, x4, some (.int i), x6], st, a, h)) := Rn_st1 (k := 5) (v := .int i) x4 c186_27 rfl rfl rfl rfl
theorem c186_29 : mcode 186 29 = some (.iconst 0, 1, 0, 0, 0) := rfl
theorem r186_29 : Rn 186 (29, [x0, x1, x2, x3, x4, x5, x6], st, a, h) = Rn 186 (30, [x0, x1, x2, x3, x4, x5, x6], .int (0 : Int32) :: st, a, h) := Rn_go c186_29 rfl
theorem c186_30 : mcode 186 30 = some (.istore 6, 2, 0, 0, 0) := rfl
theorem r186_30 : Rn 186 (30, [x0, x1, x2, x3, x4, x5, x6], .int i :: st, a, h) = Nl x5 (Rn 186 (32, [x0, x1, x2, x3, x4, x5, some (.int i)], st, a, h)) := Rn_st1 (k := 6) (v := .int i) x5 c186_30 rfl rfl rfl rfl
theorem c186_32 : mcode 186 32 = some (.iload 6, 2, 0, 0, 0) := rfl
theorem r186_32 : Rn 186 (32, [x0, x1, x2, x3, x4, x5, some (.int i)], st, a, h) = Rn 186 (34, [x0, x1, x2, x3, x4, x5, some (.int i)], .int i :: st, a, h) := Rn_go c186_32 rfl
theorem c186_34 : mcode 186 34 = some (.bipush 6, 2, 0, 0, 0) := rfl
theorem r186_34 : Rn 186 (34, [x0, x1, x2, x3, x4, x5, x6], st, a, h) = Rn 186 (36, [x0, x1, x2, x3, x4, x5, x6], .int (6 : Int32) :: st, a, h) := Rn_go c186_34 rfl
theorem c186_36 : mcode 186 36 = some (.if_icmp .gt 47, 3, 0, 0, 0) := rfl
theorem r186_36 : Rn 186 (36, [x0, x1, x2, x3, x4, x5, x6], .int j :: .int i :: st, a, h) = if j < i then Rn 186 (83, [x0, x1, x2, x3, x4, x5, x6], st, a, h) else Rn 186 (39, [x0, x1, x2, x3, x4, x5, x6], st, a, h) := Rn_icmp c186_36 mc_gt rfl rfl
theorem c186_39 : mcode 186 39 = some (.aload_n 0, 1, 0, 0, 0) := rfl
theorem r186_39 : Rn 186 (39, [some (.ref q), x1, x2, x3, x4, x5, x6], st, a, h) = Rn 186 (40, [some (.ref q), x1, x2, x3, x4, x5, x6], .ref q :: st, a, h) := Rn_go c186_39 rfl
theorem c186_40 : mcode 186 40 = some (.getfield 7, 3, 6, 0, 0) := rfl
theorem r186_40 : Rn 186 (40, [x0, x1, x2, x3, x4, x5, x6], .ref q :: st, a, h) = Kv 186 43 [x0, x1, x2, x3, x4, x5, x6] st a h (mgf h q 6 0) := Rn_getf c186_40 rfl
theorem c186_43 : mcode 186 43 = some (.iload_n 2, 1, 0, 0, 0) := rfl
theorem r186_43 : Rn 186 (43, [x0, x1, some (.int i), x3, x4, x5, x6], st, a, h) = Rn 186 (44, [x0, x1, some (.int i), x3, x4, x5, x6], .int i :: st, a, h) := Rn_go c186_43 rfl
theorem c186_44 : mcode 186 44 = some (.iconst 0, 1, 0, 0, 0) := rfl
theorem r186_44 : Rn 186 (44, [x0, x1, x2, x3, x4, x5, x6], st, a, h) = Rn 186 (45, [x0, x1, x2, x3, x4, x5, x6], .int (0 : Int32) :: st, a, h) := Rn_go c186_44 rfl
theorem c186_45 : mcode 186 45 = some (.invokestatic 79, 3, 130, 2, 0) := rfl
theorem r186_45 : Rn 186 (45, [x0, x1, x2, x3, x4, x5, x6], [v1, v0, .ref q0], a, h) = Bk 186 48 [x0, x1, x2, x3, x4, x5, x6] [.ref q0] (Ec 130 [v0, v1] a h) := Rn_call0 c186_45 (fun z => nomatch z) rfl (Nat.le_of_ble_eq_true rfl) rfl rfl (Nat.le_of_ble_eq_true rfl)
theorem c186_48 : mcode 186 48 = some (.iload 6, 2, 0, 0, 0) := rfl
theorem r186_48 : Rn 186 (48, [x0, x1, x2, x3, x4, x5, some (.int i)], st, a, h) = Rn 186 (50, [x0, x1, x2, x3, x4, x5, some (.int i)], .int i :: st, a, h) := Rn_go c186_48 rfl
theorem c186_50 : mcode 186 50 = some (.iastore, 1, 0, 0, 0) := rfl
theorem r186_50 : Rn 186 (50, [x0, x1, x2, x3, x4, x5, x6], .int j :: .int i :: .ref q :: st, a, h) = Kh 186 51 [x0, x1, x2, x3, x4, x5, x6] st a (mias h q i j) := Rn_iast c186_50 rfl
theorem c186_51 : mcode 186 51 = some (.iload 5, 2, 0, 0, 0) := rfl
theorem r186_51 : Rn 186 (51, [x0, x1, x2, x3, x4, some (.int i), x6], st, a, h) = Rn 186 (53, [x0, x1, x2, x3, x4, some (.int i), x6], .int i :: st, a, h) := Rn_go c186_51 rfl
theorem c186_53 : mcode 186 53 = some (.aload_n 0, 1, 0, 0, 0) := rfl
theorem r186_53 : Rn 186 (53, [some (.ref q), x1, x2, x3, x4, x5, x6], st, a, h) = Rn 186 (54, [some (.ref q), x1, x2, x3, x4, x5, x6], .ref q :: st, a, h) := Rn_go c186_53 rfl
theorem c186_54 : mcode 186 54 = some (.iload_n 1, 1, 0, 0, 0) := rfl
theorem r186_54 : Rn 186 (54, [x0, some (.int i), x2, x3, x4, x5, x6], st, a, h) = Rn 186 (55, [x0, some (.int i), x2, x3, x4, x5, x6], .int i :: st, a, h) := Rn_go c186_54 rfl
theorem c186_55 : mcode 186 55 = some (.iload_n 2, 1, 0, 0, 0) := rfl
theorem r186_55 : Rn 186 (55, [x0, x1, some (.int i), x3, x4, x5, x6], st, a, h) = Rn 186 (56, [x0, x1, some (.int i), x3, x4, x5, x6], .int i :: st, a, h) := Rn_go c186_55 rfl
theorem c186_56 : mcode 186 56 = some (.iconst 1, 1, 0, 0, 0) := rfl
theorem r186_56 : Rn 186 (56, [x0, x1, x2, x3, x4, x5, x6], st, a, h) = Rn 186 (57, [x0, x1, x2, x3, x4, x5, x6], .int (1 : Int32) :: st, a, h) := Rn_go c186_56 rfl
theorem c186_57 : mcode 186 57 = some (.invokestatic 79, 3, 130, 2, 0) := rfl
theorem r186_57 : Rn 186 (57, [x0, x1, x2, x3, x4, x5, x6], [v1, v0, .int i0, .ref q1, .int i2], a, h) = Bk 186 60 [x0, x1, x2, x3, x4, x5, x6] [.int i0, .ref q1, .int i2] (Ec 130 [v0, v1] a h) := Rn_call0 c186_57 (fun z => nomatch z) rfl (Nat.le_of_ble_eq_true rfl) rfl rfl (Nat.le_of_ble_eq_true rfl)
theorem c186_60 : mcode 186 60 = some (.invokevirtual 187, 3, 181, 2, 6) := rfl
theorem r186_60 : Rn 186 (60, [x0, x1, x2, x3, x4, x5, x6], [v1, v0, .ref q, .int i0], a, h) = if mis h q 6 = true then Bk 186 63 [x0, x1, x2, x3, x4, x5, x6] [.int i0] (Ec 181 [.ref q, v0, v1] a h) else none := Rn_call1 c186_60 rfl (Nat.le_of_ble_eq_true rfl) rfl rfl (Nat.le_of_ble_eq_true rfl)
theorem c186_63 : mcode 186 63 = some (.ifCond .eq 10, 3, 0, 0, 0) := rfl
theorem r186_63 : Rn 186 (63, [x0, x1, x2, x3, x4, x5, x6], .int i :: st, a, h) = if i = 0 then Rn 186 (73, [x0, x1, x2, x3, x4, x5, x6], st, a, h) else Rn 186 (66, [x0, x1, x2, x3, x4, x5, x6], st, a, h) := Rn_ifc c186_63 mc_eq rfl rfl
theorem c186_66 : mcode 186 66 = some (.iconst 1, 1, 0, 0, 0) := rfl
theorem r186_66 : Rn 186 (66, [x0, x1, x2, x3, x4, x5, x6], st, a, h) = Rn 186 (67, [x0, x1, x2, x3, x4, x5, x6], .int (1 : Int32) :: st, a, h) := Rn_go c186_66 rfl
theorem c186_67 : mcode 186 67 = some (.iload 6, 2, 0, 0, 0) := rfl
theorem r186_67 : Rn 186 (67, [x0, x1, x2, x3, x4, x5, some (.int i)], st, a, h) = Rn 186 (69, [x0, x1, x2, x3, x4, x5, some (.int i)], .int i :: st, a, h) := Rn_go c186_67 rfl
theorem c186_69 : mcode 186 69 = some (.ishl, 1, 0, 0, 0) := rfl
theorem r186_69 : Rn 186 (69, [x0, x1, x2, x3, x4, x5, x6], .int j :: .int i :: st, a, h) = Rn 186 (70, [x0, x1, x2, x3, x4, x5, x6], .int (i <<< (j &&& 31)) :: st, a, h) := Rn_go c186_69 rfl
theorem c186_70 : mcode 186 70 = some (.goto 4, 3, 0, 0, 0) := rfl
theorem r186_70 : Rn 186 (70, [x0, x1, x2, x3, x4, x5, x6], st, a, h) = Rn 186 (74, [x0, x1, x2, x3, x4, x5, x6], st, a, h) := Rn_goto c186_70 rfl
theorem c186_73 : mcode 186 73 = some (.iconst 0, 1, 0, 0, 0) := rfl
theorem r186_73 : Rn 186 (73, [x0, x1, x2, x3, x4, x5, x6], st, a, h) = Rn 186 (74, [x0, x1, x2, x3, x4, x5, x6], .int (0 : Int32) :: st, a, h) := Rn_go c186_73 rfl
theorem c186_74 : mcode 186 74 = some (.ior, 1, 0, 0, 0) := rfl
theorem r186_74 : Rn 186 (74, [x0, x1, x2, x3, x4, x5, x6], .int j :: .int i :: st, a, h) = Rn 186 (75, [x0, x1, x2, x3, x4, x5, x6], .int (i ||| j) :: st, a, h) := Rn_go c186_74 rfl
theorem c186_75 : mcode 186 75 = some (.istore 5, 2, 0, 0, 0) := rfl
theorem r186_75 : Rn 186 (75, [x0, x1, x2, x3, x4, x5, x6], .int i :: st, a, h) = Nl x4 (Rn 186 (77, [x0, x1, x2, x3, x4, some (.int i), x6], st, a, h)) := Rn_st1 (k := 5) (v := .int i) x4 c186_75 rfl rfl rfl rfl
theorem c186_77 : mcode 186 77 = some (.iinc 6 1, 3, 0, 0, 0) := rfl
theorem r186_77 : Rn 186 (77, [x0, x1, x2, x3, x4, x5, some (.int i)], st, a, h) = Nl x5 (Rn 186 (80, [x0, x1, x2, x3, x4, x5, some (.int (i + (1 : Int32)))], st, a, h)) := Rn_st1 (k := 6) (v := .int (i + (1 : Int32))) x5 c186_77 rfl rfl rfl rfl
theorem c186_80 : mcode 186 80 = some (.goto (-48), 3, 0, 0, 0) := rfl
theorem r186_80 : Rn 186 (80, [x0, x1, x2, x3, x4, x5, x6], st, a, h) = Rn 186 (32, [x0, x1, x2, x3, x4, x5, x6], st, a, h) := Rn_goto c186_80 rfl
theorem c186_83 : mcode 186 83 = some (.aload_n 0, 1, 0, 0, 0) := rfl
theorem r186_83 : Rn 186 (83, [some (.ref q), x1, x2, x3, x4, x5, x6], st, a, h) = Rn 186 (84, [some (.ref q), x1, x2, x3, x4, x5, x6], .ref q :: st, a, h) := Rn_go c186_83 rfl
theorem c186_84 : mcode 186 84 = some (.getfield 7, 3, 6, 0, 0) := rfl
theorem r186_84 : Rn 186 (84, [x0, x1, x2, x3, x4, x5, x6], .ref q :: st, a, h) = Kv 186 87 [x0, x1, x2, x3, x4, x5, x6] st a h (mgf h q 6 0) := Rn_getf c186_84 rfl
theorem c186_87 : mcode 186 87 = some (.iload_n 2, 1, 0, 0, 0) := rfl
theorem r186_87 : Rn 186 (87, [x0, x1, some (.int i), x3, x4, x5, x6], st, a, h) = Rn 186 (88, [x0, x1, some (.int i), x3, x4, x5, x6], .int i :: st, a, h) := Rn_go c186_87 rfl
theorem c186_88 : mcode 186 88 = some (.iconst 0, 1, 0, 0, 0) := rfl
theorem r186_88 : Rn 186 (88, [x0, x1, x2, x3, x4, x5, x6], st, a, h) = Rn 186 (89, [x0, x1, x2, x3, x4, x5, x6], .int (0 : Int32) :: st, a, h) := Rn_go c186_88 rfl
theorem c186_89 : mcode 186 89 = some (.invokestatic 79, 3, 130, 2, 0) := rfl
theorem r186_89 : Rn 186 (89, [x0, x1, x2, x3, x4, x5, x6], [v1, v0, .ref q0], a, h) = Bk 186 92 [x0, x1, x2, x3, x4, x5, x6] [.ref q0] (Ec 130 [v0, v1] a h) := Rn_call0 c186_89 (fun z => nomatch z) rfl (Nat.le_of_ble_eq_true rfl) rfl rfl (Nat.le_of_ble_eq_true rfl)
theorem c186_92 : mcode 186 92 = some (.iload 4, 2, 0, 0, 0) := rfl
theorem r186_92 : Rn 186 (92, [x0, x1, x2, x3, some (.int i), x5, x6], st, a, h) = Rn 186 (94, [x0, x1, x2, x3, some (.int i), x5, x6], .int i :: st, a, h) := Rn_go c186_92 rfl
theorem c186_94 : mcode 186 94 = some (.iastore, 1, 0, 0, 0) := rfl
theorem r186_94 : Rn 186 (94, [x0, x1, x2, x3, x4, x5, x6], .int j :: .int i :: .ref q :: st, a, h) = Kh 186 95 [x0, x1, x2, x3, x4, x5, x6] st a (mias h q i j) := Rn_iast c186_94 rfl
theorem c186_95 : mcode 186 95 = some (.iload 5, 2, 0, 0, 0) := rfl
theorem r186_95 : Rn 186 (95, [x0, x1, x2, x3, x4, some (.int i), x6], st, a, h) = Rn 186 (97, [x0, x1, x2, x3, x4, some (.int i), x6], .int i :: st, a, h) := Rn_go c186_95 rfl
theorem c186_97 : mcode 186 97 = some (.ireturn, 1, 0, 0, 0) := rfl
theorem r186_97 : Rn 186 (97, [x0, x1, x2, x3, x4, x5, x6], [.int i], a, h) = some (some (.int i), a, h) := Rn_ireti c186_97
theorem c187_0 : mcode 187 0 = some (.aload_n 0, 1, 0, 0, 0) := rfl
theorem r187_0 : Rn 187 (0, [some (.ref q)], st, a, h) = Rn 187 (1, [some (.ref q)], .ref q :: st, a, h) := Rn_go c187_0 rfl
theorem c187_1 : mcode 187 1 = some (.getfield 7, 3, 6, 0, 0) := rfl
theorem r187_1 : Rn 187 (1, [x0], .ref q :: st, a, h) = Kv 187 4 [x0] st a h (mgf h q 6 0) := Rn_getf c187_1 rfl
theorem c187_4 : mcode 187 4 = some (.iconst 2, 1, 0, 0, 0) := rfl
theorem r187_4 : Rn 187 (4, [x0], st, a, h) = Rn 187 (5, [x0], .int (2 : Int32) :: st, a, h) := Rn_go c187_4 rfl
theorem c187_5 : mcode 187 5 = some (.aload_n 0, 1, 0, 0, 0) := rfl
theorem r187_5 : Rn 187 (5, [some (.ref q)], st, a, h) = Rn 187 (6, [some (.ref q)], .ref q :: st, a, h) := Rn_go c187_5 rfl
theorem c187_6 : mcode 187 6 = some (.getfield 7, 3, 6, 0, 0) := rfl
theorem r187_6 : Rn 187 (6, [x0], .ref q :: st, a, h) = Kv 187 9 [x0] st a h (mgf h q 6 0) := Rn_getf c187_6 rfl
theorem c187_9 : mcode 187 9 = some (.iconst 2, 1, 0, 0, 0) := rfl
theorem r187_9 : Rn 187 (9, [x0], st, a, h) = Rn 187 (10, [x0], .int (2 : Int32) :: st, a, h) := Rn_go c187_9 rfl
theorem c187_10 : mcode 187 10 = some (.iaload, 1, 0, 0, 0) := rfl
theorem r187_10 : Rn 187 (10, [x0], .int i :: .ref q :: st, a, h) = Ki 187 11 [x0] st a h (mld h q i false) := Rn_iald c187_10 rfl
theorem c187_11 : mcode 187 11 = some (.ldc 205, 2, 0, 0, 1103515245) := rfl
theorem r187_11 : Rn 187 (11, [x0], st, a, h) = Rn 187 (13, [x0], .int (1103515245 : Int32) :: st, a, h) := Rn_go c187_11 rfl
theorem c187_13 : mcode 187 13 = some (.imul, 1, 0, 0, 0) := rfl
theorem r187_13 : Rn 187 (13, [x0], .int j :: .int i :: st, a, h) = Rn 187 (14, [x0], .int (i * j) :: st, a, h) := Rn_go c187_13 rfl
theorem c187_14 : mcode 187 14 = some (.sipush 12345, 3, 0, 0, 0) := rfl
theorem r187_14 : Rn 187 (14, [x0], st, a, h) = Rn 187 (17, [x0], .int (12345 : Int32) :: st, a, h) := Rn_go c187_14 rfl
theorem c187_17 : mcode 187 17 = some (.iadd, 1, 0, 0, 0) := rfl
theorem r187_17 : Rn 187 (17, [x0], .int j :: .int i :: st, a, h) = Rn 187 (18, [x0], .int (i + j) :: st, a, h) := Rn_go c187_17 rfl
theorem c187_18 : mcode 187 18 = some (.iastore, 1, 0, 0, 0) := rfl
theorem r187_18 : Rn 187 (18, [x0], .int j :: .int i :: .ref q :: st, a, h) = Kh 187 19 [x0] st a (mias h q i j) := Rn_iast c187_18 rfl
theorem c187_19 : mcode 187 19 = some (.aload_n 0, 1, 0, 0, 0) := rfl
theorem r187_19 : Rn 187 (19, [some (.ref q)], st, a, h) = Rn 187 (20, [some (.ref q)], .ref q :: st, a, h) := Rn_go c187_19 rfl
theorem c187_20 : mcode 187 20 = some (.getfield 7, 3, 6, 0, 0) := rfl
theorem r187_20 : Rn 187 (20, [x0], .ref q :: st, a, h) = Kv 187 23 [x0] st a h (mgf h q 6 0) := Rn_getf c187_20 rfl
theorem c187_23 : mcode 187 23 = some (.iconst 2, 1, 0, 0, 0) := rfl
theorem r187_23 : Rn 187 (23, [x0], st, a, h) = Rn 187 (24, [x0], .int (2 : Int32) :: st, a, h) := Rn_go c187_23 rfl
theorem c187_24 : mcode 187 24 = some (.iaload, 1, 0, 0, 0) := rfl
theorem r187_24 : Rn 187 (24, [x0], .int i :: .ref q :: st, a, h) = Ki 187 25 [x0] st a h (mld h q i false) := Rn_iald c187_24 rfl
theorem c187_25 : mcode 187 25 = some (.bipush 8, 2, 0, 0, 0) := rfl
theorem r187_25 : Rn 187 (25, [x0], st, a, h) = Rn 187 (27, [x0], .int (8 : Int32) :: st, a, h) := Rn_go c187_25 rfl
theorem c187_27 : mcode 187 27 = some (.iushr, 1, 0, 0, 0) := rfl
theorem r187_27 : Rn 187 (27, [x0], .int j :: .int i :: st, a, h) = Rn 187 (28, [x0], .int ((i.toUInt32 >>> (j.toUInt32 &&& Int32.toUInt32 31)).toInt32) :: st, a, h) := Rn_go c187_27 rfl
theorem c187_28 : mcode 187 28 = some (.ireturn, 1, 0, 0, 0) := rfl
theorem r187_28 : Rn 187 (28, [x0], [.int i], a, h) = some (some (.int i), a, h) := Rn_ireti c187_28
theorem c188_0 : mcode 188 0 = some (.iload_n 1, 1, 0, 0, 0) := rfl
theorem r188_0 : Rn 188 (0, [x0, some (.int i), x2, x3, x4], st, a, h) = Rn 188 (1, [x0, some (.int i), x2, x3, x4], .int i :: st, a, h) := Rn_go c188_0 rfl
theorem c188_1 : mcode 188 1 = some (.i2l, 1, 0, 0, 0) := rfl
theorem r188_1 : Rn 188 (1, [x0, x1, x2, x3, x4], .int i :: st, a, h) = Rn 188 (2, [x0, x1, x2, x3, x4], .long i.toInt64 :: st, a, h) := Rn_go c188_1 rfl
theorem c188_2 : mcode 188 2 = some (.lconst 1, 1, 0, 0, 0) := rfl
theorem r188_2 : Rn 188 (2, [x0, x1, x2, x3, x4], st, a, h) = Rn 188 (3, [x0, x1, x2, x3, x4], .long (1 : Int64) :: st, a, h) := Rn_go c188_2 rfl
theorem c188_3 : mcode 188 3 = some (.ldc2_w 181, 3, 0, 0, 20) := rfl
theorem r188_3 : Rn 188 (3, [x0, x1, x2, x3, x4], st, a, h) = Rn 188 (6, [x0, x1, x2, x3, x4], .long (20 : Int64) :: st, a, h) := Rn_go c188_3 rfl
theorem c188_6 : mcode 188 6 = some (.invokestatic 52, 3, 123, 3, 0) := rfl
theorem r188_6 : Rn 188 (6, [x0, x1, x2, x3, x4], [v2, v1, v0], a, h) = Bk 188 9 [x0, x1, x2, x3, x4] [] (Ec 123 [v0, v1, v2] a h) := Rn_call0 c188_6 (fun z => nomatch z) rfl (Nat.le_of_ble_eq_true rfl) rfl rfl (Nat.le_of_ble_eq_true rfl)
theorem c188_9 : mcode 188 9 = some (.ifCond .ne 10, 3, 0, 0, 0) := rfl
theorem r188_9 : Rn 188 (9, [x0, x1, x2, x3, x4], .int i :: st, a, h) = if i = 0 then Rn 188 (12, [x0, x1, x2, x3, x4], st, a, h) else Rn 188 (19, [x0, x1, x2, x3, x4], st, a, h) := Rn_ifcn c188_9 mc_ne rfl rfl
theorem c188_12 : mcode 188 12 = some (.aload_n 0, 1, 0, 0, 0) := rfl
theorem r188_12 : Rn 188 (12, [some (.ref q), x1, x2, x3, x4], st, a, h) = Rn 188 (13, [some (.ref q), x1, x2, x3, x4], .ref q :: st, a, h) := Rn_go c188_12 rfl
theorem c188_13 : mcode 188 13 = some (.ldc 37, 2, 0, 0, -1000001) := rfl
theorem r188_13 : Rn 188 (13, [x0, x1, x2, x3, x4], st, a, h) = Rn 188 (15, [x0, x1, x2, x3, x4], .int (-1000001 : Int32) :: st, a, h) := Rn_go c188_13 rfl
theorem c188_15 : mcode 188 15 = some (.invokevirtual 39, 3, 124, 1, 6) := rfl
theorem r188_15 : Rn 188 (15, [x0, x1, x2, x3, x4], [v0, .ref q], a, h) = if mis h q 6 = true then Bk 188 18 [x0, x1, x2, x3, x4] [] (Ec 124 [.ref q, v0] a h) else none := Rn_call1 c188_15 rfl (Nat.le_of_ble_eq_true rfl) rfl rfl (Nat.le_of_ble_eq_true rfl)
theorem c188_18 : mcode 188 18 = some (.ireturn, 1, 0, 0, 0) := rfl
theorem r188_18 : Rn 188 (18, [x0, x1, x2, x3, x4], [.int i], a, h) = some (some (.int i), a, h) := Rn_ireti c188_18
theorem c188_19 : mcode 188 19 = some (.aload_n 0, 1, 0, 0, 0) := rfl
theorem r188_19 : Rn 188 (19, [some (.ref q), x1, x2, x3, x4], st, a, h) = Rn 188 (20, [some (.ref q), x1, x2, x3, x4], .ref q :: st, a, h) := Rn_go c188_19 rfl
theorem c188_20 : mcode 188 20 = some (.getfield 7, 3, 6, 0, 0) := rfl
theorem r188_20 : Rn 188 (20, [x0, x1, x2, x3, x4], .ref q :: st, a, h) = Kv 188 23 [x0, x1, x2, x3, x4] st a h (mgf h q 6 0) := Rn_getf c188_20 rfl
theorem c188_23 : mcode 188 23 = some (.iconst 1, 1, 0, 0, 0) := rfl
theorem r188_23 : Rn 188 (23, [x0, x1, x2, x3, x4], st, a, h) = Rn 188 (24, [x0, x1, x2, x3, x4], .int (1 : Int32) :: st, a, h) := Rn_go c188_23 rfl
theorem c188_24 : mcode 188 24 = some (.iaload, 1, 0, 0, 0) := rfl
theorem r188_24 : Rn 188 (24, [x0, x1, x2, x3, x4], .int i :: .ref q :: st, a, h) = Ki 188 25 [x0, x1, x2, x3, x4] st a h (mld h q i false) := Rn_iald c188_24 rfl
theorem c188_25 : mcode 188 25 = some (.iload_n 1, 1, 0, 0, 0) := rfl
theorem r188_25 : Rn 188 (25, [x0, some (.int i), x2, x3, x4], st, a, h) = Rn 188 (26, [x0, some (.int i), x2, x3, x4], .int i :: st, a, h) := Rn_go c188_25 rfl
theorem c188_26 : mcode 188 26 = some (.iadd, 1, 0, 0, 0) := rfl
theorem r188_26 : Rn 188 (26, [x0, x1, x2, x3, x4], .int j :: .int i :: st, a, h) = Rn 188 (27, [x0, x1, x2, x3, x4], .int (i + j) :: st, a, h) := Rn_go c188_26 rfl
theorem c188_27 : mcode 188 27 = some (.ldc 136, 2, 0, 0, 99999) := rfl
theorem r188_27 : Rn 188 (27, [x0, x1, x2, x3, x4], st, a, h) = Rn 188 (29, [x0, x1, x2, x3, x4], .int (99999 : Int32) :: st, a, h) := Rn_go c188_27 rfl
theorem c188_29 : mcode 188 29 = some (.if_icmp .le 10, 3, 0, 0, 0) := rfl
theorem r188_29 : Rn 188 (29, [x0, x1, x2, x3, x4], .int j :: .int i :: st, a, h) = if j < i then Rn 188 (32, [x0, x1, x2, x3, x4], st, a, h) else Rn 188 (39, [x0, x1, x2, x3, x4], st, a, h) := Rn_icmpn c188_29 mc_le rfl rfl
theorem c188_32 : mcode 188 32 = some (.aload_n 0, 1, 0, 0, 0) := rfl
theorem r188_32 : Rn 188 (32, [some (.ref q), x1, x2, x3, x4], st, a, h) = Rn 188 (33, [some (.ref q), x1, x2, x3, x4], .ref q :: st, a, h) := Rn_go c188_32 rfl
theorem c188_33 : mcode 188 33 = some (.ldc 137, 2, 0, 0, -1000005) := rfl
theorem r188_33 : Rn 188 (33, [x0, x1, x2, x3, x4], st, a, h) = Rn 188 (35, [x0, x1, x2, x3, x4], .int (-1000005 : Int32) :: st, a, h) := Rn_go c188_33 rfl
theorem c188_35 : mcode 188 35 = some (.invokevirtual 39, 3, 124, 1, 6) := rfl
theorem r188_35 : Rn 188 (35, [x0, x1, x2, x3, x4], [v0, .ref q], a, h) = if mis h q 6 = true then Bk 188 38 [x0, x1, x2, x3, x4] [] (Ec 124 [.ref q, v0] a h) else none := Rn_call1 c188_35 rfl (Nat.le_of_ble_eq_true rfl) rfl rfl (Nat.le_of_ble_eq_true rfl)
theorem c188_38 : mcode 188 38 = some (.ireturn, 1, 0, 0, 0) := rfl
theorem r188_38 : Rn 188 (38, [x0, x1, x2, x3, x4], [.int i], a, h) = some (some (.int i), a, h) := Rn_ireti c188_38
theorem c188_39 : mcode 188 39 = some (.iconst 0, 1, 0, 0, 0) := rfl
theorem r188_39 : Rn 188 (39, [x0, x1, x2, x3, x4], st, a, h) = Rn 188 (40, [x0, x1, x2, x3, x4], .int (0 : Int32) :: st, a, h) := Rn_go c188_39 rfl
theorem c188_40 : mcode 188 40 = some (.istore_n 2, 1, 0, 0, 0) := rfl
theorem r188_40 : Rn 188 (40, [x0, x1, x2, x3, x4], .int i :: st, a, h) = Nl x1 (Rn 188 (41, [x0, x1, some (.int i), x3, x4], st, a, h)) := Rn_st1 (k := 2) (v := .int i) x1 c188_40 rfl rfl rfl rfl
theorem c188_41 : mcode 188 41 = some (.iload_n 2, 1, 0, 0, 0) := rfl
theorem r188_41 : Rn 188 (41, [x0, x1, some (.int i), x3, x4], st, a, h) = Rn 188 (42, [x0, x1, some (.int i), x3, x4], .int i :: st, a, h) := Rn_go c188_41 rfl
theorem c188_42 : mcode 188 42 = some (.iload_n 1, 1, 0, 0, 0) := rfl
theorem r188_42 : Rn 188 (42, [x0, some (.int i), x2, x3, x4], st, a, h) = Rn 188 (43, [x0, some (.int i), x2, x3, x4], .int i :: st, a, h) := Rn_go c188_42 rfl
theorem c188_43 : mcode 188 43 = some (.if_icmp .ge 44, 3, 0, 0, 0) := rfl
theorem r188_43 : Rn 188 (43, [x0, x1, x2, x3, x4], .int j :: .int i :: st, a, h) = if i < j then Rn 188 (46, [x0, x1, x2, x3, x4], st, a, h) else Rn 188 (87, [x0, x1, x2, x3, x4], st, a, h) := Rn_icmpn c188_43 mc_ge rfl rfl
theorem c188_46 : mcode 188 46 = some (.aload_n 0, 1, 0, 0, 0) := rfl
theorem r188_46 : Rn 188 (46, [some (.ref q), x1, x2, x3, x4], st, a, h) = Rn 188 (47, [some (.ref q), x1, x2, x3, x4], .ref q :: st, a, h) := Rn_go c188_46 rfl
theorem c188_47 : mcode 188 47 = some (.invokevirtual 206, 3, 187, 0, 6) := rfl
theorem r188_47 : Rn 188 (47, [x0, x1, x2, x3, x4], [.ref q], a, h) = if mis h q 6 = true then Bk 188 50 [x0, x1, x2, x3, x4] [] (Ec 187 [.ref q] a h) else none := Rn_call1 c188_47 rfl (Nat.le_of_ble_eq_true rfl) rfl rfl (Nat.le_of_ble_eq_true rfl)
theorem c188_50 : mcode 188 50 = some (.bipush 8, 2, 0, 0, 0) := rfl
theorem r188_50 : Rn 188 (50, [x0, x1, x2, x3, x4], st, a, h) = Rn 188 (52, [x0, x1, x2, x3, x4], .int (8 : Int32) :: st, a, h) := Rn_go c188_50 rfl
theorem c188_52 : mcode 188 52 = some (.irem, 1, 0, 0, 0) := rfl
theorem r188_52 : Rn 188 (52, [x0, x1, x2, x3, x4], .int j :: .int i :: st, a, h) = if j = 0 then none else Rn 188 (53, [x0, x1, x2, x3, x4], .int (i % j) :: st, a, h) := Rn_irem c188_52 rfl
theorem c188_53 : mcode 188 53 = some (.istore_n 3, 1, 0, 0, 0) := rfl
theorem r188_53 : Rn 188 (53, [x0, x1, x2, x3, x4], .int i :: st, a, h) = Nl x2 (Rn 188 (54, [x0, x1, x2, some (.int i), x4], st, a, h)) := Rn_st1 (k := 3) (v := .int i) x2 c188_53 rfl rfl rfl rfl
theorem c188_54 : mcode 188 54 = some (.aload_n 0, 1, 0, 0, 0) := rfl
theorem r188_54 : Rn 188 (54, [some (.ref q), x1, x2, x3, x4], st, a, h) = Rn 188 (55, [some (.ref q), x1, x2, x3, x4], .ref q :: st, a, h) := Rn_go c188_54 rfl
theorem c188_55 : mcode 188 55 = some (.invokevirtual 206, 3, 187, 0, 6) := rfl
theorem r188_55 : Rn 188 (55, [x0, x1, x2, x3, x4], [.ref q], a, h) = if mis h q 6 = true then Bk 188 58 [x0, x1, x2, x3, x4] [] (Ec 187 [.ref q] a h) else none := Rn_call1 c188_55 rfl (Nat.le_of_ble_eq_true rfl) rfl rfl (Nat.le_of_ble_eq_true rfl)
theorem c188_58 : mcode 188 58 = some (.bipush 8, 2, 0, 0, 0) := rfl
theorem r188_58 : Rn 188 (58, [x0, x1, x2, x3, x4], st, a, h) = Rn 188 (60, [x0, x1, x2, x3, x4], .int (8 : Int32) :: st, a, h) := Rn_go c188_58 rfl
theorem c188_60 : mcode 188 60 = some (.irem, 1, 0, 0, 0) := rfl
theorem r188_60 : Rn 188 (60, [x0, x1, x2, x3, x4], .int j :: .int i :: st, a, h) = if j = 0 then none else Rn 188 (61, [x0, x1, x2, x3, x4], .int (i % j) :: st, a, h) := Rn_irem c188_60 rfl
theorem c188_61 : mcode 188 61 = some (.istore 4, 2, 0, 0, 0) := rfl
theorem r188_61 : Rn 188 (61, [x0, x1, x2, x3, x4], .int i :: st, a, h) = Nl x3 (Rn 188 (63, [x0, x1, x2, x3, some (.int i)], st, a, h)) := Rn_st1 (k := 4) (v := .int i) x3 c188_61 rfl rfl rfl rfl
theorem c188_63 : mcode 188 63 = some (.iload_n 3, 1, 0, 0, 0) := rfl
theorem r188_63 : Rn 188 (63, [x0, x1, x2, some (.int i), x4], st, a, h) = Rn 188 (64, [x0, x1, x2, some (.int i), x4], .int i :: st, a, h) := Rn_go c188_63 rfl
theorem c188_64 : mcode 188 64 = some (.iload 4, 2, 0, 0, 0) := rfl
theorem r188_64 : Rn 188 (64, [x0, x1, x2, x3, some (.int i)], st, a, h) = Rn 188 (66, [x0, x1, x2, x3, some (.int i)], .int i :: st, a, h) := Rn_go c188_64 rfl
theorem c188_66 : mcode 188 66 = some (.if_icmp .eq 10, 3, 0, 0, 0) := rfl
theorem r188_66 : Rn 188 (66, [x0, x1, x2, x3, x4], .int j :: .int i :: st, a, h) = if i = j then Rn 188 (76, [x0, x1, x2, x3, x4], st, a, h) else Rn 188 (69, [x0, x1, x2, x3, x4], st, a, h) := Rn_icmp c188_66 mc_eq rfl rfl
theorem c188_69 : mcode 188 69 = some (.aload_n 0, 1, 0, 0, 0) := rfl
theorem r188_69 : Rn 188 (69, [some (.ref q), x1, x2, x3, x4], st, a, h) = Rn 188 (70, [some (.ref q), x1, x2, x3, x4], .ref q :: st, a, h) := Rn_go c188_69 rfl
theorem c188_70 : mcode 188 70 = some (.iload_n 3, 1, 0, 0, 0) := rfl
theorem r188_70 : Rn 188 (70, [x0, x1, x2, some (.int i), x4], st, a, h) = Rn 188 (71, [x0, x1, x2, some (.int i), x4], .int i :: st, a, h) := Rn_go c188_70 rfl
theorem c188_71 : mcode 188 71 = some (.iload 4, 2, 0, 0, 0) := rfl
theorem r188_71 : Rn 188 (71, [x0, x1, x2, x3, some (.int i)], st, a, h) = Rn 188 (73, [x0, x1, x2, x3, some (.int i)], .int i :: st, a, h) := Rn_go c188_71 rfl
theorem c188_73 : mcode 188 73 = some (.invokevirtual 82, 3, 143, 2, 6) := rfl
theorem r188_73 : Rn 188 (73, [x0, x1, x2, x3, x4], [v1, v0, .ref q], a, h) = if mis h q 6 = true then Bk 188 76 [x0, x1, x2, x3, x4] [] (Ec 143 [.ref q, v0, v1] a h) else none := Rn_call1 c188_73 rfl (Nat.le_of_ble_eq_true rfl) rfl rfl (Nat.le_of_ble_eq_true rfl)
theorem c188_76 : mcode 188 76 = some (.aload_n 0, 1, 0, 0, 0) := rfl
theorem r188_76 : Rn 188 (76, [some (.ref q), x1, x2, x3, x4], st, a, h) = Rn 188 (77, [some (.ref q), x1, x2, x3, x4], .ref q :: st, a, h) := Rn_go c188_76 rfl
theorem c188_77 : mcode 188 77 = some (.iconst 0, 1, 0, 0, 0) := rfl
theorem r188_77 : Rn 188 (77, [x0, x1, x2, x3, x4], st, a, h) = Rn 188 (78, [x0, x1, x2, x3, x4], .int (0 : Int32) :: st, a, h) := Rn_go c188_77 rfl
theorem c188_78 : mcode 188 78 = some (.invokevirtual 131, 3, 157, 1, 6) := rfl
theorem r188_78 : Rn 188 (78, [x0, x1, x2, x3, x4], [v0, .ref q], a, h) = if mis h q 6 = true then Bk 188 81 [x0, x1, x2, x3, x4] [] (Ec 157 [.ref q, v0] a h) else none := Rn_call1 c188_78 rfl (Nat.le_of_ble_eq_true rfl) rfl rfl (Nat.le_of_ble_eq_true rfl)
theorem c188_81 : mcode 188 81 = some (.iinc 2 1, 3, 0, 0, 0) := rfl
theorem r188_81 : Rn 188 (81, [x0, x1, some (.int i), x3, x4], st, a, h) = Nl x1 (Rn 188 (84, [x0, x1, some (.int (i + (1 : Int32))), x3, x4], st, a, h)) := Rn_st1 (k := 2) (v := .int (i + (1 : Int32))) x1 c188_81 rfl rfl rfl rfl
theorem c188_84 : mcode 188 84 = some (.goto (-43), 3, 0, 0, 0) := rfl
theorem r188_84 : Rn 188 (84, [x0, x1, x2, x3, x4], st, a, h) = Rn 188 (41, [x0, x1, x2, x3, x4], st, a, h) := Rn_goto c188_84 rfl
theorem c188_87 : mcode 188 87 = some (.aload_n 0, 1, 0, 0, 0) := rfl
theorem r188_87 : Rn 188 (87, [some (.ref q), x1, x2, x3, x4], st, a, h) = Rn 188 (88, [some (.ref q), x1, x2, x3, x4], .ref q :: st, a, h) := Rn_go c188_87 rfl
theorem c188_88 : mcode 188 88 = some (.iconst 5, 1, 0, 0, 0) := rfl
theorem r188_88 : Rn 188 (88, [x0, x1, x2, x3, x4], st, a, h) = Rn 188 (89, [x0, x1, x2, x3, x4], .int (5 : Int32) :: st, a, h) := Rn_go c188_88 rfl
theorem c188_89 : mcode 188 89 = some (.invokevirtual 148, 3, 160, 1, 6) := rfl
theorem r188_89 : Rn 188 (89, [x0, x1, x2, x3, x4], [v0, .ref q], a, h) = if mis h q 6 = true then Bk 188 92 [x0, x1, x2, x3, x4] [] (Ec 160 [.ref q, v0] a h) else none := Rn_call1 c188_89 rfl (Nat.le_of_ble_eq_true rfl) rfl rfl (Nat.le_of_ble_eq_true rfl)
theorem c188_92 : mcode 188 92 = some (.ireturn, 1, 0, 0, 0) := rfl
theorem r188_92 : Rn 188 (92, [x0, x1, x2, x3, x4], [.int i], a, h) = some (some (.int i), a, h) := Rn_ireti c188_92
theorem c189_0 : mcode 189 0 = some (.iload_n 1, 1, 0, 0, 0) := rfl
theorem r189_0 : Rn 189 (0, [x0, some (.int i), x2, x3, x4, x5, x6, x7, x8], st, a, h) = Rn 189 (1, [x0, some (.int i), x2, x3, x4, x5, x6, x7, x8], .int i :: st, a, h) := Rn_go c189_0 rfl
theorem c189_1 : mcode 189 1 = some (.i2l, 1, 0, 0, 0) := rfl
theorem r189_1 : Rn 189 (1, [x0, x1, x2, x3, x4, x5, x6, x7, x8], .int i :: st, a, h) = Rn 189 (2, [x0, x1, x2, x3, x4, x5, x6, x7, x8], .long i.toInt64 :: st, a, h) := Rn_go c189_1 rfl
theorem c189_2 : mcode 189 2 = some (.lconst 0, 1, 0, 0, 0) := rfl
theorem r189_2 : Rn 189 (2, [x0, x1, x2, x3, x4, x5, x6, x7, x8], st, a, h) = Rn 189 (3, [x0, x1, x2, x3, x4, x5, x6, x7, x8], .long (0 : Int64) :: st, a, h) := Rn_go c189_2 rfl
theorem c189_3 : mcode 189 3 = some (.ldc2_w 181, 3, 0, 0, 20) := rfl
theorem r189_3 : Rn 189 (3, [x0, x1, x2, x3, x4, x5, x6, x7, x8], st, a, h) = Rn 189 (6, [x0, x1, x2, x3, x4, x5, x6, x7, x8], .long (20 : Int64) :: st, a, h) := Rn_go c189_3 rfl
theorem c189_6 : mcode 189 6 = some (.invokestatic 52, 3, 123, 3, 0) := rfl
theorem r189_6 : Rn 189 (6, [x0, x1, x2, x3, x4, x5, x6, x7, x8], [v2, v1, v0], a, h) = Bk 189 9 [x0, x1, x2, x3, x4, x5, x6, x7, x8] [] (Ec 123 [v0, v1, v2] a h) := Rn_call0 c189_6 (fun z => nomatch z) rfl (Nat.le_of_ble_eq_true rfl) rfl rfl (Nat.le_of_ble_eq_true rfl)
theorem c189_9 : mcode 189 9 = some (.ifCond .eq 13, 3, 0, 0, 0) := rfl
theorem r189_9 : Rn 189 (9, [x0, x1, x2, x3, x4, x5, x6, x7, x8], .int i :: st, a, h) = if i = 0 then Rn 189 (22, [x0, x1, x2, x3, x4, x5, x6, x7, x8], st, a, h) else Rn 189 (12, [x0, x1, x2, x3, x4, x5, x6, x7, x8], st, a, h) := Rn_ifc c189_9 mc_eq rfl rfl
theorem c189_12 : mcode 189 12 = some (.iload_n 2, 1, 0, 0, 0) := rfl
theorem r189_12 : Rn 189 (12, [x0, x1, some (.int i), x3, x4, x5, x6, x7, x8], st, a, h) = Rn 189 (13, [x0, x1, some (.int i), x3, x4, x5, x6, x7, x8], .int i :: st, a, h) := Rn_go c189_12 rfl
theorem c189_13 : mcode 189 13 = some (.i2l, 1, 0, 0, 0) := rfl
theorem r189_13 : Rn 189 (13, [x0, x1, x2, x3, x4, x5, x6, x7, x8], .int i :: st, a, h) = Rn 189 (14, [x0, x1, x2, x3, x4, x5, x6, x7, x8], .long i.toInt64 :: st, a, h) := Rn_go c189_13 rfl
theorem c189_14 : mcode 189 14 = some (.lconst 0, 1, 0, 0, 0) := rfl
theorem r189_14 : Rn 189 (14, [x0, x1, x2, x3, x4, x5, x6, x7, x8], st, a, h) = Rn 189 (15, [x0, x1, x2, x3, x4, x5, x6, x7, x8], .long (0 : Int64) :: st, a, h) := Rn_go c189_14 rfl
theorem c189_15 : mcode 189 15 = some (.lconst 1, 1, 0, 0, 0) := rfl
theorem r189_15 : Rn 189 (15, [x0, x1, x2, x3, x4, x5, x6, x7, x8], st, a, h) = Rn 189 (16, [x0, x1, x2, x3, x4, x5, x6, x7, x8], .long (1 : Int64) :: st, a, h) := Rn_go c189_15 rfl
theorem c189_16 : mcode 189 16 = some (.invokestatic 52, 3, 123, 3, 0) := rfl
theorem r189_16 : Rn 189 (16, [x0, x1, x2, x3, x4, x5, x6, x7, x8], [v2, v1, v0], a, h) = Bk 189 19 [x0, x1, x2, x3, x4, x5, x6, x7, x8] [] (Ec 123 [v0, v1, v2] a h) := Rn_call0 c189_16 (fun z => nomatch z) rfl (Nat.le_of_ble_eq_true rfl) rfl rfl (Nat.le_of_ble_eq_true rfl)
theorem c189_19 : mcode 189 19 = some (.ifCond .ne 11, 3, 0, 0, 0) := rfl
theorem r189_19 : Rn 189 (19, [x0, x1, x2, x3, x4, x5, x6, x7, x8], .int i :: st, a, h) = if i = 0 then Rn 189 (22, [x0, x1, x2, x3, x4, x5, x6, x7, x8], st, a, h) else Rn 189 (30, [x0, x1, x2, x3, x4, x5, x6, x7, x8], st, a, h) := Rn_ifcn c189_19 mc_ne rfl rfl
theorem c189_22 : mcode 189 22 = some (.aload_n 0, 1, 0, 0, 0) := rfl
theorem r189_22 : Rn 189 (22, [some (.ref q), x1, x2, x3, x4, x5, x6, x7, x8], st, a, h) = Rn 189 (23, [some (.ref q), x1, x2, x3, x4, x5, x6, x7, x8], .ref q :: st, a, h) := Rn_go c189_22 rfl
theorem c189_23 : mcode 189 23 = some (.ldc 37, 2, 0, 0, -1000001) := rfl
theorem r189_23 : Rn 189 (23, [x0, x1, x2, x3, x4, x5, x6, x7, x8], st, a, h) = Rn 189 (25, [x0, x1, x2, x3, x4, x5, x6, x7, x8], .int (-1000001 : Int32) :: st, a, h) := Rn_go c189_23 rfl
theorem c189_25 : mcode 189 25 = some (.invokevirtual 39, 3, 124, 1, 6) := rfl
theorem r189_25 : Rn 189 (25, [x0, x1, x2, x3, x4, x5, x6, x7, x8], [v0, .ref q], a, h) = if mis h q 6 = true then Bk 189 28 [x0, x1, x2, x3, x4, x5, x6, x7, x8] [] (Ec 124 [.ref q, v0] a h) else none := Rn_call1 c189_25 rfl (Nat.le_of_ble_eq_true rfl) rfl rfl (Nat.le_of_ble_eq_true rfl)
theorem c189_28 : mcode 189 28 = some (.i2l, 1, 0, 0, 0) := rfl
theorem r189_28 : Rn 189 (28, [x0, x1, x2, x3, x4, x5, x6, x7, x8], .int i :: st, a, h) = Rn 189 (29, [x0, x1, x2, x3, x4, x5, x6, x7, x8], .long i.toInt64 :: st, a, h) := Rn_go c189_28 rfl
theorem c189_29 : mcode 189 29 = some (.lreturn, 1, 0, 0, 0) := rfl
theorem r189_29 : Rn 189 (29, [x0, x1, x2, x3, x4, x5, x6, x7, x8], [.long l], a, h) = some (some (.long l), a, h) := Rn_act c189_29
theorem c189_30 : mcode 189 30 = some (.lconst 1, 1, 0, 0, 0) := rfl
theorem r189_30 : Rn 189 (30, [x0, x1, x2, x3, x4, x5, x6, x7, x8], st, a, h) = Rn 189 (31, [x0, x1, x2, x3, x4, x5, x6, x7, x8], .long (1 : Int64) :: st, a, h) := Rn_go c189_30 rfl
theorem c189_31 : mcode 189 31 = some (.lstore_n 3, 1, 0, 0, 0) := rfl
theorem r189_31 : Rn 189 (31, [x0, x1, x2, x3, x4, x5, x6, x7, x8], .long l :: st, a, h) = Nl x2 (Rn 189 (32, [x0, x1, x2, some (.long l), none, x5, x6, x7, x8], st, a, h)) := Rn_st2 (k := 3) (v := .long l) x2 c189_31 rfl rfl rfl rfl
theorem c189_32 : mcode 189 32 = some (.lconst 1, 1, 0, 0, 0) := rfl
theorem r189_32 : Rn 189 (32, [x0, x1, x2, x3, x4, x5, x6, x7, x8], st, a, h) = Rn 189 (33, [x0, x1, x2, x3, x4, x5, x6, x7, x8], .long (1 : Int64) :: st, a, h) := Rn_go c189_32 rfl
theorem c189_33 : mcode 189 33 = some (.lstore 5, 2, 0, 0, 0) := rfl
theorem r189_33 : Rn 189 (33, [x0, x1, x2, x3, x4, x5, x6, x7, x8], .long l :: st, a, h) = Nl x4 (Rn 189 (35, [x0, x1, x2, x3, x4, some (.long l), none, x7, x8], st, a, h)) := Rn_st2 (k := 5) (v := .long l) x4 c189_33 rfl rfl rfl rfl
theorem c189_35 : mcode 189 35 = some (.aload_n 0, 1, 0, 0, 0) := rfl
theorem r189_35 : Rn 189 (35, [some (.ref q), x1, x2, x3, x4, x5, x6, x7, x8], st, a, h) = Rn 189 (36, [some (.ref q), x1, x2, x3, x4, x5, x6, x7, x8], .ref q :: st, a, h) := Rn_go c189_35 rfl
theorem c189_36 : mcode 189 36 = some (.invokevirtual 151, 3, 163, 0, 6) := rfl
theorem r189_36 : Rn 189 (36, [x0, x1, x2, x3, x4, x5, x6, x7, x8], [.ref q], a, h) = if mis h q 6 = true then Bk 189 39 [x0, x1, x2, x3, x4, x5, x6, x7, x8] [] (Ec 163 [.ref q] a h) else none := Rn_call1 c189_36 rfl (Nat.le_of_ble_eq_true rfl) rfl rfl (Nat.le_of_ble_eq_true rfl)
theorem c189_39 : mcode 189 39 = some (.invokestatic 86, 3, 136, 1, 0) := rfl
theorem r189_39 : Rn 189 (39, [x0, x1, x2, x3, x4, x5, x6, x7, x8], [v0], a, h) = Bk 189 42 [x0, x1, x2, x3, x4, x5, x6, x7, x8] [] (Ec 136 [v0] a h) := Rn_call0 c189_39 (fun z => nomatch z) rfl (Nat.le_of_ble_eq_true rfl) rfl rfl (Nat.le_of_ble_eq_true rfl)
theorem c189_42 : mcode 189 42 = some (.istore 7, 2, 0, 0, 0) := rfl
theorem r189_42 : Rn 189 (42, [x0, x1, x2, x3, x4, x5, x6, x7, x8], .int i :: st, a, h) = Nl x6 (Rn 189 (44, [x0, x1, x2, x3, x4, x5, x6, some (.int i), x8], st, a, h)) := Rn_st1 (k := 7) (v := .int i) x6 c189_42 rfl rfl rfl rfl
theorem c189_44 : mcode 189 44 = some (.iconst 0, 1, 0, 0, 0) := rfl
theorem r189_44 : Rn 189 (44, [x0, x1, x2, x3, x4, x5, x6, x7, x8], st, a, h) = Rn 189 (45, [x0, x1, x2, x3, x4, x5, x6, x7, x8], .int (0 : Int32) :: st, a, h) := Rn_go c189_44 rfl
theorem c189_45 : mcode 189 45 = some (.istore 8, 2, 0, 0, 0) := rfl
theorem r189_45 : Rn 189 (45, [x0, x1, x2, x3, x4, x5, x6, x7, x8], .int i :: st, a, h) = Nl x7 (Rn 189 (47, [x0, x1, x2, x3, x4, x5, x6, x7, some (.int i)], st, a, h)) := Rn_st1 (k := 8) (v := .int i) x7 c189_45 rfl rfl rfl rfl
theorem c189_47 : mcode 189 47 = some (.iload 8, 2, 0, 0, 0) := rfl
theorem r189_47 : Rn 189 (47, [x0, x1, x2, x3, x4, x5, x6, x7, some (.int i)], st, a, h) = Rn 189 (49, [x0, x1, x2, x3, x4, x5, x6, x7, some (.int i)], .int i :: st, a, h) := Rn_go c189_47 rfl
theorem c189_49 : mcode 189 49 = some (.iload_n 1, 1, 0, 0, 0) := rfl
theorem r189_49 : Rn 189 (49, [x0, some (.int i), x2, x3, x4, x5, x6, x7, x8], st, a, h) = Rn 189 (50, [x0, some (.int i), x2, x3, x4, x5, x6, x7, x8], .int i :: st, a, h) := Rn_go c189_49 rfl
theorem c189_50 : mcode 189 50 = some (.if_icmp .ge 23, 3, 0, 0, 0) := rfl
theorem r189_50 : Rn 189 (50, [x0, x1, x2, x3, x4, x5, x6, x7, x8], .int j :: .int i :: st, a, h) = if i < j then Rn 189 (53, [x0, x1, x2, x3, x4, x5, x6, x7, x8], st, a, h) else Rn 189 (73, [x0, x1, x2, x3, x4, x5, x6, x7, x8], st, a, h) := Rn_icmpn c189_50 mc_ge rfl rfl
theorem c189_53 : mcode 189 53 = some (.lload_n 3, 1, 0, 0, 0) := rfl
theorem r189_53 : Rn 189 (53, [x0, x1, x2, some (.long l), x4, x5, x6, x7, x8], st, a, h) = Rn 189 (54, [x0, x1, x2, some (.long l), x4, x5, x6, x7, x8], .long l :: st, a, h) := Rn_go c189_53 rfl
theorem c189_54 : mcode 189 54 = some (.iload 7, 2, 0, 0, 0) := rfl
theorem r189_54 : Rn 189 (54, [x0, x1, x2, x3, x4, x5, x6, some (.int i), x8], st, a, h) = Rn 189 (56, [x0, x1, x2, x3, x4, x5, x6, some (.int i), x8], .int i :: st, a, h) := Rn_go c189_54 rfl
theorem c189_56 : mcode 189 56 = some (.i2l, 1, 0, 0, 0) := rfl
theorem r189_56 : Rn 189 (56, [x0, x1, x2, x3, x4, x5, x6, x7, x8], .int i :: st, a, h) = Rn 189 (57, [x0, x1, x2, x3, x4, x5, x6, x7, x8], .long i.toInt64 :: st, a, h) := Rn_go c189_56 rfl
theorem c189_57 : mcode 189 57 = some (.lmul, 1, 0, 0, 0) := rfl
theorem r189_57 : Rn 189 (57, [x0, x1, x2, x3, x4, x5, x6, x7, x8], .long m :: .long l :: st, a, h) = Rn 189 (58, [x0, x1, x2, x3, x4, x5, x6, x7, x8], .long (l * m) :: st, a, h) := Rn_go c189_57 rfl
theorem c189_58 : mcode 189 58 = some (.lstore_n 3, 1, 0, 0, 0) := rfl
theorem r189_58 : Rn 189 (58, [x0, x1, x2, x3, x4, x5, x6, x7, x8], .long l :: st, a, h) = Nl x2 (Rn 189 (59, [x0, x1, x2, some (.long l), none, x5, x6, x7, x8], st, a, h)) := Rn_st2 (k := 3) (v := .long l) x2 c189_58 rfl rfl rfl rfl
theorem c189_59 : mcode 189 59 = some (.lload 5, 2, 0, 0, 0) := rfl
theorem r189_59 : Rn 189 (59, [x0, x1, x2, x3, x4, some (.long l), x6, x7, x8], st, a, h) = Rn 189 (61, [x0, x1, x2, x3, x4, some (.long l), x6, x7, x8], .long l :: st, a, h) := Rn_go c189_59 rfl
theorem c189_61 : mcode 189 61 = some (.ldc2_w 101, 3, 0, 0, 8) := rfl
theorem r189_61 : Rn 189 (61, [x0, x1, x2, x3, x4, x5, x6, x7, x8], st, a, h) = Rn 189 (64, [x0, x1, x2, x3, x4, x5, x6, x7, x8], .long (8 : Int64) :: st, a, h) := Rn_go c189_61 rfl
theorem c189_64 : mcode 189 64 = some (.lmul, 1, 0, 0, 0) := rfl
theorem r189_64 : Rn 189 (64, [x0, x1, x2, x3, x4, x5, x6, x7, x8], .long m :: .long l :: st, a, h) = Rn 189 (65, [x0, x1, x2, x3, x4, x5, x6, x7, x8], .long (l * m) :: st, a, h) := Rn_go c189_64 rfl
theorem c189_65 : mcode 189 65 = some (.lstore 5, 2, 0, 0, 0) := rfl
theorem r189_65 : Rn 189 (65, [x0, x1, x2, x3, x4, x5, x6, x7, x8], .long l :: st, a, h) = Nl x4 (Rn 189 (67, [x0, x1, x2, x3, x4, some (.long l), none, x7, x8], st, a, h)) := Rn_st2 (k := 5) (v := .long l) x4 c189_65 rfl rfl rfl rfl
theorem c189_67 : mcode 189 67 = some (.iinc 8 1, 3, 0, 0, 0) := rfl
theorem r189_67 : Rn 189 (67, [x0, x1, x2, x3, x4, x5, x6, x7, some (.int i)], st, a, h) = Nl x7 (Rn 189 (70, [x0, x1, x2, x3, x4, x5, x6, x7, some (.int (i + (1 : Int32)))], st, a, h)) := Rn_st1 (k := 8) (v := .int (i + (1 : Int32))) x7 c189_67 rfl rfl rfl rfl
theorem c189_70 : mcode 189 70 = some (.goto (-23), 3, 0, 0, 0) := rfl
theorem r189_70 : Rn 189 (70, [x0, x1, x2, x3, x4, x5, x6, x7, x8], st, a, h) = Rn 189 (47, [x0, x1, x2, x3, x4, x5, x6, x7, x8], st, a, h) := Rn_goto c189_70 rfl
theorem c189_73 : mcode 189 73 = some (.lload_n 3, 1, 0, 0, 0) := rfl
theorem r189_73 : Rn 189 (73, [x0, x1, x2, some (.long l), x4, x5, x6, x7, x8], st, a, h) = Rn 189 (74, [x0, x1, x2, some (.long l), x4, x5, x6, x7, x8], .long l :: st, a, h) := Rn_go c189_73 rfl
theorem c189_74 : mcode 189 74 = some (.lconst 0, 1, 0, 0, 0) := rfl
theorem r189_74 : Rn 189 (74, [x0, x1, x2, x3, x4, x5, x6, x7, x8], st, a, h) = Rn 189 (75, [x0, x1, x2, x3, x4, x5, x6, x7, x8], .long (0 : Int64) :: st, a, h) := Rn_go c189_74 rfl
theorem c189_75 : mcode 189 75 = some (.lcmp, 1, 0, 0, 0) := rfl
theorem r189_75 : Rn 189 (75, [x0, x1, x2, x3, x4, x5, x6, x7, x8], .long m :: .long l :: st, a, h) = Rn 189 (76, [x0, x1, x2, x3, x4, x5, x6, x7, x8], .int (if l < m then -1 else if l = m then 0 else 1) :: st, a, h) := Rn_go c189_75 rfl
theorem c189_76 : mcode 189 76 = some (.ifCond .ne 7, 3, 0, 0, 0) := rfl
theorem r189_76 : Rn 189 (76, [x0, x1, x2, x3, x4, x5, x6, x7, x8], .int i :: st, a, h) = if i = 0 then Rn 189 (79, [x0, x1, x2, x3, x4, x5, x6, x7, x8], st, a, h) else Rn 189 (83, [x0, x1, x2, x3, x4, x5, x6, x7, x8], st, a, h) := Rn_ifcn c189_76 mc_ne rfl rfl
theorem c189_79 : mcode 189 79 = some (.lconst 1, 1, 0, 0, 0) := rfl
theorem r189_79 : Rn 189 (79, [x0, x1, x2, x3, x4, x5, x6, x7, x8], st, a, h) = Rn 189 (80, [x0, x1, x2, x3, x4, x5, x6, x7, x8], .long (1 : Int64) :: st, a, h) := Rn_go c189_79 rfl
theorem c189_80 : mcode 189 80 = some (.goto 5, 3, 0, 0, 0) := rfl
theorem r189_80 : Rn 189 (80, [x0, x1, x2, x3, x4, x5, x6, x7, x8], st, a, h) = Rn 189 (85, [x0, x1, x2, x3, x4, x5, x6, x7, x8], st, a, h) := Rn_goto c189_80 rfl
theorem c189_83 : mcode 189 83 = some (.lload 5, 2, 0, 0, 0) := rfl
theorem r189_83 : Rn 189 (83, [x0, x1, x2, x3, x4, some (.long l), x6, x7, x8], st, a, h) = Rn 189 (85, [x0, x1, x2, x3, x4, some (.long l), x6, x7, x8], .long l :: st, a, h) := Rn_go c189_83 rfl
theorem c189_85 : mcode 189 85 = some (.lstore 5, 2, 0, 0, 0) := rfl
theorem r189_85 : Rn 189 (85, [x0, x1, x2, x3, x4, x5, x6, x7, x8], .long l :: st, a, h) = Nl x4 (Rn 189 (87, [x0, x1, x2, x3, x4, some (.long l), none, x7, x8], st, a, h)) := Rn_st2 (k := 5) (v := .long l) x4 c189_85 rfl rfl rfl rfl
theorem c189_87 : mcode 189 87 = some (.lload_n 3, 1, 0, 0, 0) := rfl
theorem r189_87 : Rn 189 (87, [x0, x1, x2, some (.long l), x4, x5, x6, x7, x8], st, a, h) = Rn 189 (88, [x0, x1, x2, some (.long l), x4, x5, x6, x7, x8], .long l :: st, a, h) := Rn_go c189_87 rfl
theorem c189_88 : mcode 189 88 = some (.ldc2_w 209, 3, 0, 0, 2) := rfl
theorem r189_88 : Rn 189 (88, [x0, x1, x2, x3, x4, x5, x6, x7, x8], st, a, h) = Rn 189 (91, [x0, x1, x2, x3, x4, x5, x6, x7, x8], .long (2 : Int64) :: st, a, h) := Rn_go c189_88 rfl
theorem c189_91 : mcode 189 91 = some (.lrem, 1, 0, 0, 0) := rfl
theorem r189_91 : Rn 189 (91, [x0, x1, x2, x3, x4, x5, x6, x7, x8], .long m :: .long l :: st, a, h) = if m = 0 then none else Rn 189 (92, [x0, x1, x2, x3, x4, x5, x6, x7, x8], .long (l % m) :: st, a, h) := Rn_lrem c189_91 rfl
theorem c189_92 : mcode 189 92 = some (.lconst 0, 1, 0, 0, 0) := rfl
theorem r189_92 : Rn 189 (92, [x0, x1, x2, x3, x4, x5, x6, x7, x8], st, a, h) = Rn 189 (93, [x0, x1, x2, x3, x4, x5, x6, x7, x8], .long (0 : Int64) :: st, a, h) := Rn_go c189_92 rfl
theorem c189_93 : mcode 189 93 = some (.lcmp, 1, 0, 0, 0) := rfl
theorem r189_93 : Rn 189 (93, [x0, x1, x2, x3, x4, x5, x6, x7, x8], .long m :: .long l :: st, a, h) = Rn 189 (94, [x0, x1, x2, x3, x4, x5, x6, x7, x8], .int (if l < m then -1 else if l = m then 0 else 1) :: st, a, h) := Rn_go c189_93 rfl
theorem c189_94 : mcode 189 94 = some (.ifCond .ne 31, 3, 0, 0, 0) := rfl
theorem r189_94 : Rn 189 (94, [x0, x1, x2, x3, x4, x5, x6, x7, x8], .int i :: st, a, h) = if i = 0 then Rn 189 (97, [x0, x1, x2, x3, x4, x5, x6, x7, x8], st, a, h) else Rn 189 (125, [x0, x1, x2, x3, x4, x5, x6, x7, x8], st, a, h) := Rn_ifcn c189_94 mc_ne rfl rfl
theorem c189_97 : mcode 189 97 = some (.lload 5, 2, 0, 0, 0) := rfl
theorem r189_97 : Rn 189 (97, [x0, x1, x2, x3, x4, some (.long l), x6, x7, x8], st, a, h) = Rn 189 (99, [x0, x1, x2, x3, x4, some (.long l), x6, x7, x8], .long l :: st, a, h) := Rn_go c189_97 rfl
theorem c189_99 : mcode 189 99 = some (.ldc2_w 209, 3, 0, 0, 2) := rfl
theorem r189_99 : Rn 189 (99, [x0, x1, x2, x3, x4, x5, x6, x7, x8], st, a, h) = Rn 189 (102, [x0, x1, x2, x3, x4, x5, x6, x7, x8], .long (2 : Int64) :: st, a, h) := Rn_go c189_99 rfl
theorem c189_102 : mcode 189 102 = some (.lrem, 1, 0, 0, 0) := rfl
theorem r189_102 : Rn 189 (102, [x0, x1, x2, x3, x4, x5, x6, x7, x8], .long m :: .long l :: st, a, h) = if m = 0 then none else Rn 189 (103, [x0, x1, x2, x3, x4, x5, x6, x7, x8], .long (l % m) :: st, a, h) := Rn_lrem c189_102 rfl
theorem c189_103 : mcode 189 103 = some (.lconst 0, 1, 0, 0, 0) := rfl
theorem r189_103 : Rn 189 (103, [x0, x1, x2, x3, x4, x5, x6, x7, x8], st, a, h) = Rn 189 (104, [x0, x1, x2, x3, x4, x5, x6, x7, x8], .long (0 : Int64) :: st, a, h) := Rn_go c189_103 rfl
theorem c189_104 : mcode 189 104 = some (.lcmp, 1, 0, 0, 0) := rfl
theorem r189_104 : Rn 189 (104, [x0, x1, x2, x3, x4, x5, x6, x7, x8], .long m :: .long l :: st, a, h) = Rn 189 (105, [x0, x1, x2, x3, x4, x5, x6, x7, x8], .int (if l < m then -1 else if l = m then 0 else 1) :: st, a, h) := Rn_go c189_104 rfl
theorem c189_105 : mcode 189 105 = some (.ifCond .ne 20, 3, 0, 0, 0) := rfl
theorem r189_105 : Rn 189 (105, [x0, x1, x2, x3, x4, x5, x6, x7, x8], .int i :: st, a, h) = if i = 0 then Rn 189 (108, [x0, x1, x2, x3, x4, x5, x6, x7, x8], st, a, h) else Rn 189 (125, [x0, x1, x2, x3, x4, x5, x6, x7, x8], st, a, h) := Rn_ifcn c189_105 mc_ne rfl rfl
theorem c189_108 : mcode 189 108 = some (.lload_n 3, 1, 0, 0, 0) := rfl
theorem r189_108 : Rn 189 (108, [x0, x1, x2, some (.long l), x4, x5, x6, x7, x8], st, a, h) = Rn 189 (109, [x0, x1, x2, some (.long l), x4, x5, x6, x7, x8], .long l :: st, a, h) := Rn_go c189_108 rfl
theorem c189_109 : mcode 189 109 = some (.ldc2_w 209, 3, 0, 0, 2) := rfl
theorem r189_109 : Rn 189 (109, [x0, x1, x2, x3, x4, x5, x6, x7, x8], st, a, h) = Rn 189 (112, [x0, x1, x2, x3, x4, x5, x6, x7, x8], .long (2 : Int64) :: st, a, h) := Rn_go c189_109 rfl
theorem c189_112 : mcode 189 112 = some (.ldiv, 1, 0, 0, 0) := rfl
theorem r189_112 : Rn 189 (112, [x0, x1, x2, x3, x4, x5, x6, x7, x8], .long m :: .long l :: st, a, h) = if m = 0 then none else Rn 189 (113, [x0, x1, x2, x3, x4, x5, x6, x7, x8], .long (l / m) :: st, a, h) := Rn_ldiv c189_112 rfl
theorem c189_113 : mcode 189 113 = some (.lstore_n 3, 1, 0, 0, 0) := rfl
theorem r189_113 : Rn 189 (113, [x0, x1, x2, x3, x4, x5, x6, x7, x8], .long l :: st, a, h) = Nl x2 (Rn 189 (114, [x0, x1, x2, some (.long l), none, x5, x6, x7, x8], st, a, h)) := Rn_st2 (k := 3) (v := .long l) x2 c189_113 rfl rfl rfl rfl
theorem c189_114 : mcode 189 114 = some (.lload 5, 2, 0, 0, 0) := rfl
theorem r189_114 : Rn 189 (114, [x0, x1, x2, x3, x4, some (.long l), x6, x7, x8], st, a, h) = Rn 189 (116, [x0, x1, x2, x3, x4, some (.long l), x6, x7, x8], .long l :: st, a, h) := Rn_go c189_114 rfl
theorem c189_116 : mcode 189 116 = some (.ldc2_w 209, 3, 0, 0, 2) := rfl
theorem r189_116 : Rn 189 (116, [x0, x1, x2, x3, x4, x5, x6, x7, x8], st, a, h) = Rn 189 (119, [x0, x1, x2, x3, x4, x5, x6, x7, x8], .long (2 : Int64) :: st, a, h) := Rn_go c189_116 rfl
theorem c189_119 : mcode 189 119 = some (.ldiv, 1, 0, 0, 0) := rfl
theorem r189_119 : Rn 189 (119, [x0, x1, x2, x3, x4, x5, x6, x7, x8], .long m :: .long l :: st, a, h) = if m = 0 then none else Rn 189 (120, [x0, x1, x2, x3, x4, x5, x6, x7, x8], .long (l / m) :: st, a, h) := Rn_ldiv c189_119 rfl
theorem c189_120 : mcode 189 120 = some (.lstore 5, 2, 0, 0, 0) := rfl
theorem r189_120 : Rn 189 (120, [x0, x1, x2, x3, x4, x5, x6, x7, x8], .long l :: st, a, h) = Nl x4 (Rn 189 (122, [x0, x1, x2, x3, x4, some (.long l), none, x7, x8], st, a, h)) := Rn_st2 (k := 5) (v := .long l) x4 c189_120 rfl rfl rfl rfl
theorem c189_122 : mcode 189 122 = some (.goto (-35), 3, 0, 0, 0) := rfl
theorem r189_122 : Rn 189 (122, [x0, x1, x2, x3, x4, x5, x6, x7, x8], st, a, h) = Rn 189 (87, [x0, x1, x2, x3, x4, x5, x6, x7, x8], st, a, h) := Rn_goto c189_122 rfl
theorem c189_125 : mcode 189 125 = some (.iload_n 2, 1, 0, 0, 0) := rfl
theorem r189_125 : Rn 189 (125, [x0, x1, some (.int i), x3, x4, x5, x6, x7, x8], st, a, h) = Rn 189 (126, [x0, x1, some (.int i), x3, x4, x5, x6, x7, x8], .int i :: st, a, h) := Rn_go c189_125 rfl
theorem c189_126 : mcode 189 126 = some (.ifCond .ne 7, 3, 0, 0, 0) := rfl
theorem r189_126 : Rn 189 (126, [x0, x1, x2, x3, x4, x5, x6, x7, x8], .int i :: st, a, h) = if i = 0 then Rn 189 (129, [x0, x1, x2, x3, x4, x5, x6, x7, x8], st, a, h) else Rn 189 (133, [x0, x1, x2, x3, x4, x5, x6, x7, x8], st, a, h) := Rn_ifcn c189_126 mc_ne rfl rfl
theorem c189_129 : mcode 189 129 = some (.lload_n 3, 1, 0, 0, 0) := rfl
theorem r189_129 : Rn 189 (129, [x0, x1, x2, some (.long l), x4, x5, x6, x7, x8], st, a, h) = Rn 189 (130, [x0, x1, x2, some (.long l), x4, x5, x6, x7, x8], .long l :: st, a, h) := Rn_go c189_129 rfl
theorem c189_130 : mcode 189 130 = some (.goto 5, 3, 0, 0, 0) := rfl
theorem r189_130 : Rn 189 (130, [x0, x1, x2, x3, x4, x5, x6, x7, x8], st, a, h) = Rn 189 (135, [x0, x1, x2, x3, x4, x5, x6, x7, x8], st, a, h) := Rn_goto c189_130 rfl
theorem c189_133 : mcode 189 133 = some (.lload 5, 2, 0, 0, 0) := rfl
theorem r189_133 : Rn 189 (133, [x0, x1, x2, x3, x4, some (.long l), x6, x7, x8], st, a, h) = Rn 189 (135, [x0, x1, x2, x3, x4, some (.long l), x6, x7, x8], .long l :: st, a, h) := Rn_go c189_133 rfl
theorem c189_135 : mcode 189 135 = some (.lreturn, 1, 0, 0, 0) := rfl
theorem r189_135 : Rn 189 (135, [x0, x1, x2, x3, x4, x5, x6, x7, x8], [.long l], a, h) = some (some (.long l), a, h) := Rn_act c189_135
theorem c190_0 : mcode 190 0 = some (.aload_n 0, 1, 0, 0, 0) := rfl
theorem r190_0 : Rn 190 (0, [some (.ref q), x1], st, a, h) = Rn 190 (1, [some (.ref q), x1], .ref q :: st, a, h) := Rn_go c190_0 rfl
theorem c190_1 : mcode 190 1 = some (.iconst 2, 1, 0, 0, 0) := rfl
theorem r190_1 : Rn 190 (1, [x0, x1], st, a, h) = Rn 190 (2, [x0, x1], .int (2 : Int32) :: st, a, h) := Rn_go c190_1 rfl
theorem c190_2 : mcode 190 2 = some (.iload_n 1, 1, 0, 0, 0) := rfl
theorem r190_2 : Rn 190 (2, [x0, some (.int i)], st, a, h) = Rn 190 (3, [x0, some (.int i)], .int i :: st, a, h) := Rn_go c190_2 rfl
theorem c190_3 : mcode 190 3 = some (.invokevirtual 56, 3, 125, 2, 6) := rfl
theorem r190_3 : Rn 190 (3, [x0, x1], [v1, v0, .ref q], a, h) = if mis h q 6 = true then Bk 190 6 [x0, x1] [] (Ec 125 [.ref q, v0, v1] a h) else none := Rn_call1 c190_3 rfl (Nat.le_of_ble_eq_true rfl) rfl rfl (Nat.le_of_ble_eq_true rfl)
theorem c190_6 : mcode 190 6 = some (.ireturn, 1, 0, 0, 0) := rfl
theorem r190_6 : Rn 190 (6, [x0, x1], [.int i], a, h) = some (some (.int i), a, h) := Rn_ireti c190_6
theorem c191_0 : mcode 191 0 = some (.iload_n 2, 1, 0, 0, 0) := rfl
theorem r191_0 : Rn 191 (0, [x0, x1, some (.int i), x3], st, a, h) = Rn 191 (1, [x0, x1, some (.int i), x3], .int i :: st, a, h) := Rn_go c191_0 rfl
theorem c191_1 : mcode 191 1 = some (.i2l, 1, 0, 0, 0) := rfl
theorem r191_1 : Rn 191 (1, [x0, x1, x2, x3], .int i :: st, a, h) = Rn 191 (2, [x0, x1, x2, x3], .long i.toInt64 :: st, a, h) := Rn_go c191_1 rfl
theorem c191_2 : mcode 191 2 = some (.lconst 1, 1, 0, 0, 0) := rfl
theorem r191_2 : Rn 191 (2, [x0, x1, x2, x3], st, a, h) = Rn 191 (3, [x0, x1, x2, x3], .long (1 : Int64) :: st, a, h) := Rn_go c191_2 rfl
theorem c191_3 : mcode 191 3 = some (.ldc2_w 211, 3, 0, 0, 4) := rfl
theorem r191_3 : Rn 191 (3, [x0, x1, x2, x3], st, a, h) = Rn 191 (6, [x0, x1, x2, x3], .long (4 : Int64) :: st, a, h) := Rn_go c191_3 rfl
theorem c191_6 : mcode 191 6 = some (.invokestatic 52, 3, 123, 3, 0) := rfl
theorem r191_6 : Rn 191 (6, [x0, x1, x2, x3], [v2, v1, v0], a, h) = Bk 191 9 [x0, x1, x2, x3] [] (Ec 123 [v0, v1, v2] a h) := Rn_call0 c191_6 (fun z => nomatch z) rfl (Nat.le_of_ble_eq_true rfl) rfl rfl (Nat.le_of_ble_eq_true rfl)
theorem c191_9 : mcode 191 9 = some (.ifCond .ne 10, 3, 0, 0, 0) := rfl
theorem r191_9 : Rn 191 (9, [x0, x1, x2, x3], .int i :: st, a, h) = if i = 0 then Rn 191 (12, [x0, x1, x2, x3], st, a, h) else Rn 191 (19, [x0, x1, x2, x3], st, a, h) := Rn_ifcn c191_9 mc_ne rfl rfl
theorem c191_12 : mcode 191 12 = some (.aload_n 0, 1, 0, 0, 0) := rfl
theorem r191_12 : Rn 191 (12, [some (.ref q), x1, x2, x3], st, a, h) = Rn 191 (13, [some (.ref q), x1, x2, x3], .ref q :: st, a, h) := Rn_go c191_12 rfl
theorem c191_13 : mcode 191 13 = some (.ldc 37, 2, 0, 0, -1000001) := rfl
theorem r191_13 : Rn 191 (13, [x0, x1, x2, x3], st, a, h) = Rn 191 (15, [x0, x1, x2, x3], .int (-1000001 : Int32) :: st, a, h) := Rn_go c191_13 rfl
theorem c191_15 : mcode 191 15 = some (.invokevirtual 39, 3, 124, 1, 6) := rfl
theorem r191_15 : Rn 191 (15, [x0, x1, x2, x3], [v0, .ref q], a, h) = if mis h q 6 = true then Bk 191 18 [x0, x1, x2, x3] [] (Ec 124 [.ref q, v0] a h) else none := Rn_call1 c191_15 rfl (Nat.le_of_ble_eq_true rfl) rfl rfl (Nat.le_of_ble_eq_true rfl)
theorem c191_18 : mcode 191 18 = some (.ireturn, 1, 0, 0, 0) := rfl
theorem r191_18 : Rn 191 (18, [x0, x1, x2, x3], [.int i], a, h) = some (some (.int i), a, h) := Rn_ireti c191_18
theorem c191_19 : mcode 191 19 = some (.aload_n 0, 1, 0, 0, 0) := rfl
theorem r191_19 : Rn 191 (19, [some (.ref q), x1, x2, x3], st, a, h) = Rn 191 (20, [some (.ref q), x1, x2, x3], .ref q :: st, a, h) := Rn_go c191_19 rfl
theorem c191_20 : mcode 191 20 = some (.getfield 213, 3, 6, 7, 0) := rfl
theorem r191_20 : Rn 191 (20, [x0, x1, x2, x3], .ref q :: st, a, h) = Kv 191 23 [x0, x1, x2, x3] st a h (mgf h q 6 7) := Rn_getf c191_20 rfl
theorem c191_23 : mcode 191 23 = some (.iload_n 2, 1, 0, 0, 0) := rfl
theorem r191_23 : Rn 191 (23, [x0, x1, some (.int i), x3], st, a, h) = Rn 191 (24, [x0, x1, some (.int i), x3], .int i :: st, a, h) := Rn_go c191_23 rfl
theorem c191_24 : mcode 191 24 = some (.iadd, 1, 0, 0, 0) := rfl
theorem r191_24 : Rn 191 (24, [x0, x1, x2, x3], .int j :: .int i :: st, a, h) = Rn 191 (25, [x0, x1, x2, x3], .int (i + j) :: st, a, h) := Rn_go c191_24 rfl
theorem c191_25 : mcode 191 25 = some (.bipush 120, 2, 0, 0, 0) := rfl
theorem r191_25 : Rn 191 (25, [x0, x1, x2, x3], st, a, h) = Rn 191 (27, [x0, x1, x2, x3], .int (120 : Int32) :: st, a, h) := Rn_go c191_25 rfl
theorem c191_27 : mcode 191 27 = some (.if_icmp .le 10, 3, 0, 0, 0) := rfl
theorem r191_27 : Rn 191 (27, [x0, x1, x2, x3], .int j :: .int i :: st, a, h) = if j < i then Rn 191 (30, [x0, x1, x2, x3], st, a, h) else Rn 191 (37, [x0, x1, x2, x3], st, a, h) := Rn_icmpn c191_27 mc_le rfl rfl
theorem c191_30 : mcode 191 30 = some (.aload_n 0, 1, 0, 0, 0) := rfl
theorem r191_30 : Rn 191 (30, [some (.ref q), x1, x2, x3], st, a, h) = Rn 191 (31, [some (.ref q), x1, x2, x3], .ref q :: st, a, h) := Rn_go c191_30 rfl
theorem c191_31 : mcode 191 31 = some (.ldc 91, 2, 0, 0, -1000002) := rfl
theorem r191_31 : Rn 191 (31, [x0, x1, x2, x3], st, a, h) = Rn 191 (33, [x0, x1, x2, x3], .int (-1000002 : Int32) :: st, a, h) := Rn_go c191_31 rfl
theorem c191_33 : mcode 191 33 = some (.invokevirtual 39, 3, 124, 1, 6) := rfl
theorem r191_33 : Rn 191 (33, [x0, x1, x2, x3], [v0, .ref q], a, h) = if mis h q 6 = true then Bk 191 36 [x0, x1, x2, x3] [] (Ec 124 [.ref q, v0] a h) else none := Rn_call1 c191_33 rfl (Nat.le_of_ble_eq_true rfl) rfl rfl (Nat.le_of_ble_eq_true rfl)
theorem c191_36 : mcode 191 36 = some (.ireturn, 1, 0, 0, 0) := rfl
theorem r191_36 : Rn 191 (36, [x0, x1, x2, x3], [.int i], a, h) = some (some (.int i), a, h) := Rn_ireti c191_36
theorem c191_37 : mcode 191 37 = some (.iload_n 2, 1, 0, 0, 0) := rfl
theorem r191_37 : Rn 191 (37, [x0, x1, some (.int i), x3], st, a, h) = Rn 191 (38, [x0, x1, some (.int i), x3], .int i :: st, a, h) := Rn_go c191_37 rfl
theorem c191_38 : mcode 191 38 = some (.iconst 1, 1, 0, 0, 0) := rfl
theorem r191_38 : Rn 191 (38, [x0, x1, x2, x3], st, a, h) = Rn 191 (39, [x0, x1, x2, x3], .int (1 : Int32) :: st, a, h) := Rn_go c191_38 rfl
theorem c191_39 : mcode 191 39 = some (.isub, 1, 0, 0, 0) := rfl
theorem r191_39 : Rn 191 (39, [x0, x1, x2, x3], .int j :: .int i :: st, a, h) = Rn 191 (40, [x0, x1, x2, x3], .int (i - j) :: st, a, h) := Rn_go c191_39 rfl
theorem c191_40 : mcode 191 40 = some (.istore_n 3, 1, 0, 0, 0) := rfl
theorem r191_40 : Rn 191 (40, [x0, x1, x2, x3], .int i :: st, a, h) = Nl x2 (Rn 191 (41, [x0, x1, x2, some (.int i)], st, a, h)) := Rn_st1 (k := 3) (v := .int i) x2 c191_40 rfl rfl rfl rfl
theorem c191_41 : mcode 191 41 = some (.iload_n 3, 1, 0, 0, 0) := rfl
theorem r191_41 : Rn 191 (41, [x0, x1, x2, some (.int i)], st, a, h) = Rn 191 (42, [x0, x1, x2, some (.int i)], .int i :: st, a, h) := Rn_go c191_41 rfl
theorem c191_42 : mcode 191 42 = some (.ifCond .lt 38, 3, 0, 0, 0) := rfl
theorem r191_42 : Rn 191 (42, [x0, x1, x2, x3], .int i :: st, a, h) = if i < 0 then Rn 191 (80, [x0, x1, x2, x3], st, a, h) else Rn 191 (45, [x0, x1, x2, x3], st, a, h) := Rn_ifc c191_42 mc_lt rfl rfl
theorem c191_45 : mcode 191 45 = some (.aload_n 0, 1, 0, 0, 0) := rfl
theorem r191_45 : Rn 191 (45, [some (.ref q), x1, x2, x3], st, a, h) = Rn 191 (46, [some (.ref q), x1, x2, x3], .ref q :: st, a, h) := Rn_go c191_45 rfl
theorem c191_46 : mcode 191 46 = some (.getfield 25, 3, 6, 6, 0) := rfl
theorem r191_46 : Rn 191 (46, [x0, x1, x2, x3], .ref q :: st, a, h) = Kv 191 49 [x0, x1, x2, x3] st a h (mgf h q 6 6) := Rn_getf c191_46 rfl
theorem c191_49 : mcode 191 49 = some (.aload_n 0, 1, 0, 0, 0) := rfl
theorem r191_49 : Rn 191 (49, [some (.ref q), x1, x2, x3], st, a, h) = Rn 191 (50, [some (.ref q), x1, x2, x3], .ref q :: st, a, h) := Rn_go c191_49 rfl
theorem c191_50 : mcode 191 50 = some (.getfield 213, 3, 6, 7, 0) := rfl
theorem r191_50 : Rn 191 (50, [x0, x1, x2, x3], .ref q :: st, a, h) = Kv 191 53 [x0, x1, x2, x3] st a h (mgf h q 6 7) := Rn_getf c191_50 rfl
theorem c191_53 : mcode 191 53 = some (.iload_n 1, 1, 0, 0, 0) := rfl
theorem r191_53 : Rn 191 (53, [x0, some (.int i), x2, x3], st, a, h) = Rn 191 (54, [x0, some (.int i), x2, x3], .int i :: st, a, h) := Rn_go c191_53 rfl
theorem c191_54 : mcode 191 54 = some (.bipush 8, 2, 0, 0, 0) := rfl
theorem r191_54 : Rn 191 (54, [x0, x1, x2, x3], st, a, h) = Rn 191 (56, [x0, x1, x2, x3], .int (8 : Int32) :: st, a, h) := Rn_go c191_54 rfl
theorem c191_56 : mcode 191 56 = some (.iload_n 3, 1, 0, 0, 0) := rfl
theorem r191_56 : Rn 191 (56, [x0, x1, x2, some (.int i)], st, a, h) = Rn 191 (57, [x0, x1, x2, some (.int i)], .int i :: st, a, h) := Rn_go c191_56 rfl
theorem c191_57 : mcode 191 57 = some (.imul, 1, 0, 0, 0) := rfl
theorem r191_57 : Rn 191 (57, [x0, x1, x2, x3], .int j :: .int i :: st, a, h) = Rn 191 (58, [x0, x1, x2, x3], .int (i * j) :: st, a, h) := Rn_go c191_57 rfl
theorem c191_58 : mcode 191 58 = some (.ishr, 1, 0, 0, 0) := rfl
theorem r191_58 : Rn 191 (58, [x0, x1, x2, x3], .int j :: .int i :: st, a, h) = Rn 191 (59, [x0, x1, x2, x3], .int (i >>> (j &&& 31)) :: st, a, h) := Rn_go c191_58 rfl
theorem c191_59 : mcode 191 59 = some (.sipush 255, 3, 0, 0, 0) := rfl
theorem r191_59 : Rn 191 (59, [x0, x1, x2, x3], st, a, h) = Rn 191 (62, [x0, x1, x2, x3], .int (255 : Int32) :: st, a, h) := Rn_go c191_59 rfl
theorem c191_62 : mcode 191 62 = some (.iand, 1, 0, 0, 0) := rfl
theorem r191_62 : Rn 191 (62, [x0, x1, x2, x3], .int j :: .int i :: st, a, h) = Rn 191 (63, [x0, x1, x2, x3], .int (i &&& j) :: st, a, h) := Rn_go c191_62 rfl
theorem c191_63 : mcode 191 63 = some (.iastore, 1, 0, 0, 0) := rfl
theorem r191_63 : Rn 191 (63, [x0, x1, x2, x3], .int j :: .int i :: .ref q :: st, a, h) = Kh 191 64 [x0, x1, x2, x3] st a (mias h q i j) := Rn_iast c191_63 rfl
theorem c191_64 : mcode 191 64 = some (.aload_n 0, 1, 0, 0, 0) := rfl
theorem r191_64 : Rn 191 (64, [some (.ref q), x1, x2, x3], st, a, h) = Rn 191 (65, [some (.ref q), x1, x2, x3], .ref q :: st, a, h) := Rn_go c191_64 rfl
theorem c191_65 : mcode 191 65 = some (.dup, 1, 0, 0, 0) := rfl
theorem r191_65 : Rn 191 (65, [x0, x1, x2, x3], .ref q :: st, a, h) = Rn 191 (66, [x0, x1, x2, x3], .ref q :: .ref q :: st, a, h) := Rn_go c191_65 rfl
theorem c191_66 : mcode 191 66 = some (.getfield 213, 3, 6, 7, 0) := rfl
theorem r191_66 : Rn 191 (66, [x0, x1, x2, x3], .ref q :: st, a, h) = Kv 191 69 [x0, x1, x2, x3] st a h (mgf h q 6 7) := Rn_getf c191_66 rfl
theorem c191_69 : mcode 191 69 = some (.iconst 1, 1, 0, 0, 0) := rfl
theorem r191_69 : Rn 191 (69, [x0, x1, x2, x3], st, a, h) = Rn 191 (70, [x0, x1, x2, x3], .int (1 : Int32) :: st, a, h) := Rn_go c191_69 rfl
theorem c191_70 : mcode 191 70 = some (.iadd, 1, 0, 0, 0) := rfl
theorem r191_70 : Rn 191 (70, [x0, x1, x2, x3], .int j :: .int i :: st, a, h) = Rn 191 (71, [x0, x1, x2, x3], .int (i + j) :: st, a, h) := Rn_go c191_70 rfl
theorem c191_71 : mcode 191 71 = some (.putfield 213, 3, 6, 7, 0) := rfl
theorem r191_71 : Rn 191 (71, [x0, x1, x2, x3], .int i :: .ref q :: st, a, h) = Kh 191 74 [x0, x1, x2, x3] st a (mpf h q 6 7 (.int i)) := Rn_putfi c191_71 rfl rfl
theorem c191_74 : mcode 191 74 = some (.iinc 3 (-1), 3, 0, 0, 0) := rfl
theorem r191_74 : Rn 191 (74, [x0, x1, x2, some (.int i)], st, a, h) = Nl x2 (Rn 191 (77, [x0, x1, x2, some (.int (i + (-1 : Int32)))], st, a, h)) := Rn_st1 (k := 3) (v := .int (i + (-1 : Int32))) x2 c191_74 rfl rfl rfl rfl
theorem c191_77 : mcode 191 77 = some (.goto (-36), 3, 0, 0, 0) := rfl
theorem r191_77 : Rn 191 (77, [x0, x1, x2, x3], st, a, h) = Rn 191 (41, [x0, x1, x2, x3], st, a, h) := Rn_goto c191_77 rfl
theorem c191_80 : mcode 191 80 = some (.aload_n 0, 1, 0, 0, 0) := rfl
theorem r191_80 : Rn 191 (80, [some (.ref q), x1, x2, x3], st, a, h) = Rn 191 (81, [some (.ref q), x1, x2, x3], .ref q :: st, a, h) := Rn_go c191_80 rfl
theorem c191_81 : mcode 191 81 = some (.getfield 213, 3, 6, 7, 0) := rfl
theorem r191_81 : Rn 191 (81, [x0, x1, x2, x3], .ref q :: st, a, h) = Kv 191 84 [x0, x1, x2, x3] st a h (mgf h q 6 7) := Rn_getf c191_81 rfl
theorem c191_84 : mcode 191 84 = some (.ireturn, 1, 0, 0, 0) := rfl
theorem r191_84 : Rn 191 (84, [x0, x1, x2, x3], [.int i], a, h) = some (some (.int i), a, h) := Rn_ireti c191_84
theorem c192_0 : mcode 192 0 = some (.aload_n 0, 1, 0, 0, 0) := rfl
theorem r192_0 : Rn 192 (0, [some (.ref q), x1], st, a, h) = Rn 192 (1, [some (.ref q), x1], .ref q :: st, a, h) := Rn_go c192_0 rfl
theorem c192_1 : mcode 192 1 = some (.getfield 213, 3, 6, 7, 0) := rfl
theorem r192_1 : Rn 192 (1, [x0, x1], .ref q :: st, a, h) = Kv 192 4 [x0, x1] st a h (mgf h q 6 7) := Rn_getf c192_1 rfl
theorem c192_4 : mcode 192 4 = some (.istore_n 1, 1, 0, 0, 0) := rfl
theorem r192_4 : Rn 192 (4, [x0, x1], .int i :: st, a, h) = Nl x0 (Rn 192 (5, [x0, some (.int i)], st, a, h)) := Rn_st1 (k := 1) (v := .int i) x0 c192_4 rfl rfl rfl rfl
theorem c192_5 : mcode 192 5 = some (.aload_n 0, 1, 0, 0, 0) := rfl
theorem r192_5 : Rn 192 (5, [some (.ref q), x1], st, a, h) = Rn 192 (6, [some (.ref q), x1], .ref q :: st, a, h) := Rn_go c192_5 rfl
theorem c192_6 : mcode 192 6 = some (.iconst 0, 1, 0, 0, 0) := rfl
theorem r192_6 : Rn 192 (6, [x0, x1], st, a, h) = Rn 192 (7, [x0, x1], .int (0 : Int32) :: st, a, h) := Rn_go c192_6 rfl
theorem c192_7 : mcode 192 7 = some (.putfield 213, 3, 6, 7, 0) := rfl
theorem r192_7 : Rn 192 (7, [x0, x1], .int i :: .ref q :: st, a, h) = Kh 192 10 [x0, x1] st a (mpf h q 6 7 (.int i)) := Rn_putfi c192_7 rfl rfl
theorem c192_10 : mcode 192 10 = some (.iload_n 1, 1, 0, 0, 0) := rfl
theorem r192_10 : Rn 192 (10, [x0, some (.int i)], st, a, h) = Rn 192 (11, [x0, some (.int i)], .int i :: st, a, h) := Rn_go c192_10 rfl
theorem c192_11 : mcode 192 11 = some (.ireturn, 1, 0, 0, 0) := rfl
theorem r192_11 : Rn 192 (11, [x0, x1], [.int i], a, h) = some (some (.int i), a, h) := Rn_ireti c192_11
theorem c193_0 : mcode 193 0 = some (.iload_n 0, 1, 0, 0, 0) := rfl
theorem r193_0 : Rn 193 (0, [some (.int i)], st, a, h) = Rn 193 (1, [some (.int i)], .int i :: st, a, h) := Rn_go c193_0 rfl
theorem c193_1 : mcode 193 1 = some (.bipush 97, 2, 0, 0, 0) := rfl
theorem r193_1 : Rn 193 (1, [x0], st, a, h) = Rn 193 (3, [x0], .int (97 : Int32) :: st, a, h) := Rn_go c193_1 rfl
theorem c193_3 : mcode 193 3 = some (.if_icmp .lt 13, 3, 0, 0, 0) := rfl
theorem r193_3 : Rn 193 (3, [x0], .int j :: .int i :: st, a, h) = if i < j then Rn 193 (16, [x0], st, a, h) else Rn 193 (6, [x0], st, a, h) := Rn_icmp c193_3 mc_lt rfl rfl
theorem c193_6 : mcode 193 6 = some (.iload_n 0, 1, 0, 0, 0) := rfl
theorem r193_6 : Rn 193 (6, [some (.int i)], st, a, h) = Rn 193 (7, [some (.int i)], .int i :: st, a, h) := Rn_go c193_6 rfl
theorem c193_7 : mcode 193 7 = some (.bipush 122, 2, 0, 0, 0) := rfl
theorem r193_7 : Rn 193 (7, [x0], st, a, h) = Rn 193 (9, [x0], .int (122 : Int32) :: st, a, h) := Rn_go c193_7 rfl
theorem c193_9 : mcode 193 9 = some (.if_icmp .gt 7, 3, 0, 0, 0) := rfl
theorem r193_9 : Rn 193 (9, [x0], .int j :: .int i :: st, a, h) = if j < i then Rn 193 (16, [x0], st, a, h) else Rn 193 (12, [x0], st, a, h) := Rn_icmp c193_9 mc_gt rfl rfl
theorem c193_12 : mcode 193 12 = some (.iconst 1, 1, 0, 0, 0) := rfl
theorem r193_12 : Rn 193 (12, [x0], st, a, h) = Rn 193 (13, [x0], .int (1 : Int32) :: st, a, h) := Rn_go c193_12 rfl
theorem c193_13 : mcode 193 13 = some (.goto 4, 3, 0, 0, 0) := rfl
theorem r193_13 : Rn 193 (13, [x0], st, a, h) = Rn 193 (17, [x0], st, a, h) := Rn_goto c193_13 rfl
theorem c193_16 : mcode 193 16 = some (.iconst 0, 1, 0, 0, 0) := rfl
theorem r193_16 : Rn 193 (16, [x0], st, a, h) = Rn 193 (17, [x0], .int (0 : Int32) :: st, a, h) := Rn_go c193_16 rfl
theorem c193_17 : mcode 193 17 = some (.ireturn, 1, 1, 0, 0) := rfl
theorem r193_17 : Rn 193 (17, [x0], [.int i], a, h) = if mrt 1 i = true then some (some (.int i), a, h) else none := Rn_iretz c193_17
theorem c194_0 : mcode 194 0 = some (.iload_n 0, 1, 0, 0, 0) := rfl
theorem r194_0 : Rn 194 (0, [some (.int i)], st, a, h) = Rn 194 (1, [some (.int i)], .int i :: st, a, h) := Rn_go c194_0 rfl
theorem c194_1 : mcode 194 1 = some (.bipush 48, 2, 0, 0, 0) := rfl
theorem r194_1 : Rn 194 (1, [x0], st, a, h) = Rn 194 (3, [x0], .int (48 : Int32) :: st, a, h) := Rn_go c194_1 rfl
theorem c194_3 : mcode 194 3 = some (.if_icmp .lt 13, 3, 0, 0, 0) := rfl
theorem r194_3 : Rn 194 (3, [x0], .int j :: .int i :: st, a, h) = if i < j then Rn 194 (16, [x0], st, a, h) else Rn 194 (6, [x0], st, a, h) := Rn_icmp c194_3 mc_lt rfl rfl
theorem c194_6 : mcode 194 6 = some (.iload_n 0, 1, 0, 0, 0) := rfl
theorem r194_6 : Rn 194 (6, [some (.int i)], st, a, h) = Rn 194 (7, [some (.int i)], .int i :: st, a, h) := Rn_go c194_6 rfl
theorem c194_7 : mcode 194 7 = some (.bipush 57, 2, 0, 0, 0) := rfl
theorem r194_7 : Rn 194 (7, [x0], st, a, h) = Rn 194 (9, [x0], .int (57 : Int32) :: st, a, h) := Rn_go c194_7 rfl
theorem c194_9 : mcode 194 9 = some (.if_icmp .gt 7, 3, 0, 0, 0) := rfl
theorem r194_9 : Rn 194 (9, [x0], .int j :: .int i :: st, a, h) = if j < i then Rn 194 (16, [x0], st, a, h) else Rn 194 (12, [x0], st, a, h) := Rn_icmp c194_9 mc_gt rfl rfl
theorem c194_12 : mcode 194 12 = some (.iconst 1, 1, 0, 0, 0) := rfl
theorem r194_12 : Rn 194 (12, [x0], st, a, h) = Rn 194 (13, [x0], .int (1 : Int32) :: st, a, h) := Rn_go c194_12 rfl
theorem c194_13 : mcode 194 13 = some (.goto 4, 3, 0, 0, 0) := rfl
theorem r194_13 : Rn 194 (13, [x0], st, a, h) = Rn 194 (17, [x0], st, a, h) := Rn_goto c194_13 rfl
theorem c194_16 : mcode 194 16 = some (.iconst 0, 1, 0, 0, 0) := rfl
theorem r194_16 : Rn 194 (16, [x0], st, a, h) = Rn 194 (17, [x0], .int (0 : Int32) :: st, a, h) := Rn_go c194_16 rfl
theorem c194_17 : mcode 194 17 = some (.ireturn, 1, 1, 0, 0) := rfl
theorem r194_17 : Rn 194 (17, [x0], [.int i], a, h) = if mrt 1 i = true then some (some (.int i), a, h) else none := Rn_iretz c194_17
theorem c195_0 : mcode 195 0 = some (.iload_n 1, 1, 0, 0, 0) := rfl
theorem r195_0 : Rn 195 (0, [x0, some (.int i)], st, a, h) = Rn 195 (1, [x0, some (.int i)], .int i :: st, a, h) := Rn_go c195_0 rfl
theorem c195_1 : mcode 195 1 = some (.aload_n 0, 1, 0, 0, 0) := rfl
theorem r195_1 : Rn 195 (1, [some (.ref q), x1], st, a, h) = Rn 195 (2, [some (.ref q), x1], .ref q :: st, a, h) := Rn_go c195_1 rfl
theorem c195_2 : mcode 195 2 = some (.getfield 213, 3, 6, 7, 0) := rfl
theorem r195_2 : Rn 195 (2, [x0, x1], .ref q :: st, a, h) = Kv 195 5 [x0, x1] st a h (mgf h q 6 7) := Rn_getf c195_2 rfl
theorem c195_5 : mcode 195 5 = some (.if_icmp .ge 12, 3, 0, 0, 0) := rfl
theorem r195_5 : Rn 195 (5, [x0, x1], .int j :: .int i :: st, a, h) = if i < j then Rn 195 (8, [x0, x1], st, a, h) else Rn 195 (17, [x0, x1], st, a, h) := Rn_icmpn c195_5 mc_ge rfl rfl
theorem c195_8 : mcode 195 8 = some (.aload_n 0, 1, 0, 0, 0) := rfl
theorem r195_8 : Rn 195 (8, [some (.ref q), x1], st, a, h) = Rn 195 (9, [some (.ref q), x1], .ref q :: st, a, h) := Rn_go c195_8 rfl
theorem c195_9 : mcode 195 9 = some (.getfield 25, 3, 6, 6, 0) := rfl
theorem r195_9 : Rn 195 (9, [x0, x1], .ref q :: st, a, h) = Kv 195 12 [x0, x1] st a h (mgf h q 6 6) := Rn_getf c195_9 rfl
theorem c195_12 : mcode 195 12 = some (.iload_n 1, 1, 0, 0, 0) := rfl
theorem r195_12 : Rn 195 (12, [x0, some (.int i)], st, a, h) = Rn 195 (13, [x0, some (.int i)], .int i :: st, a, h) := Rn_go c195_12 rfl
theorem c195_13 : mcode 195 13 = some (.iaload, 1, 0, 0, 0) := rfl
theorem r195_13 : Rn 195 (13, [x0, x1], .int i :: .ref q :: st, a, h) = Ki 195 14 [x0, x1] st a h (mld h q i false) := Rn_iald c195_13 rfl
theorem c195_14 : mcode 195 14 = some (.goto 4, 3, 0, 0, 0) := rfl
theorem r195_14 : Rn 195 (14, [x0, x1], st, a, h) = Rn 195 (18, [x0, x1], st, a, h) := Rn_goto c195_14 rfl
theorem c195_17 : mcode 195 17 = some (.iconst (-1), 1, 0, 0, 0) := rfl
theorem r195_17 : Rn 195 (17, [x0, x1], st, a, h) = Rn 195 (18, [x0, x1], .int (-1 : Int32) :: st, a, h) := Rn_go c195_17 rfl
theorem c195_18 : mcode 195 18 = some (.ireturn, 1, 0, 0, 0) := rfl
theorem r195_18 : Rn 195 (18, [x0, x1], [.int i], a, h) = some (some (.int i), a, h) := Rn_ireti c195_18
theorem c196_0 : mcode 196 0 = some (.aload_n 0, 1, 0, 0, 0) := rfl
theorem r196_0 : Rn 196 (0, [some (.ref q), x1], st, a, h) = Rn 196 (1, [some (.ref q), x1], .ref q :: st, a, h) := Rn_go c196_0 rfl
theorem c196_1 : mcode 196 1 = some (.aload_n 0, 1, 0, 0, 0) := rfl
theorem r196_1 : Rn 196 (1, [some (.ref q), x1], st, a, h) = Rn 196 (2, [some (.ref q), x1], .ref q :: st, a, h) := Rn_go c196_1 rfl
theorem c196_2 : mcode 196 2 = some (.getfield 216, 3, 6, 15, 0) := rfl
theorem r196_2 : Rn 196 (2, [x0, x1], .ref q :: st, a, h) = Kv 196 5 [x0, x1] st a h (mgf h q 6 15) := Rn_getf c196_2 rfl
theorem c196_5 : mcode 196 5 = some (.putfield 219, 3, 6, 14, 0) := rfl
theorem r196_5 : Rn 196 (5, [x0, x1], .int i :: .ref q :: st, a, h) = Kh 196 8 [x0, x1] st a (mpf h q 6 14 (.int i)) := Rn_putfi c196_5 rfl rfl
theorem c196_8 : mcode 196 8 = some (.aload_n 0, 1, 0, 0, 0) := rfl
theorem r196_8 : Rn 196 (8, [some (.ref q), x1], st, a, h) = Rn 196 (9, [some (.ref q), x1], .ref q :: st, a, h) := Rn_go c196_8 rfl
theorem c196_9 : mcode 196 9 = some (.aload_n 0, 1, 0, 0, 0) := rfl
theorem r196_9 : Rn 196 (9, [some (.ref q), x1], st, a, h) = Rn 196 (10, [some (.ref q), x1], .ref q :: st, a, h) := Rn_go c196_9 rfl
theorem c196_10 : mcode 196 10 = some (.getfield 219, 3, 6, 14, 0) := rfl
theorem r196_10 : Rn 196 (10, [x0, x1], .ref q :: st, a, h) = Kv 196 13 [x0, x1] st a h (mgf h q 6 14) := Rn_getf c196_10 rfl
theorem c196_13 : mcode 196 13 = some (.invokevirtual 222, 3, 195, 1, 6) := rfl
theorem r196_13 : Rn 196 (13, [x0, x1], [v0, .ref q], a, h) = if mis h q 6 = true then Bk 196 16 [x0, x1] [] (Ec 195 [.ref q, v0] a h) else none := Rn_call1 c196_13 rfl (Nat.le_of_ble_eq_true rfl) rfl rfl (Nat.le_of_ble_eq_true rfl)
theorem c196_16 : mcode 196 16 = some (.bipush 32, 2, 0, 0, 0) := rfl
theorem r196_16 : Rn 196 (16, [x0, x1], st, a, h) = Rn 196 (18, [x0, x1], .int (32 : Int32) :: st, a, h) := Rn_go c196_16 rfl
theorem c196_18 : mcode 196 18 = some (.if_icmp .ne 16, 3, 0, 0, 0) := rfl
theorem r196_18 : Rn 196 (18, [x0, x1], .int j :: .int i :: st, a, h) = if i = j then Rn 196 (21, [x0, x1], st, a, h) else Rn 196 (34, [x0, x1], st, a, h) := Rn_icmpn c196_18 mc_ne rfl rfl
theorem c196_21 : mcode 196 21 = some (.aload_n 0, 1, 0, 0, 0) := rfl
theorem r196_21 : Rn 196 (21, [some (.ref q), x1], st, a, h) = Rn 196 (22, [some (.ref q), x1], .ref q :: st, a, h) := Rn_go c196_21 rfl
theorem c196_22 : mcode 196 22 = some (.dup, 1, 0, 0, 0) := rfl
theorem r196_22 : Rn 196 (22, [x0, x1], .ref q :: st, a, h) = Rn 196 (23, [x0, x1], .ref q :: .ref q :: st, a, h) := Rn_go c196_22 rfl
theorem c196_23 : mcode 196 23 = some (.getfield 219, 3, 6, 14, 0) := rfl
theorem r196_23 : Rn 196 (23, [x0, x1], .ref q :: st, a, h) = Kv 196 26 [x0, x1] st a h (mgf h q 6 14) := Rn_getf c196_23 rfl
theorem c196_26 : mcode 196 26 = some (.iconst 1, 1, 0, 0, 0) := rfl
theorem r196_26 : Rn 196 (26, [x0, x1], st, a, h) = Rn 196 (27, [x0, x1], .int (1 : Int32) :: st, a, h) := Rn_go c196_26 rfl
theorem c196_27 : mcode 196 27 = some (.iadd, 1, 0, 0, 0) := rfl
theorem r196_27 : Rn 196 (27, [x0, x1], .int j :: .int i :: st, a, h) = Rn 196 (28, [x0, x1], .int (i + j) :: st, a, h) := Rn_go c196_27 rfl
theorem c196_28 : mcode 196 28 = some (.putfield 219, 3, 6, 14, 0) := rfl
theorem r196_28 : Rn 196 (28, [x0, x1], .int i :: .ref q :: st, a, h) = Kh 196 31 [x0, x1] st a (mpf h q 6 14 (.int i)) := Rn_putfi c196_28 rfl rfl
theorem c196_31 : mcode 196 31 = some (.goto (-23), 3, 0, 0, 0) := rfl
theorem r196_31 : Rn 196 (31, [x0, x1], st, a, h) = Rn 196 (8, [x0, x1], st, a, h) := Rn_goto c196_31 rfl
theorem c196_34 : mcode 196 34 = some (.aload_n 0, 1, 0, 0, 0) := rfl
theorem r196_34 : Rn 196 (34, [some (.ref q), x1], st, a, h) = Rn 196 (35, [some (.ref q), x1], .ref q :: st, a, h) := Rn_go c196_34 rfl
theorem c196_35 : mcode 196 35 = some (.aload_n 0, 1, 0, 0, 0) := rfl
theorem r196_35 : Rn 196 (35, [some (.ref q), x1], st, a, h) = Rn 196 (36, [some (.ref q), x1], .ref q :: st, a, h) := Rn_go c196_35 rfl
theorem c196_36 : mcode 196 36 = some (.getfield 219, 3, 6, 14, 0) := rfl
theorem r196_36 : Rn 196 (36, [x0, x1], .ref q :: st, a, h) = Kv 196 39 [x0, x1] st a h (mgf h q 6 14) := Rn_getf c196_36 rfl
theorem c196_39 : mcode 196 39 = some (.putfield 216, 3, 6, 15, 0) := rfl
theorem r196_39 : Rn 196 (39, [x0, x1], .int i :: .ref q :: st, a, h) = Kh 196 42 [x0, x1] st a (mpf h q 6 15 (.int i)) := Rn_putfi c196_39 rfl rfl
theorem c196_42 : mcode 196 42 = some (.aload_n 0, 1, 0, 0, 0) := rfl
theorem r196_42 : Rn 196 (42, [some (.ref q), x1], st, a, h) = Rn 196 (43, [some (.ref q), x1], .ref q :: st, a, h) := Rn_go c196_42 rfl
theorem c196_43 : mcode 196 43 = some (.aload_n 0, 1, 0, 0, 0) := rfl
theorem r196_43 : Rn 196 (43, [some (.ref q), x1], st, a, h) = Rn 196 (44, [some (.ref q), x1], .ref q :: st, a, h) := Rn_go c196_43 rfl
theorem c196_44 : mcode 196 44 = some (.getfield 219, 3, 6, 14, 0) := rfl
theorem r196_44 : Rn 196 (44, [x0, x1], .ref q :: st, a, h) = Kv 196 47 [x0, x1] st a h (mgf h q 6 14) := Rn_getf c196_44 rfl
theorem c196_47 : mcode 196 47 = some (.invokevirtual 222, 3, 195, 1, 6) := rfl
theorem r196_47 : Rn 196 (47, [x0, x1], [v0, .ref q], a, h) = if mis h q 6 = true then Bk 196 50 [x0, x1] [] (Ec 195 [.ref q, v0] a h) else none := Rn_call1 c196_47 rfl (Nat.le_of_ble_eq_true rfl) rfl rfl (Nat.le_of_ble_eq_true rfl)
theorem c196_50 : mcode 196 50 = some (.istore_n 1, 1, 0, 0, 0) := rfl
theorem r196_50 : Rn 196 (50, [x0, x1], .int i :: st, a, h) = Nl x0 (Rn 196 (51, [x0, some (.int i)], st, a, h)) := Rn_st1 (k := 1) (v := .int i) x0 c196_50 rfl rfl rfl rfl
theorem c196_51 : mcode 196 51 = some (.aload_n 0, 1, 0, 0, 0) := rfl
theorem r196_51 : Rn 196 (51, [some (.ref q), x1], st, a, h) = Rn 196 (52, [some (.ref q), x1], .ref q :: st, a, h) := Rn_go c196_51 rfl
theorem c196_52 : mcode 196 52 = some (.iload_n 1, 1, 0, 0, 0) := rfl
theorem r196_52 : Rn 196 (52, [x0, some (.int i)], st, a, h) = Rn 196 (53, [x0, some (.int i)], .int i :: st, a, h) := Rn_go c196_52 rfl
theorem c196_53 : mcode 196 53 = some (.ifCond .ge 7, 3, 0, 0, 0) := rfl
theorem r196_53 : Rn 196 (53, [x0, x1], .int i :: st, a, h) = if i < 0 then Rn 196 (56, [x0, x1], st, a, h) else Rn 196 (60, [x0, x1], st, a, h) := Rn_ifcn c196_53 mc_ge rfl rfl
theorem c196_56 : mcode 196 56 = some (.iconst 0, 1, 0, 0, 0) := rfl
theorem r196_56 : Rn 196 (56, [x0, x1], st, a, h) = Rn 196 (57, [x0, x1], .int (0 : Int32) :: st, a, h) := Rn_go c196_56 rfl
theorem c196_57 : mcode 196 57 = some (.goto 36, 3, 0, 0, 0) := rfl
theorem r196_57 : Rn 196 (57, [x0, x1], st, a, h) = Rn 196 (93, [x0, x1], st, a, h) := Rn_goto c196_57 rfl
theorem c196_60 : mcode 196 60 = some (.iload_n 1, 1, 0, 0, 0) := rfl
theorem r196_60 : Rn 196 (60, [x0, some (.int i)], st, a, h) = Rn 196 (61, [x0, some (.int i)], .int i :: st, a, h) := Rn_go c196_60 rfl
theorem c196_61 : mcode 196 61 = some (.invokestatic 225, 3, 193, 1, 0) := rfl
theorem r196_61 : Rn 196 (61, [x0, x1], [v0, .ref q0], a, h) = Bk 196 64 [x0, x1] [.ref q0] (Ec 193 [v0] a h) := Rn_call0 c196_61 (fun z => nomatch z) rfl (Nat.le_of_ble_eq_true rfl) rfl rfl (Nat.le_of_ble_eq_true rfl)
theorem c196_64 : mcode 196 64 = some (.ifCond .eq 7, 3, 0, 0, 0) := rfl
theorem r196_64 : Rn 196 (64, [x0, x1], .int i :: st, a, h) = if i = 0 then Rn 196 (71, [x0, x1], st, a, h) else Rn 196 (67, [x0, x1], st, a, h) := Rn_ifc c196_64 mc_eq rfl rfl
theorem c196_67 : mcode 196 67 = some (.iconst 1, 1, 0, 0, 0) := rfl
theorem r196_67 : Rn 196 (67, [x0, x1], st, a, h) = Rn 196 (68, [x0, x1], .int (1 : Int32) :: st, a, h) := Rn_go c196_67 rfl
theorem c196_68 : mcode 196 68 = some (.goto 25, 3, 0, 0, 0) := rfl
theorem r196_68 : Rn 196 (68, [x0, x1], st, a, h) = Rn 196 (93, [x0, x1], st, a, h) := Rn_goto c196_68 rfl
theorem c196_71 : mcode 196 71 = some (.iload_n 1, 1, 0, 0, 0) := rfl
theorem r196_71 : Rn 196 (71, [x0, some (.int i)], st, a, h) = Rn 196 (72, [x0, some (.int i)], .int i :: st, a, h) := Rn_go c196_71 rfl
theorem c196_72 : mcode 196 72 = some (.invokestatic 228, 3, 194, 1, 0) := rfl
theorem r196_72 : Rn 196 (72, [x0, x1], [v0, .ref q0], a, h) = Bk 196 75 [x0, x1] [.ref q0] (Ec 194 [v0] a h) := Rn_call0 c196_72 (fun z => nomatch z) rfl (Nat.le_of_ble_eq_true rfl) rfl rfl (Nat.le_of_ble_eq_true rfl)
theorem c196_75 : mcode 196 75 = some (.ifCond .eq 7, 3, 0, 0, 0) := rfl
theorem r196_75 : Rn 196 (75, [x0, x1], .int i :: st, a, h) = if i = 0 then Rn 196 (82, [x0, x1], st, a, h) else Rn 196 (78, [x0, x1], st, a, h) := Rn_ifc c196_75 mc_eq rfl rfl
theorem c196_78 : mcode 196 78 = some (.iconst 2, 1, 0, 0, 0) := rfl
theorem r196_78 : Rn 196 (78, [x0, x1], st, a, h) = Rn 196 (79, [x0, x1], .int (2 : Int32) :: st, a, h) := Rn_go c196_78 rfl
theorem c196_79 : mcode 196 79 = some (.goto 14, 3, 0, 0, 0) := rfl
theorem r196_79 : Rn 196 (79, [x0, x1], st, a, h) = Rn 196 (93, [x0, x1], st, a, h) := Rn_goto c196_79 rfl
theorem c196_82 : mcode 196 82 = some (.iload_n 1, 1, 0, 0, 0) := rfl
theorem r196_82 : Rn 196 (82, [x0, some (.int i)], st, a, h) = Rn 196 (83, [x0, some (.int i)], .int i :: st, a, h) := Rn_go c196_82 rfl
theorem c196_83 : mcode 196 83 = some (.bipush 59, 2, 0, 0, 0) := rfl
theorem r196_83 : Rn 196 (83, [x0, x1], st, a, h) = Rn 196 (85, [x0, x1], .int (59 : Int32) :: st, a, h) := Rn_go c196_83 rfl
theorem c196_85 : mcode 196 85 = some (.if_icmp .ne 7, 3, 0, 0, 0) := rfl
theorem r196_85 : Rn 196 (85, [x0, x1], .int j :: .int i :: st, a, h) = if i = j then Rn 196 (88, [x0, x1], st, a, h) else Rn 196 (92, [x0, x1], st, a, h) := Rn_icmpn c196_85 mc_ne rfl rfl
theorem c196_88 : mcode 196 88 = some (.iconst 3, 1, 0, 0, 0) := rfl
theorem r196_88 : Rn 196 (88, [x0, x1], st, a, h) = Rn 196 (89, [x0, x1], .int (3 : Int32) :: st, a, h) := Rn_go c196_88 rfl
theorem c196_89 : mcode 196 89 = some (.goto 4, 3, 0, 0, 0) := rfl
theorem r196_89 : Rn 196 (89, [x0, x1], st, a, h) = Rn 196 (93, [x0, x1], st, a, h) := Rn_goto c196_89 rfl
theorem c196_92 : mcode 196 92 = some (.iconst 4, 1, 0, 0, 0) := rfl
theorem r196_92 : Rn 196 (92, [x0, x1], st, a, h) = Rn 196 (93, [x0, x1], .int (4 : Int32) :: st, a, h) := Rn_go c196_92 rfl
theorem c196_93 : mcode 196 93 = some (.putfield 231, 3, 6, 13, 0) := rfl
theorem r196_93 : Rn 196 (93, [x0, x1], .int i :: .ref q :: st, a, h) = Kh 196 96 [x0, x1] st a (mpf h q 6 13 (.int i)) := Rn_putfi c196_93 rfl rfl
theorem c196_96 : mcode 196 96 = some (.aload_n 0, 1, 0, 0, 0) := rfl
theorem r196_96 : Rn 196 (96, [some (.ref q), x1], st, a, h) = Rn 196 (97, [some (.ref q), x1], .ref q :: st, a, h) := Rn_go c196_96 rfl
theorem c196_97 : mcode 196 97 = some (.iconst 0, 1, 0, 0, 0) := rfl
theorem r196_97 : Rn 196 (97, [x0, x1], st, a, h) = Rn 196 (98, [x0, x1], .int (0 : Int32) :: st, a, h) := Rn_go c196_97 rfl
theorem c196_98 : mcode 196 98 = some (.putfield 234, 3, 6, 16, 0) := rfl
theorem r196_98 : Rn 196 (98, [x0, x1], .int i :: .ref q :: st, a, h) = Kh 196 101 [x0, x1] st a (mpf h q 6 16 (.int i)) := Rn_putfi c196_98 rfl rfl
theorem c196_101 : mcode 196 101 = some (.aload_n 0, 1, 0, 0, 0) := rfl
theorem r196_101 : Rn 196 (101, [some (.ref q), x1], st, a, h) = Rn 196 (102, [some (.ref q), x1], .ref q :: st, a, h) := Rn_go c196_101 rfl
theorem c196_102 : mcode 196 102 = some (.getfield 231, 3, 6, 13, 0) := rfl
theorem r196_102 : Rn 196 (102, [x0, x1], .ref q :: st, a, h) = Kv 196 105 [x0, x1] st a h (mgf h q 6 13) := Rn_getf c196_102 rfl
theorem c196_105 : mcode 196 105 = some (.iconst 1, 1, 0, 0, 0) := rfl
theorem r196_105 : Rn 196 (105, [x0, x1], st, a, h) = Rn 196 (106, [x0, x1], .int (1 : Int32) :: st, a, h) := Rn_go c196_105 rfl
theorem c196_106 : mcode 196 106 = some (.if_icmp .ne 30, 3, 0, 0, 0) := rfl
theorem r196_106 : Rn 196 (106, [x0, x1], .int j :: .int i :: st, a, h) = if i = j then Rn 196 (109, [x0, x1], st, a, h) else Rn 196 (136, [x0, x1], st, a, h) := Rn_icmpn c196_106 mc_ne rfl rfl
theorem c196_109 : mcode 196 109 = some (.aload_n 0, 1, 0, 0, 0) := rfl
theorem r196_109 : Rn 196 (109, [some (.ref q), x1], st, a, h) = Rn 196 (110, [some (.ref q), x1], .ref q :: st, a, h) := Rn_go c196_109 rfl
theorem c196_110 : mcode 196 110 = some (.aload_n 0, 1, 0, 0, 0) := rfl
theorem r196_110 : Rn 196 (110, [some (.ref q), x1], st, a, h) = Rn 196 (111, [some (.ref q), x1], .ref q :: st, a, h) := Rn_go c196_110 rfl
theorem c196_111 : mcode 196 111 = some (.getfield 216, 3, 6, 15, 0) := rfl
theorem r196_111 : Rn 196 (111, [x0, x1], .ref q :: st, a, h) = Kv 196 114 [x0, x1] st a h (mgf h q 6 15) := Rn_getf c196_111 rfl
theorem c196_114 : mcode 196 114 = some (.invokevirtual 222, 3, 195, 1, 6) := rfl
theorem r196_114 : Rn 196 (114, [x0, x1], [v0, .ref q], a, h) = if mis h q 6 = true then Bk 196 117 [x0, x1] [] (Ec 195 [.ref q, v0] a h) else none := Rn_call1 c196_114 rfl (Nat.le_of_ble_eq_true rfl) rfl rfl (Nat.le_of_ble_eq_true rfl)
theorem c196_117 : mcode 196 117 = some (.invokestatic 225, 3, 193, 1, 0) := rfl
theorem r196_117 : Rn 196 (117, [x0, x1], [v0], a, h) = Bk 196 120 [x0, x1] [] (Ec 193 [v0] a h) := Rn_call0 c196_117 (fun z => nomatch z) rfl (Nat.le_of_ble_eq_true rfl) rfl rfl (Nat.le_of_ble_eq_true rfl)
theorem c196_120 : mcode 196 120 = some (.ifCond .eq 16, 3, 0, 0, 0) := rfl
theorem r196_120 : Rn 196 (120, [x0, x1], .int i :: st, a, h) = if i = 0 then Rn 196 (136, [x0, x1], st, a, h) else Rn 196 (123, [x0, x1], st, a, h) := Rn_ifc c196_120 mc_eq rfl rfl
theorem c196_123 : mcode 196 123 = some (.aload_n 0, 1, 0, 0, 0) := rfl
theorem r196_123 : Rn 196 (123, [some (.ref q), x1], st, a, h) = Rn 196 (124, [some (.ref q), x1], .ref q :: st, a, h) := Rn_go c196_123 rfl
theorem c196_124 : mcode 196 124 = some (.dup, 1, 0, 0, 0) := rfl
theorem r196_124 : Rn 196 (124, [x0, x1], .ref q :: st, a, h) = Rn 196 (125, [x0, x1], .ref q :: .ref q :: st, a, h) := Rn_go c196_124 rfl
theorem c196_125 : mcode 196 125 = some (.getfield 216, 3, 6, 15, 0) := rfl
theorem r196_125 : Rn 196 (125, [x0, x1], .ref q :: st, a, h) = Kv 196 128 [x0, x1] st a h (mgf h q 6 15) := Rn_getf c196_125 rfl
theorem c196_128 : mcode 196 128 = some (.iconst 1, 1, 0, 0, 0) := rfl
theorem r196_128 : Rn 196 (128, [x0, x1], st, a, h) = Rn 196 (129, [x0, x1], .int (1 : Int32) :: st, a, h) := Rn_go c196_128 rfl
theorem c196_129 : mcode 196 129 = some (.iadd, 1, 0, 0, 0) := rfl
theorem r196_129 : Rn 196 (129, [x0, x1], .int j :: .int i :: st, a, h) = Rn 196 (130, [x0, x1], .int (i + j) :: st, a, h) := Rn_go c196_129 rfl
theorem c196_130 : mcode 196 130 = some (.putfield 216, 3, 6, 15, 0) := rfl
theorem r196_130 : Rn 196 (130, [x0, x1], .int i :: .ref q :: st, a, h) = Kh 196 133 [x0, x1] st a (mpf h q 6 15 (.int i)) := Rn_putfi c196_130 rfl rfl
theorem c196_133 : mcode 196 133 = some (.goto (-32), 3, 0, 0, 0) := rfl
theorem r196_133 : Rn 196 (133, [x0, x1], st, a, h) = Rn 196 (101, [x0, x1], st, a, h) := Rn_goto c196_133 rfl
theorem c196_136 : mcode 196 136 = some (.aload_n 0, 1, 0, 0, 0) := rfl
theorem r196_136 : Rn 196 (136, [some (.ref q), x1], st, a, h) = Rn 196 (137, [some (.ref q), x1], .ref q :: st, a, h) := Rn_go c196_136 rfl
theorem c196_137 : mcode 196 137 = some (.getfield 231, 3, 6, 13, 0) := rfl
theorem r196_137 : Rn 196 (137, [x0, x1], .ref q :: st, a, h) = Kv 196 140 [x0, x1] st a h (mgf h q 6 13) := Rn_getf c196_137 rfl
theorem c196_140 : mcode 196 140 = some (.iconst 2, 1, 0, 0, 0) := rfl
theorem r196_140 : Rn 196 (140, [x0, x1], st, a, h) = Rn 196 (141, [x0, x1], .int (2 : Int32) :: st, a, h) := Rn_go c196_140 rfl
theorem c196_141 : mcode 196 141 = some (.if_icmp .ne 70, 3, 0, 0, 0) := rfl
theorem r196_141 : Rn 196 (141, [x0, x1], .int j :: .int i :: st, a, h) = if i = j then Rn 196 (144, [x0, x1], st, a, h) else Rn 196 (211, [x0, x1], st, a, h) := Rn_icmpn c196_141 mc_ne rfl rfl
theorem c196_144 : mcode 196 144 = some (.aload_n 0, 1, 0, 0, 0) := rfl
theorem r196_144 : Rn 196 (144, [some (.ref q), x1], st, a, h) = Rn 196 (145, [some (.ref q), x1], .ref q :: st, a, h) := Rn_go c196_144 rfl
theorem c196_145 : mcode 196 145 = some (.aload_n 0, 1, 0, 0, 0) := rfl
theorem r196_145 : Rn 196 (145, [some (.ref q), x1], st, a, h) = Rn 196 (146, [some (.ref q), x1], .ref q :: st, a, h) := Rn_go c196_145 rfl
theorem c196_146 : mcode 196 146 = some (.getfield 216, 3, 6, 15, 0) := rfl
theorem r196_146 : Rn 196 (146, [x0, x1], .ref q :: st, a, h) = Kv 196 149 [x0, x1] st a h (mgf h q 6 15) := Rn_getf c196_146 rfl
theorem c196_149 : mcode 196 149 = some (.invokevirtual 222, 3, 195, 1, 6) := rfl
theorem r196_149 : Rn 196 (149, [x0, x1], [v0, .ref q], a, h) = if mis h q 6 = true then Bk 196 152 [x0, x1] [] (Ec 195 [.ref q, v0] a h) else none := Rn_call1 c196_149 rfl (Nat.le_of_ble_eq_true rfl) rfl rfl (Nat.le_of_ble_eq_true rfl)
theorem c196_152 : mcode 196 152 = some (.invokestatic 228, 3, 194, 1, 0) := rfl
theorem r196_152 : Rn 196 (152, [x0, x1], [v0], a, h) = Bk 196 155 [x0, x1] [] (Ec 194 [v0] a h) := Rn_call0 c196_152 (fun z => nomatch z) rfl (Nat.le_of_ble_eq_true rfl) rfl rfl (Nat.le_of_ble_eq_true rfl)
theorem c196_155 : mcode 196 155 = some (.ifCond .eq 56, 3, 0, 0, 0) := rfl
theorem r196_155 : Rn 196 (155, [x0, x1], .int i :: st, a, h) = if i = 0 then Rn 196 (211, [x0, x1], st, a, h) else Rn 196 (158, [x0, x1], st, a, h) := Rn_ifc c196_155 mc_eq rfl rfl
theorem c196_158 : mcode 196 158 = some (.aload_n 0, 1, 0, 0, 0) := rfl
theorem r196_158 : Rn 196 (158, [some (.ref q), x1], st, a, h) = Rn 196 (159, [some (.ref q), x1], .ref q :: st, a, h) := Rn_go c196_158 rfl
theorem c196_159 : mcode 196 159 = some (.aload_n 0, 1, 0, 0, 0) := rfl
theorem r196_159 : Rn 196 (159, [some (.ref q), x1], st, a, h) = Rn 196 (160, [some (.ref q), x1], .ref q :: st, a, h) := Rn_go c196_159 rfl
theorem c196_160 : mcode 196 160 = some (.getfield 234, 3, 6, 16, 0) := rfl
theorem r196_160 : Rn 196 (160, [x0, x1], .ref q :: st, a, h) = Kv 196 163 [x0, x1] st a h (mgf h q 6 16) := Rn_getf c196_160 rfl
theorem c196_163 : mcode 196 163 = some (.sipush 999, 3, 0, 0, 0) := rfl
theorem r196_163 : Rn 196 (163, [x0, x1], st, a, h) = Rn 196 (166, [x0, x1], .int (999 : Int32) :: st, a, h) := Rn_go c196_163 rfl
theorem c196_166 : mcode 196 166 = some (.if_icmp .le 10, 3, 0, 0, 0) := rfl
theorem r196_166 : Rn 196 (166, [x0, x1], .int j :: .int i :: st, a, h) = if j < i then Rn 196 (169, [x0, x1], st, a, h) else Rn 196 (176, [x0, x1], st, a, h) := Rn_icmpn c196_166 mc_le rfl rfl
theorem c196_169 : mcode 196 169 = some (.aload_n 0, 1, 0, 0, 0) := rfl
theorem r196_169 : Rn 196 (169, [some (.ref q), x1], st, a, h) = Rn 196 (170, [some (.ref q), x1], .ref q :: st, a, h) := Rn_go c196_169 rfl
theorem c196_170 : mcode 196 170 = some (.getfield 234, 3, 6, 16, 0) := rfl
theorem r196_170 : Rn 196 (170, [x0, x1], .ref q :: st, a, h) = Kv 196 173 [x0, x1] st a h (mgf h q 6 16) := Rn_getf c196_170 rfl
theorem c196_173 : mcode 196 173 = some (.goto 22, 3, 0, 0, 0) := rfl
theorem r196_173 : Rn 196 (173, [x0, x1], st, a, h) = Rn 196 (195, [x0, x1], st, a, h) := Rn_goto c196_173 rfl
theorem c196_176 : mcode 196 176 = some (.bipush 10, 2, 0, 0, 0) := rfl
theorem r196_176 : Rn 196 (176, [x0, x1], st, a, h) = Rn 196 (178, [x0, x1], .int (10 : Int32) :: st, a, h) := Rn_go c196_176 rfl
theorem c196_178 : mcode 196 178 = some (.aload_n 0, 1, 0, 0, 0) := rfl
theorem r196_178 : Rn 196 (178, [some (.ref q), x1], st, a, h) = Rn 196 (179, [some (.ref q), x1], .ref q :: st, a, h) := Rn_go c196_178 rfl
theorem c196_179 : mcode 196 179 = some (.getfield 234, 3, 6, 16, 0) := rfl
theorem r196_179 : Rn 196 (179, [x0, x1], .ref q :: st, a, h) = Kv 196 182 [x0, x1] st a h (mgf h q 6 16) := Rn_getf c196_179 rfl
theorem c196_182 : mcode 196 182 = some (.imul, 1, 0, 0, 0) := rfl
theorem r196_182 : Rn 196 (182, [x0, x1], .int j :: .int i :: st, a, h) = Rn 196 (183, [x0, x1], .int (i * j) :: st, a, h) := Rn_go c196_182 rfl
theorem c196_183 : mcode 196 183 = some (.aload_n 0, 1, 0, 0, 0) := rfl
theorem r196_183 : Rn 196 (183, [some (.ref q), x1], st, a, h) = Rn 196 (184, [some (.ref q), x1], .ref q :: st, a, h) := Rn_go c196_183 rfl
theorem c196_184 : mcode 196 184 = some (.aload_n 0, 1, 0, 0, 0) := rfl
theorem r196_184 : Rn 196 (184, [some (.ref q), x1], st, a, h) = Rn 196 (185, [some (.ref q), x1], .ref q :: st, a, h) := Rn_go c196_184 rfl
theorem c196_185 : mcode 196 185 = some (.getfield 216, 3, 6, 15, 0) := rfl
theorem r196_185 : Rn 196 (185, [x0, x1], .ref q :: st, a, h) = Kv 196 188 [x0, x1] st a h (mgf h q 6 15) := Rn_getf c196_185 rfl
theorem c196_188 : mcode 196 188 = some (.invokevirtual 222, 3, 195, 1, 6) := rfl
theorem r196_188 : Rn 196 (188, [x0, x1], [v0, .ref q, .int i0, .ref q1], a, h) = if mis h q 6 = true then Bk 196 191 [x0, x1] [.int i0, .ref q1] (Ec 195 [.ref q, v0] a h) else none := Rn_call1 c196_188 rfl (Nat.le_of_ble_eq_true rfl) rfl rfl (Nat.le_of_ble_eq_true rfl)
theorem c196_191 : mcode 196 191 = some (.iadd, 1, 0, 0, 0) := rfl
theorem r196_191 : Rn 196 (191, [x0, x1], .int j :: .int i :: st, a, h) = Rn 196 (192, [x0, x1], .int (i + j) :: st, a, h) := Rn_go c196_191 rfl
theorem c196_192 : mcode 196 192 = some (.bipush 48, 2, 0, 0, 0) := rfl
theorem r196_192 : Rn 196 (192, [x0, x1], st, a, h) = Rn 196 (194, [x0, x1], .int (48 : Int32) :: st, a, h) := Rn_go c196_192 rfl
theorem c196_194 : mcode 196 194 = some (.isub, 1, 0, 0, 0) := rfl
theorem r196_194 : Rn 196 (194, [x0, x1], .int j :: .int i :: st, a, h) = Rn 196 (195, [x0, x1], .int (i - j) :: st, a, h) := Rn_go c196_194 rfl
theorem c196_195 : mcode 196 195 = some (.putfield 234, 3, 6, 16, 0) := rfl
theorem r196_195 : Rn 196 (195, [x0, x1], .int i :: .ref q :: st, a, h) = Kh 196 198 [x0, x1] st a (mpf h q 6 16 (.int i)) := Rn_putfi c196_195 rfl rfl
theorem c196_198 : mcode 196 198 = some (.aload_n 0, 1, 0, 0, 0) := rfl
theorem r196_198 : Rn 196 (198, [some (.ref q), x1], st, a, h) = Rn 196 (199, [some (.ref q), x1], .ref q :: st, a, h) := Rn_go c196_198 rfl
theorem c196_199 : mcode 196 199 = some (.dup, 1, 0, 0, 0) := rfl
theorem r196_199 : Rn 196 (199, [x0, x1], .ref q :: st, a, h) = Rn 196 (200, [x0, x1], .ref q :: .ref q :: st, a, h) := Rn_go c196_199 rfl
theorem c196_200 : mcode 196 200 = some (.getfield 216, 3, 6, 15, 0) := rfl
theorem r196_200 : Rn 196 (200, [x0, x1], .ref q :: st, a, h) = Kv 196 203 [x0, x1] st a h (mgf h q 6 15) := Rn_getf c196_200 rfl
theorem c196_203 : mcode 196 203 = some (.iconst 1, 1, 0, 0, 0) := rfl
theorem r196_203 : Rn 196 (203, [x0, x1], st, a, h) = Rn 196 (204, [x0, x1], .int (1 : Int32) :: st, a, h) := Rn_go c196_203 rfl
theorem c196_204 : mcode 196 204 = some (.iadd, 1, 0, 0, 0) := rfl
theorem r196_204 : Rn 196 (204, [x0, x1], .int j :: .int i :: st, a, h) = Rn 196 (205, [x0, x1], .int (i + j) :: st, a, h) := Rn_go c196_204 rfl
theorem c196_205 : mcode 196 205 = some (.putfield 216, 3, 6, 15, 0) := rfl
theorem r196_205 : Rn 196 (205, [x0, x1], .int i :: .ref q :: st, a, h) = Kh 196 208 [x0, x1] st a (mpf h q 6 15 (.int i)) := Rn_putfi c196_205 rfl rfl
theorem c196_208 : mcode 196 208 = some (.goto (-72), 3, 0, 0, 0) := rfl
theorem r196_208 : Rn 196 (208, [x0, x1], st, a, h) = Rn 196 (136, [x0, x1], st, a, h) := Rn_goto c196_208 rfl
theorem c196_211 : mcode 196 211 = some (.aload_n 0, 1, 0, 0, 0) := rfl
theorem r196_211 : Rn 196 (211, [some (.ref q), x1], st, a, h) = Rn 196 (212, [some (.ref q), x1], .ref q :: st, a, h) := Rn_go c196_211 rfl
theorem c196_212 : mcode 196 212 = some (.dup, 1, 0, 0, 0) := rfl
theorem r196_212 : Rn 196 (212, [x0, x1], .ref q :: st, a, h) = Rn 196 (213, [x0, x1], .ref q :: .ref q :: st, a, h) := Rn_go c196_212 rfl
theorem c196_213 : mcode 196 213 = some (.getfield 216, 3, 6, 15, 0) := rfl
theorem r196_213 : Rn 196 (213, [x0, x1], .ref q :: st, a, h) = Kv 196 216 [x0, x1] st a h (mgf h q 6 15) := Rn_getf c196_213 rfl
theorem c196_216 : mcode 196 216 = some (.aload_n 0, 1, 0, 0, 0) := rfl
theorem r196_216 : Rn 196 (216, [some (.ref q), x1], st, a, h) = Rn 196 (217, [some (.ref q), x1], .ref q :: st, a, h) := Rn_go c196_216 rfl
theorem c196_217 : mcode 196 217 = some (.getfield 231, 3, 6, 13, 0) := rfl
theorem r196_217 : Rn 196 (217, [x0, x1], .ref q :: st, a, h) = Kv 196 220 [x0, x1] st a h (mgf h q 6 13) := Rn_getf c196_217 rfl
theorem c196_220 : mcode 196 220 = some (.iconst 2, 1, 0, 0, 0) := rfl
theorem r196_220 : Rn 196 (220, [x0, x1], st, a, h) = Rn 196 (221, [x0, x1], .int (2 : Int32) :: st, a, h) := Rn_go c196_220 rfl
theorem c196_221 : mcode 196 221 = some (.if_icmp .le 7, 3, 0, 0, 0) := rfl
theorem r196_221 : Rn 196 (221, [x0, x1], .int j :: .int i :: st, a, h) = if j < i then Rn 196 (224, [x0, x1], st, a, h) else Rn 196 (228, [x0, x1], st, a, h) := Rn_icmpn c196_221 mc_le rfl rfl
theorem c196_224 : mcode 196 224 = some (.iconst 1, 1, 0, 0, 0) := rfl
theorem r196_224 : Rn 196 (224, [x0, x1], st, a, h) = Rn 196 (225, [x0, x1], .int (1 : Int32) :: st, a, h) := Rn_go c196_224 rfl
theorem c196_225 : mcode 196 225 = some (.goto 4, 3, 0, 0, 0) := rfl
theorem r196_225 : Rn 196 (225, [x0, x1], st, a, h) = Rn 196 (229, [x0, x1], st, a, h) := Rn_goto c196_225 rfl
theorem c196_228 : mcode 196 228 = some (.iconst 0, 1, 0, 0, 0) := rfl
theorem r196_228 : Rn 196 (228, [x0, x1], st, a, h) = Rn 196 (229, [x0, x1], .int (0 : Int32) :: st, a, h) := Rn_go c196_228 rfl
theorem c196_229 : mcode 196 229 = some (.iadd, 1, 0, 0, 0) := rfl
theorem r196_229 : Rn 196 (229, [x0, x1], .int j :: .int i :: st, a, h) = Rn 196 (230, [x0, x1], .int (i + j) :: st, a, h) := Rn_go c196_229 rfl
theorem c196_230 : mcode 196 230 = some (.putfield 216, 3, 6, 15, 0) := rfl
theorem r196_230 : Rn 196 (230, [x0, x1], .int i :: .ref q :: st, a, h) = Kh 196 233 [x0, x1] st a (mpf h q 6 15 (.int i)) := Rn_putfi c196_230 rfl rfl
theorem c196_233 : mcode 196 233 = some (.return_, 1, 0, 0, 0) := rfl
theorem r196_233 : Rn 196 (233, [x0, x1], [], a, h) = some (none, a, h) := Rn_act c196_233
theorem c197_0 : mcode 197 0 = some (.aload_n 0, 1, 0, 0, 0) := rfl
theorem r197_0 : Rn 197 (0, [some (.ref q), x1, x2, x3, x4], st, a, h) = Rn 197 (1, [some (.ref q), x1, x2, x3, x4], .ref q :: st, a, h) := Rn_go c197_0 rfl
theorem c197_1 : mcode 197 1 = some (.aload_n 0, 1, 0, 0, 0) := rfl
theorem r197_1 : Rn 197 (1, [some (.ref q), x1, x2, x3, x4], st, a, h) = Rn 197 (2, [some (.ref q), x1, x2, x3, x4], .ref q :: st, a, h) := Rn_go c197_1 rfl
theorem c197_2 : mcode 197 2 = some (.getfield 219, 3, 6, 14, 0) := rfl
theorem r197_2 : Rn 197 (2, [x0, x1, x2, x3, x4], .ref q :: st, a, h) = Kv 197 5 [x0, x1, x2, x3, x4] st a h (mgf h q 6 14) := Rn_getf c197_2 rfl
theorem c197_5 : mcode 197 5 = some (.iload_n 1, 1, 0, 0, 0) := rfl
theorem r197_5 : Rn 197 (5, [x0, some (.int i), x2, x3, x4], st, a, h) = Rn 197 (6, [x0, some (.int i), x2, x3, x4], .int i :: st, a, h) := Rn_go c197_5 rfl
theorem c197_6 : mcode 197 6 = some (.iadd, 1, 0, 0, 0) := rfl
theorem r197_6 : Rn 197 (6, [x0, x1, x2, x3, x4], .int j :: .int i :: st, a, h) = Rn 197 (7, [x0, x1, x2, x3, x4], .int (i + j) :: st, a, h) := Rn_go c197_6 rfl
theorem c197_7 : mcode 197 7 = some (.invokevirtual 222, 3, 195, 1, 6) := rfl
theorem r197_7 : Rn 197 (7, [x0, x1, x2, x3, x4], [v0, .ref q], a, h) = if mis h q 6 = true then Bk 197 10 [x0, x1, x2, x3, x4] [] (Ec 195 [.ref q, v0] a h) else none := Rn_call1 c197_7 rfl (Nat.le_of_ble_eq_true rfl) rfl rfl (Nat.le_of_ble_eq_true rfl)
theorem c197_10 : mcode 197 10 = some (.iload_n 2, 1, 0, 0, 0) := rfl
theorem r197_10 : Rn 197 (10, [x0, x1, some (.int i), x3, x4], st, a, h) = Rn 197 (11, [x0, x1, some (.int i), x3, x4], .int i :: st, a, h) := Rn_go c197_10 rfl
theorem c197_11 : mcode 197 11 = some (.if_icmp .ne 40, 3, 0, 0, 0) := rfl
theorem r197_11 : Rn 197 (11, [x0, x1, x2, x3, x4], .int j :: .int i :: st, a, h) = if i = j then Rn 197 (14, [x0, x1, x2, x3, x4], st, a, h) else Rn 197 (51, [x0, x1, x2, x3, x4], st, a, h) := Rn_icmpn c197_11 mc_ne rfl rfl
theorem c197_14 : mcode 197 14 = some (.aload_n 0, 1, 0, 0, 0) := rfl
theorem r197_14 : Rn 197 (14, [some (.ref q), x1, x2, x3, x4], st, a, h) = Rn 197 (15, [some (.ref q), x1, x2, x3, x4], .ref q :: st, a, h) := Rn_go c197_14 rfl
theorem c197_15 : mcode 197 15 = some (.aload_n 0, 1, 0, 0, 0) := rfl
theorem r197_15 : Rn 197 (15, [some (.ref q), x1, x2, x3, x4], st, a, h) = Rn 197 (16, [some (.ref q), x1, x2, x3, x4], .ref q :: st, a, h) := Rn_go c197_15 rfl
theorem c197_16 : mcode 197 16 = some (.getfield 219, 3, 6, 14, 0) := rfl
theorem r197_16 : Rn 197 (16, [x0, x1, x2, x3, x4], .ref q :: st, a, h) = Kv 197 19 [x0, x1, x2, x3, x4] st a h (mgf h q 6 14) := Rn_getf c197_16 rfl
theorem c197_19 : mcode 197 19 = some (.iload_n 1, 1, 0, 0, 0) := rfl
theorem r197_19 : Rn 197 (19, [x0, some (.int i), x2, x3, x4], st, a, h) = Rn 197 (20, [x0, some (.int i), x2, x3, x4], .int i :: st, a, h) := Rn_go c197_19 rfl
theorem c197_20 : mcode 197 20 = some (.iadd, 1, 0, 0, 0) := rfl
theorem r197_20 : Rn 197 (20, [x0, x1, x2, x3, x4], .int j :: .int i :: st, a, h) = Rn 197 (21, [x0, x1, x2, x3, x4], .int (i + j) :: st, a, h) := Rn_go c197_20 rfl
theorem c197_21 : mcode 197 21 = some (.iconst 1, 1, 0, 0, 0) := rfl
theorem r197_21 : Rn 197 (21, [x0, x1, x2, x3, x4], st, a, h) = Rn 197 (22, [x0, x1, x2, x3, x4], .int (1 : Int32) :: st, a, h) := Rn_go c197_21 rfl
theorem c197_22 : mcode 197 22 = some (.iadd, 1, 0, 0, 0) := rfl
theorem r197_22 : Rn 197 (22, [x0, x1, x2, x3, x4], .int j :: .int i :: st, a, h) = Rn 197 (23, [x0, x1, x2, x3, x4], .int (i + j) :: st, a, h) := Rn_go c197_22 rfl
theorem c197_23 : mcode 197 23 = some (.invokevirtual 222, 3, 195, 1, 6) := rfl
theorem r197_23 : Rn 197 (23, [x0, x1, x2, x3, x4], [v0, .ref q], a, h) = if mis h q 6 = true then Bk 197 26 [x0, x1, x2, x3, x4] [] (Ec 195 [.ref q, v0] a h) else none := Rn_call1 c197_23 rfl (Nat.le_of_ble_eq_true rfl) rfl rfl (Nat.le_of_ble_eq_true rfl)
theorem c197_26 : mcode 197 26 = some (.iload_n 3, 1, 0, 0, 0) := rfl
theorem r197_26 : Rn 197 (26, [x0, x1, x2, some (.int i), x4], st, a, h) = Rn 197 (27, [x0, x1, x2, some (.int i), x4], .int i :: st, a, h) := Rn_go c197_26 rfl
theorem c197_27 : mcode 197 27 = some (.if_icmp .ne 24, 3, 0, 0, 0) := rfl
theorem r197_27 : Rn 197 (27, [x0, x1, x2, x3, x4], .int j :: .int i :: st, a, h) = if i = j then Rn 197 (30, [x0, x1, x2, x3, x4], st, a, h) else Rn 197 (51, [x0, x1, x2, x3, x4], st, a, h) := Rn_icmpn c197_27 mc_ne rfl rfl
theorem c197_30 : mcode 197 30 = some (.aload_n 0, 1, 0, 0, 0) := rfl
theorem r197_30 : Rn 197 (30, [some (.ref q), x1, x2, x3, x4], st, a, h) = Rn 197 (31, [some (.ref q), x1, x2, x3, x4], .ref q :: st, a, h) := Rn_go c197_30 rfl
theorem c197_31 : mcode 197 31 = some (.aload_n 0, 1, 0, 0, 0) := rfl
theorem r197_31 : Rn 197 (31, [some (.ref q), x1, x2, x3, x4], st, a, h) = Rn 197 (32, [some (.ref q), x1, x2, x3, x4], .ref q :: st, a, h) := Rn_go c197_31 rfl
theorem c197_32 : mcode 197 32 = some (.getfield 219, 3, 6, 14, 0) := rfl
theorem r197_32 : Rn 197 (32, [x0, x1, x2, x3, x4], .ref q :: st, a, h) = Kv 197 35 [x0, x1, x2, x3, x4] st a h (mgf h q 6 14) := Rn_getf c197_32 rfl
theorem c197_35 : mcode 197 35 = some (.iload_n 1, 1, 0, 0, 0) := rfl
theorem r197_35 : Rn 197 (35, [x0, some (.int i), x2, x3, x4], st, a, h) = Rn 197 (36, [x0, some (.int i), x2, x3, x4], .int i :: st, a, h) := Rn_go c197_35 rfl
theorem c197_36 : mcode 197 36 = some (.iadd, 1, 0, 0, 0) := rfl
theorem r197_36 : Rn 197 (36, [x0, x1, x2, x3, x4], .int j :: .int i :: st, a, h) = Rn 197 (37, [x0, x1, x2, x3, x4], .int (i + j) :: st, a, h) := Rn_go c197_36 rfl
theorem c197_37 : mcode 197 37 = some (.iconst 2, 1, 0, 0, 0) := rfl
theorem r197_37 : Rn 197 (37, [x0, x1, x2, x3, x4], st, a, h) = Rn 197 (38, [x0, x1, x2, x3, x4], .int (2 : Int32) :: st, a, h) := Rn_go c197_37 rfl
theorem c197_38 : mcode 197 38 = some (.iadd, 1, 0, 0, 0) := rfl
theorem r197_38 : Rn 197 (38, [x0, x1, x2, x3, x4], .int j :: .int i :: st, a, h) = Rn 197 (39, [x0, x1, x2, x3, x4], .int (i + j) :: st, a, h) := Rn_go c197_38 rfl
theorem c197_39 : mcode 197 39 = some (.invokevirtual 222, 3, 195, 1, 6) := rfl
theorem r197_39 : Rn 197 (39, [x0, x1, x2, x3, x4], [v0, .ref q], a, h) = if mis h q 6 = true then Bk 197 42 [x0, x1, x2, x3, x4] [] (Ec 195 [.ref q, v0] a h) else none := Rn_call1 c197_39 rfl (Nat.le_of_ble_eq_true rfl) rfl rfl (Nat.le_of_ble_eq_true rfl)
theorem c197_42 : mcode 197 42 = some (.iload 4, 2, 0, 0, 0) := rfl
theorem r197_42 : Rn 197 (42, [x0, x1, x2, x3, some (.int i)], st, a, h) = Rn 197 (44, [x0, x1, x2, x3, some (.int i)], .int i :: st, a, h) := Rn_go c197_42 rfl
theorem c197_44 : mcode 197 44 = some (.if_icmp .ne 7, 3, 0, 0, 0) := rfl
theorem r197_44 : Rn 197 (44, [x0, x1, x2, x3, x4], .int j :: .int i :: st, a, h) = if i = j then Rn 197 (47, [x0, x1, x2, x3, x4], st, a, h) else Rn 197 (51, [x0, x1, x2, x3, x4], st, a, h) := Rn_icmpn c197_44 mc_ne rfl rfl
theorem c197_47 : mcode 197 47 = some (.iconst 1, 1, 0, 0, 0) := rfl
theorem r197_47 : Rn 197 (47, [x0, x1, x2, x3, x4], st, a, h) = Rn 197 (48, [x0, x1, x2, x3, x4], .int (1 : Int32) :: st, a, h) := Rn_go c197_47 rfl
theorem c197_48 : mcode 197 48 = some (.goto 4, 3, 0, 0, 0) := rfl
theorem r197_48 : Rn 197 (48, [x0, x1, x2, x3, x4], st, a, h) = Rn 197 (52, [x0, x1, x2, x3, x4], st, a, h) := Rn_goto c197_48 rfl
theorem c197_51 : mcode 197 51 = some (.iconst 0, 1, 0, 0, 0) := rfl
theorem r197_51 : Rn 197 (51, [x0, x1, x2, x3, x4], st, a, h) = Rn 197 (52, [x0, x1, x2, x3, x4], .int (0 : Int32) :: st, a, h) := Rn_go c197_51 rfl
theorem c197_52 : mcode 197 52 = some (.ireturn, 1, 1, 0, 0) := rfl
theorem r197_52 : Rn 197 (52, [x0, x1, x2, x3, x4], [.int i], a, h) = if mrt 1 i = true then some (some (.int i), a, h) else none := Rn_iretz c197_52
theorem c198_0 : mcode 198 0 = some (.aload_n 0, 1, 0, 0, 0) := rfl
theorem r198_0 : Rn 198 (0, [some (.ref q), x1], st, a, h) = Rn 198 (1, [some (.ref q), x1], .ref q :: st, a, h) := Rn_go c198_0 rfl
theorem c198_1 : mcode 198 1 = some (.getfield 231, 3, 6, 13, 0) := rfl
theorem r198_1 : Rn 198 (1, [x0, x1], .ref q :: st, a, h) = Kv 198 4 [x0, x1] st a h (mgf h q 6 13) := Rn_getf c198_1 rfl
theorem c198_4 : mcode 198 4 = some (.iconst 1, 1, 0, 0, 0) := rfl
theorem r198_4 : Rn 198 (4, [x0, x1], st, a, h) = Rn 198 (5, [x0, x1], .int (1 : Int32) :: st, a, h) := Rn_go c198_4 rfl
theorem c198_5 : mcode 198 5 = some (.if_icmp .ne 20, 3, 0, 0, 0) := rfl
theorem r198_5 : Rn 198 (5, [x0, x1], .int j :: .int i :: st, a, h) = if i = j then Rn 198 (8, [x0, x1], st, a, h) else Rn 198 (25, [x0, x1], st, a, h) := Rn_icmpn c198_5 mc_ne rfl rfl
theorem c198_8 : mcode 198 8 = some (.aload_n 0, 1, 0, 0, 0) := rfl
theorem r198_8 : Rn 198 (8, [some (.ref q), x1], st, a, h) = Rn 198 (9, [some (.ref q), x1], .ref q :: st, a, h) := Rn_go c198_8 rfl
theorem c198_9 : mcode 198 9 = some (.getfield 216, 3, 6, 15, 0) := rfl
theorem r198_9 : Rn 198 (9, [x0, x1], .ref q :: st, a, h) = Kv 198 12 [x0, x1] st a h (mgf h q 6 15) := Rn_getf c198_9 rfl
theorem c198_12 : mcode 198 12 = some (.aload_n 0, 1, 0, 0, 0) := rfl
theorem r198_12 : Rn 198 (12, [some (.ref q), x1], st, a, h) = Rn 198 (13, [some (.ref q), x1], .ref q :: st, a, h) := Rn_go c198_12 rfl
theorem c198_13 : mcode 198 13 = some (.getfield 219, 3, 6, 14, 0) := rfl
theorem r198_13 : Rn 198 (13, [x0, x1], .ref q :: st, a, h) = Kv 198 16 [x0, x1] st a h (mgf h q 6 14) := Rn_getf c198_13 rfl
theorem c198_16 : mcode 198 16 = some (.isub, 1, 0, 0, 0) := rfl
theorem r198_16 : Rn 198 (16, [x0, x1], .int j :: .int i :: st, a, h) = Rn 198 (17, [x0, x1], .int (i - j) :: st, a, h) := Rn_go c198_16 rfl
theorem c198_17 : mcode 198 17 = some (.iload_n 1, 1, 0, 0, 0) := rfl
theorem r198_17 : Rn 198 (17, [x0, some (.int i)], st, a, h) = Rn 198 (18, [x0, some (.int i)], .int i :: st, a, h) := Rn_go c198_17 rfl
theorem c198_18 : mcode 198 18 = some (.if_icmp .ne 7, 3, 0, 0, 0) := rfl
theorem r198_18 : Rn 198 (18, [x0, x1], .int j :: .int i :: st, a, h) = if i = j then Rn 198 (21, [x0, x1], st, a, h) else Rn 198 (25, [x0, x1], st, a, h) := Rn_icmpn c198_18 mc_ne rfl rfl
theorem c198_21 : mcode 198 21 = some (.iconst 1, 1, 0, 0, 0) := rfl
theorem r198_21 : Rn 198 (21, [x0, x1], st, a, h) = Rn 198 (22, [x0, x1], .int (1 : Int32) :: st, a, h) := Rn_go c198_21 rfl
theorem c198_22 : mcode 198 22 = some (.goto 4, 3, 0, 0, 0) := rfl
theorem r198_22 : Rn 198 (22, [x0, x1], st, a, h) = Rn 198 (26, [x0, x1], st, a, h) := Rn_goto c198_22 rfl
theorem c198_25 : mcode 198 25 = some (.iconst 0, 1, 0, 0, 0) := rfl
theorem r198_25 : Rn 198 (25, [x0, x1], st, a, h) = Rn 198 (26, [x0, x1], .int (0 : Int32) :: st, a, h) := Rn_go c198_25 rfl
theorem c198_26 : mcode 198 26 = some (.ireturn, 1, 1, 0, 0) := rfl
theorem r198_26 : Rn 198 (26, [x0, x1], [.int i], a, h) = if mrt 1 i = true then some (some (.int i), a, h) else none := Rn_iretz c198_26
theorem c199_0 : mcode 199 0 = some (.aload_n 0, 1, 0, 0, 0) := rfl
theorem r199_0 : Rn 199 (0, [some (.ref q)], st, a, h) = Rn 199 (1, [some (.ref q)], .ref q :: st, a, h) := Rn_go c199_0 rfl
theorem c199_1 : mcode 199 1 = some (.aload_n 0, 1, 0, 0, 0) := rfl
theorem r199_1 : Rn 199 (1, [some (.ref q)], st, a, h) = Rn 199 (2, [some (.ref q)], .ref q :: st, a, h) := Rn_go c199_1 rfl
theorem c199_2 : mcode 199 2 = some (.getfield 219, 3, 6, 14, 0) := rfl
theorem r199_2 : Rn 199 (2, [x0], .ref q :: st, a, h) = Kv 199 5 [x0] st a h (mgf h q 6 14) := Rn_getf c199_2 rfl
theorem c199_5 : mcode 199 5 = some (.putfield 237, 3, 6, 17, 0) := rfl
theorem r199_5 : Rn 199 (5, [x0], .int i :: .ref q :: st, a, h) = Kh 199 8 [x0] st a (mpf h q 6 17 (.int i)) := Rn_putfi c199_5 rfl rfl
theorem c199_8 : mcode 199 8 = some (.iconst 0, 1, 0, 0, 0) := rfl
theorem r199_8 : Rn 199 (8, [x0], st, a, h) = Rn 199 (9, [x0], .int (0 : Int32) :: st, a, h) := Rn_go c199_8 rfl
theorem c199_9 : mcode 199 9 = some (.ireturn, 1, 1, 0, 0) := rfl
theorem r199_9 : Rn 199 (9, [x0], [.int i], a, h) = if mrt 1 i = true then some (some (.int i), a, h) else none := Rn_iretz c199_9
theorem c200_0 : mcode 200 0 = some (.aload_n 0, 1, 0, 0, 0) := rfl
theorem r200_0 : Rn 200 (0, [some (.ref q), x1, x2, x3, x4], st, a, h) = Rn 200 (1, [some (.ref q), x1, x2, x3, x4], .ref q :: st, a, h) := Rn_go c200_0 rfl
theorem c200_1 : mcode 200 1 = some (.iconst 4, 1, 0, 0, 0) := rfl
theorem r200_1 : Rn 200 (1, [x0, x1, x2, x3, x4], st, a, h) = Rn 200 (2, [x0, x1, x2, x3, x4], .int (4 : Int32) :: st, a, h) := Rn_go c200_1 rfl
theorem c200_2 : mcode 200 2 = some (.invokevirtual 240, 3, 198, 1, 6) := rfl
theorem r200_2 : Rn 200 (2, [x0, x1, x2, x3, x4], [v0, .ref q], a, h) = if mis h q 6 = true then Bk 200 5 [x0, x1, x2, x3, x4] [] (Ec 198 [.ref q, v0] a h) else none := Rn_call1 c200_2 rfl (Nat.le_of_ble_eq_true rfl) rfl rfl (Nat.le_of_ble_eq_true rfl)
theorem c200_5 : mcode 200 5 = some (.ifCond .eq 30, 3, 0, 0, 0) := rfl
theorem r200_5 : Rn 200 (5, [x0, x1, x2, x3, x4], .int i :: st, a, h) = if i = 0 then Rn 200 (35, [x0, x1, x2, x3, x4], st, a, h) else Rn 200 (8, [x0, x1, x2, x3, x4], st, a, h) := Rn_ifc c200_5 mc_eq rfl rfl
theorem c200_8 : mcode 200 8 = some (.aload_n 0, 1, 0, 0, 0) := rfl
theorem r200_8 : Rn 200 (8, [some (.ref q), x1, x2, x3, x4], st, a, h) = Rn 200 (9, [some (.ref q), x1, x2, x3, x4], .ref q :: st, a, h) := Rn_go c200_8 rfl
theorem c200_9 : mcode 200 9 = some (.iconst 0, 1, 0, 0, 0) := rfl
theorem r200_9 : Rn 200 (9, [x0, x1, x2, x3, x4], st, a, h) = Rn 200 (10, [x0, x1, x2, x3, x4], .int (0 : Int32) :: st, a, h) := Rn_go c200_9 rfl
theorem c200_10 : mcode 200 10 = some (.iload_n 1, 1, 0, 0, 0) := rfl
theorem r200_10 : Rn 200 (10, [x0, some (.int i), x2, x3, x4], st, a, h) = Rn 200 (11, [x0, some (.int i), x2, x3, x4], .int i :: st, a, h) := Rn_go c200_10 rfl
theorem c200_11 : mcode 200 11 = some (.iload_n 2, 1, 0, 0, 0) := rfl
theorem r200_11 : Rn 200 (11, [x0, x1, some (.int i), x3, x4], st, a, h) = Rn 200 (12, [x0, x1, some (.int i), x3, x4], .int i :: st, a, h) := Rn_go c200_11 rfl
theorem c200_12 : mcode 200 12 = some (.iload_n 3, 1, 0, 0, 0) := rfl
theorem r200_12 : Rn 200 (12, [x0, x1, x2, some (.int i), x4], st, a, h) = Rn 200 (13, [x0, x1, x2, some (.int i), x4], .int i :: st, a, h) := Rn_go c200_12 rfl
theorem c200_13 : mcode 200 13 = some (.invokevirtual 243, 3, 197, 4, 6) := rfl
theorem r200_13 : Rn 200 (13, [x0, x1, x2, x3, x4], [v3, v2, v1, v0, .ref q], a, h) = if mis h q 6 = true then Bk 200 16 [x0, x1, x2, x3, x4] [] (Ec 197 [.ref q, v0, v1, v2, v3] a h) else none := Rn_call1 c200_13 rfl (Nat.le_of_ble_eq_true rfl) rfl rfl (Nat.le_of_ble_eq_true rfl)
theorem c200_16 : mcode 200 16 = some (.ifCond .eq 19, 3, 0, 0, 0) := rfl
theorem r200_16 : Rn 200 (16, [x0, x1, x2, x3, x4], .int i :: st, a, h) = if i = 0 then Rn 200 (35, [x0, x1, x2, x3, x4], st, a, h) else Rn 200 (19, [x0, x1, x2, x3, x4], st, a, h) := Rn_ifc c200_16 mc_eq rfl rfl
theorem c200_19 : mcode 200 19 = some (.aload_n 0, 1, 0, 0, 0) := rfl
theorem r200_19 : Rn 200 (19, [some (.ref q), x1, x2, x3, x4], st, a, h) = Rn 200 (20, [some (.ref q), x1, x2, x3, x4], .ref q :: st, a, h) := Rn_go c200_19 rfl
theorem c200_20 : mcode 200 20 = some (.iconst 1, 1, 0, 0, 0) := rfl
theorem r200_20 : Rn 200 (20, [x0, x1, x2, x3, x4], st, a, h) = Rn 200 (21, [x0, x1, x2, x3, x4], .int (1 : Int32) :: st, a, h) := Rn_go c200_20 rfl
theorem c200_21 : mcode 200 21 = some (.iload_n 2, 1, 0, 0, 0) := rfl
theorem r200_21 : Rn 200 (21, [x0, x1, some (.int i), x3, x4], st, a, h) = Rn 200 (22, [x0, x1, some (.int i), x3, x4], .int i :: st, a, h) := Rn_go c200_21 rfl
theorem c200_22 : mcode 200 22 = some (.iload_n 3, 1, 0, 0, 0) := rfl
theorem r200_22 : Rn 200 (22, [x0, x1, x2, some (.int i), x4], st, a, h) = Rn 200 (23, [x0, x1, x2, some (.int i), x4], .int i :: st, a, h) := Rn_go c200_22 rfl
theorem c200_23 : mcode 200 23 = some (.iload 4, 2, 0, 0, 0) := rfl
theorem r200_23 : Rn 200 (23, [x0, x1, x2, x3, some (.int i)], st, a, h) = Rn 200 (25, [x0, x1, x2, x3, some (.int i)], .int i :: st, a, h) := Rn_go c200_23 rfl
theorem c200_25 : mcode 200 25 = some (.invokevirtual 243, 3, 197, 4, 6) := rfl
theorem r200_25 : Rn 200 (25, [x0, x1, x2, x3, x4], [v3, v2, v1, v0, .ref q], a, h) = if mis h q 6 = true then Bk 200 28 [x0, x1, x2, x3, x4] [] (Ec 197 [.ref q, v0, v1, v2, v3] a h) else none := Rn_call1 c200_25 rfl (Nat.le_of_ble_eq_true rfl) rfl rfl (Nat.le_of_ble_eq_true rfl)
theorem c200_28 : mcode 200 28 = some (.ifCond .eq 7, 3, 0, 0, 0) := rfl
theorem r200_28 : Rn 200 (28, [x0, x1, x2, x3, x4], .int i :: st, a, h) = if i = 0 then Rn 200 (35, [x0, x1, x2, x3, x4], st, a, h) else Rn 200 (31, [x0, x1, x2, x3, x4], st, a, h) := Rn_ifc c200_28 mc_eq rfl rfl
theorem c200_31 : mcode 200 31 = some (.iconst 1, 1, 0, 0, 0) := rfl
theorem r200_31 : Rn 200 (31, [x0, x1, x2, x3, x4], st, a, h) = Rn 200 (32, [x0, x1, x2, x3, x4], .int (1 : Int32) :: st, a, h) := Rn_go c200_31 rfl
theorem c200_32 : mcode 200 32 = some (.goto 4, 3, 0, 0, 0) := rfl
theorem r200_32 : Rn 200 (32, [x0, x1, x2, x3, x4], st, a, h) = Rn 200 (36, [x0, x1, x2, x3, x4], st, a, h) := Rn_goto c200_32 rfl
theorem c200_35 : mcode 200 35 = some (.iconst 0, 1, 0, 0, 0) := rfl
theorem r200_35 : Rn 200 (35, [x0, x1, x2, x3, x4], st, a, h) = Rn 200 (36, [x0, x1, x2, x3, x4], .int (0 : Int32) :: st, a, h) := Rn_go c200_35 rfl
theorem c200_36 : mcode 200 36 = some (.ireturn, 1, 1, 0, 0) := rfl
theorem r200_36 : Rn 200 (36, [x0, x1, x2, x3, x4], [.int i], a, h) = if mrt 1 i = true then some (some (.int i), a, h) else none := Rn_iretz c200_36
theorem c201_0 : mcode 201 0 = some (.aload_n 0, 1, 0, 0, 0) := rfl
theorem r201_0 : Rn 201 (0, [some (.ref q), x1, x2, x3, x4, x5], st, a, h) = Rn 201 (1, [some (.ref q), x1, x2, x3, x4, x5], .ref q :: st, a, h) := Rn_go c201_0 rfl
theorem c201_1 : mcode 201 1 = some (.iconst 5, 1, 0, 0, 0) := rfl
theorem r201_1 : Rn 201 (1, [x0, x1, x2, x3, x4, x5], st, a, h) = Rn 201 (2, [x0, x1, x2, x3, x4, x5], .int (5 : Int32) :: st, a, h) := Rn_go c201_1 rfl
theorem c201_2 : mcode 201 2 = some (.invokevirtual 240, 3, 198, 1, 6) := rfl
theorem r201_2 : Rn 201 (2, [x0, x1, x2, x3, x4, x5], [v0, .ref q], a, h) = if mis h q 6 = true then Bk 201 5 [x0, x1, x2, x3, x4, x5] [] (Ec 198 [.ref q, v0] a h) else none := Rn_call1 c201_2 rfl (Nat.le_of_ble_eq_true rfl) rfl rfl (Nat.le_of_ble_eq_true rfl)
theorem c201_5 : mcode 201 5 = some (.ifCond .eq 31, 3, 0, 0, 0) := rfl
theorem r201_5 : Rn 201 (5, [x0, x1, x2, x3, x4, x5], .int i :: st, a, h) = if i = 0 then Rn 201 (36, [x0, x1, x2, x3, x4, x5], st, a, h) else Rn 201 (8, [x0, x1, x2, x3, x4, x5], st, a, h) := Rn_ifc c201_5 mc_eq rfl rfl
theorem c201_8 : mcode 201 8 = some (.aload_n 0, 1, 0, 0, 0) := rfl
theorem r201_8 : Rn 201 (8, [some (.ref q), x1, x2, x3, x4, x5], st, a, h) = Rn 201 (9, [some (.ref q), x1, x2, x3, x4, x5], .ref q :: st, a, h) := Rn_go c201_8 rfl
theorem c201_9 : mcode 201 9 = some (.iconst 0, 1, 0, 0, 0) := rfl
theorem r201_9 : Rn 201 (9, [x0, x1, x2, x3, x4, x5], st, a, h) = Rn 201 (10, [x0, x1, x2, x3, x4, x5], .int (0 : Int32) :: st, a, h) := Rn_go c201_9 rfl
theorem c201_10 : mcode 201 10 = some (.iload_n 1, 1, 0, 0, 0) := rfl
theorem r201_10 : Rn 201 (10, [x0, some (.int i), x2, x3, x4, x5], st, a, h) = Rn 201 (11, [x0, some (.int i), x2, x3, x4, x5], .int i :: st, a, h) := Rn_go c201_10 rfl
theorem c201_11 : mcode 201 11 = some (.iload_n 2, 1, 0, 0, 0) := rfl
theorem r201_11 : Rn 201 (11, [x0, x1, some (.int i), x3, x4, x5], st, a, h) = Rn 201 (12, [x0, x1, some (.int i), x3, x4, x5], .int i :: st, a, h) := Rn_go c201_11 rfl
theorem c201_12 : mcode 201 12 = some (.iload_n 3, 1, 0, 0, 0) := rfl
theorem r201_12 : Rn 201 (12, [x0, x1, x2, some (.int i), x4, x5], st, a, h) = Rn 201 (13, [x0, x1, x2, some (.int i), x4, x5], .int i :: st, a, h) := Rn_go c201_12 rfl
theorem c201_13 : mcode 201 13 = some (.invokevirtual 243, 3, 197, 4, 6) := rfl
theorem r201_13 : Rn 201 (13, [x0, x1, x2, x3, x4, x5], [v3, v2, v1, v0, .ref q], a, h) = if mis h q 6 = true then Bk 201 16 [x0, x1, x2, x3, x4, x5] [] (Ec 197 [.ref q, v0, v1, v2, v3] a h) else none := Rn_call1 c201_13 rfl (Nat.le_of_ble_eq_true rfl) rfl rfl (Nat.le_of_ble_eq_true rfl)
theorem c201_16 : mcode 201 16 = some (.ifCond .eq 20, 3, 0, 0, 0) := rfl
theorem r201_16 : Rn 201 (16, [x0, x1, x2, x3, x4, x5], .int i :: st, a, h) = if i = 0 then Rn 201 (36, [x0, x1, x2, x3, x4, x5], st, a, h) else Rn 201 (19, [x0, x1, x2, x3, x4, x5], st, a, h) := Rn_ifc c201_16 mc_eq rfl rfl
theorem c201_19 : mcode 201 19 = some (.aload_n 0, 1, 0, 0, 0) := rfl
theorem r201_19 : Rn 201 (19, [some (.ref q), x1, x2, x3, x4, x5], st, a, h) = Rn 201 (20, [some (.ref q), x1, x2, x3, x4, x5], .ref q :: st, a, h) := Rn_go c201_19 rfl
theorem c201_20 : mcode 201 20 = some (.iconst 2, 1, 0, 0, 0) := rfl
theorem r201_20 : Rn 201 (20, [x0, x1, x2, x3, x4, x5], st, a, h) = Rn 201 (21, [x0, x1, x2, x3, x4, x5], .int (2 : Int32) :: st, a, h) := Rn_go c201_20 rfl
theorem c201_21 : mcode 201 21 = some (.iload_n 3, 1, 0, 0, 0) := rfl
theorem r201_21 : Rn 201 (21, [x0, x1, x2, some (.int i), x4, x5], st, a, h) = Rn 201 (22, [x0, x1, x2, some (.int i), x4, x5], .int i :: st, a, h) := Rn_go c201_21 rfl
theorem c201_22 : mcode 201 22 = some (.iload 4, 2, 0, 0, 0) := rfl
theorem r201_22 : Rn 201 (22, [x0, x1, x2, x3, some (.int i), x5], st, a, h) = Rn 201 (24, [x0, x1, x2, x3, some (.int i), x5], .int i :: st, a, h) := Rn_go c201_22 rfl
theorem c201_24 : mcode 201 24 = some (.iload 5, 2, 0, 0, 0) := rfl
theorem r201_24 : Rn 201 (24, [x0, x1, x2, x3, x4, some (.int i)], st, a, h) = Rn 201 (26, [x0, x1, x2, x3, x4, some (.int i)], .int i :: st, a, h) := Rn_go c201_24 rfl
theorem c201_26 : mcode 201 26 = some (.invokevirtual 243, 3, 197, 4, 6) := rfl
theorem r201_26 : Rn 201 (26, [x0, x1, x2, x3, x4, x5], [v3, v2, v1, v0, .ref q], a, h) = if mis h q 6 = true then Bk 201 29 [x0, x1, x2, x3, x4, x5] [] (Ec 197 [.ref q, v0, v1, v2, v3] a h) else none := Rn_call1 c201_26 rfl (Nat.le_of_ble_eq_true rfl) rfl rfl (Nat.le_of_ble_eq_true rfl)
theorem c201_29 : mcode 201 29 = some (.ifCond .eq 7, 3, 0, 0, 0) := rfl
theorem r201_29 : Rn 201 (29, [x0, x1, x2, x3, x4, x5], .int i :: st, a, h) = if i = 0 then Rn 201 (36, [x0, x1, x2, x3, x4, x5], st, a, h) else Rn 201 (32, [x0, x1, x2, x3, x4, x5], st, a, h) := Rn_ifc c201_29 mc_eq rfl rfl
theorem c201_32 : mcode 201 32 = some (.iconst 1, 1, 0, 0, 0) := rfl
theorem r201_32 : Rn 201 (32, [x0, x1, x2, x3, x4, x5], st, a, h) = Rn 201 (33, [x0, x1, x2, x3, x4, x5], .int (1 : Int32) :: st, a, h) := Rn_go c201_32 rfl
theorem c201_33 : mcode 201 33 = some (.goto 4, 3, 0, 0, 0) := rfl
theorem r201_33 : Rn 201 (33, [x0, x1, x2, x3, x4, x5], st, a, h) = Rn 201 (37, [x0, x1, x2, x3, x4, x5], st, a, h) := Rn_goto c201_33 rfl
theorem c201_36 : mcode 201 36 = some (.iconst 0, 1, 0, 0, 0) := rfl
theorem r201_36 : Rn 201 (36, [x0, x1, x2, x3, x4, x5], st, a, h) = Rn 201 (37, [x0, x1, x2, x3, x4, x5], .int (0 : Int32) :: st, a, h) := Rn_go c201_36 rfl
theorem c201_37 : mcode 201 37 = some (.ireturn, 1, 1, 0, 0) := rfl
theorem r201_37 : Rn 201 (37, [x0, x1, x2, x3, x4, x5], [.int i], a, h) = if mrt 1 i = true then some (some (.int i), a, h) else none := Rn_iretz c201_37
theorem c202_0 : mcode 202 0 = some (.aload_n 0, 1, 0, 0, 0) := rfl
theorem r202_0 : Rn 202 (0, [some (.ref q), x1, x2], st, a, h) = Rn 202 (1, [some (.ref q), x1, x2], .ref q :: st, a, h) := Rn_go c202_0 rfl
theorem c202_1 : mcode 202 1 = some (.getfield 231, 3, 6, 13, 0) := rfl
theorem r202_1 : Rn 202 (1, [x0, x1, x2], .ref q :: st, a, h) = Kv 202 4 [x0, x1, x2] st a h (mgf h q 6 13) := Rn_getf c202_1 rfl
theorem c202_4 : mcode 202 4 = some (.iconst 2, 1, 0, 0, 0) := rfl
theorem r202_4 : Rn 202 (4, [x0, x1, x2], st, a, h) = Rn 202 (5, [x0, x1, x2], .int (2 : Int32) :: st, a, h) := Rn_go c202_4 rfl
theorem c202_5 : mcode 202 5 = some (.if_icmp .ne 18, 3, 0, 0, 0) := rfl
theorem r202_5 : Rn 202 (5, [x0, x1, x2], .int j :: .int i :: st, a, h) = if i = j then Rn 202 (8, [x0, x1, x2], st, a, h) else Rn 202 (23, [x0, x1, x2], st, a, h) := Rn_icmpn c202_5 mc_ne rfl rfl
theorem c202_8 : mcode 202 8 = some (.aload_n 0, 1, 0, 0, 0) := rfl
theorem r202_8 : Rn 202 (8, [some (.ref q), x1, x2], st, a, h) = Rn 202 (9, [some (.ref q), x1, x2], .ref q :: st, a, h) := Rn_go c202_8 rfl
theorem c202_9 : mcode 202 9 = some (.getfield 234, 3, 6, 16, 0) := rfl
theorem r202_9 : Rn 202 (9, [x0, x1, x2], .ref q :: st, a, h) = Kv 202 12 [x0, x1, x2] st a h (mgf h q 6 16) := Rn_getf c202_9 rfl
theorem c202_12 : mcode 202 12 = some (.i2l, 1, 0, 0, 0) := rfl
theorem r202_12 : Rn 202 (12, [x0, x1, x2], .int i :: st, a, h) = Rn 202 (13, [x0, x1, x2], .long i.toInt64 :: st, a, h) := Rn_go c202_12 rfl
theorem c202_13 : mcode 202 13 = some (.iload_n 1, 1, 0, 0, 0) := rfl
theorem r202_13 : Rn 202 (13, [x0, some (.int i), x2], st, a, h) = Rn 202 (14, [x0, some (.int i), x2], .int i :: st, a, h) := Rn_go c202_13 rfl
theorem c202_14 : mcode 202 14 = some (.i2l, 1, 0, 0, 0) := rfl
theorem r202_14 : Rn 202 (14, [x0, x1, x2], .int i :: st, a, h) = Rn 202 (15, [x0, x1, x2], .long i.toInt64 :: st, a, h) := Rn_go c202_14 rfl
theorem c202_15 : mcode 202 15 = some (.iload_n 2, 1, 0, 0, 0) := rfl
theorem r202_15 : Rn 202 (15, [x0, x1, some (.int i)], st, a, h) = Rn 202 (16, [x0, x1, some (.int i)], .int i :: st, a, h) := Rn_go c202_15 rfl
theorem c202_16 : mcode 202 16 = some (.i2l, 1, 0, 0, 0) := rfl
theorem r202_16 : Rn 202 (16, [x0, x1, x2], .int i :: st, a, h) = Rn 202 (17, [x0, x1, x2], .long i.toInt64 :: st, a, h) := Rn_go c202_16 rfl
theorem c202_17 : mcode 202 17 = some (.invokestatic 52, 3, 123, 3, 0) := rfl
theorem r202_17 : Rn 202 (17, [x0, x1, x2], [v2, v1, v0], a, h) = Bk 202 20 [x0, x1, x2] [] (Ec 123 [v0, v1, v2] a h) := Rn_call0 c202_17 (fun z => nomatch z) rfl (Nat.le_of_ble_eq_true rfl) rfl rfl (Nat.le_of_ble_eq_true rfl)
theorem c202_20 : mcode 202 20 = some (.ifCond .ne 10, 3, 0, 0, 0) := rfl
theorem r202_20 : Rn 202 (20, [x0, x1, x2], .int i :: st, a, h) = if i = 0 then Rn 202 (23, [x0, x1, x2], st, a, h) else Rn 202 (30, [x0, x1, x2], st, a, h) := Rn_ifcn c202_20 mc_ne rfl rfl
theorem c202_23 : mcode 202 23 = some (.aload_n 0, 1, 0, 0, 0) := rfl
theorem r202_23 : Rn 202 (23, [some (.ref q), x1, x2], st, a, h) = Rn 202 (24, [some (.ref q), x1, x2], .ref q :: st, a, h) := Rn_go c202_23 rfl
theorem c202_24 : mcode 202 24 = some (.invokevirtual 247, 3, 199, 0, 6) := rfl
theorem r202_24 : Rn 202 (24, [x0, x1, x2], [.ref q], a, h) = if mis h q 6 = true then Bk 202 27 [x0, x1, x2] [] (Ec 199 [.ref q] a h) else none := Rn_call1 c202_24 rfl (Nat.le_of_ble_eq_true rfl) rfl rfl (Nat.le_of_ble_eq_true rfl)
theorem c202_27 : mcode 202 27 = some (.ifCond .eq 7, 3, 0, 0, 0) := rfl
theorem r202_27 : Rn 202 (27, [x0, x1, x2], .int i :: st, a, h) = if i = 0 then Rn 202 (34, [x0, x1, x2], st, a, h) else Rn 202 (30, [x0, x1, x2], st, a, h) := Rn_ifc c202_27 mc_eq rfl rfl
theorem c202_30 : mcode 202 30 = some (.iconst 1, 1, 0, 0, 0) := rfl
theorem r202_30 : Rn 202 (30, [x0, x1, x2], st, a, h) = Rn 202 (31, [x0, x1, x2], .int (1 : Int32) :: st, a, h) := Rn_go c202_30 rfl
theorem c202_31 : mcode 202 31 = some (.goto 4, 3, 0, 0, 0) := rfl
theorem r202_31 : Rn 202 (31, [x0, x1, x2], st, a, h) = Rn 202 (35, [x0, x1, x2], st, a, h) := Rn_goto c202_31 rfl
theorem c202_34 : mcode 202 34 = some (.iconst 0, 1, 0, 0, 0) := rfl
theorem r202_34 : Rn 202 (34, [x0, x1, x2], st, a, h) = Rn 202 (35, [x0, x1, x2], .int (0 : Int32) :: st, a, h) := Rn_go c202_34 rfl
theorem c202_35 : mcode 202 35 = some (.ireturn, 1, 1, 0, 0) := rfl
theorem r202_35 : Rn 202 (35, [x0, x1, x2], [.int i], a, h) = if mrt 1 i = true then some (some (.int i), a, h) else none := Rn_iretz c202_35
theorem c203_0 : mcode 203 0 = some (.aload_n 0, 1, 0, 0, 0) := rfl
theorem r203_0 : Rn 203 (0, [some (.ref q)], st, a, h) = Rn 203 (1, [some (.ref q)], .ref q :: st, a, h) := Rn_go c203_0 rfl
theorem c203_1 : mcode 203 1 = some (.bipush 116, 2, 0, 0, 0) := rfl
theorem r203_1 : Rn 203 (1, [x0], st, a, h) = Rn 203 (3, [x0], .int (116 : Int32) :: st, a, h) := Rn_go c203_1 rfl
theorem c203_3 : mcode 203 3 = some (.bipush 104, 2, 0, 0, 0) := rfl
theorem r203_3 : Rn 203 (3, [x0], st, a, h) = Rn 203 (5, [x0], .int (104 : Int32) :: st, a, h) := Rn_go c203_3 rfl
theorem c203_5 : mcode 203 5 = some (.bipush 105, 2, 0, 0, 0) := rfl
theorem r203_5 : Rn 203 (5, [x0], st, a, h) = Rn 203 (7, [x0], .int (105 : Int32) :: st, a, h) := Rn_go c203_5 rfl
theorem c203_7 : mcode 203 7 = some (.bipush 110, 2, 0, 0, 0) := rfl
theorem r203_7 : Rn 203 (7, [x0], st, a, h) = Rn 203 (9, [x0], .int (110 : Int32) :: st, a, h) := Rn_go c203_7 rfl
theorem c203_9 : mcode 203 9 = some (.bipush 103, 2, 0, 0, 0) := rfl
theorem r203_9 : Rn 203 (9, [x0], st, a, h) = Rn 203 (11, [x0], .int (103 : Int32) :: st, a, h) := Rn_go c203_9 rfl
theorem c203_11 : mcode 203 11 = some (.invokevirtual 251, 3, 201, 5, 6) := rfl
theorem r203_11 : Rn 203 (11, [x0], [v4, v3, v2, v1, v0, .ref q], a, h) = if mis h q 6 = true then Bk 203 14 [x0] [] (Ec 201 [.ref q, v0, v1, v2, v3, v4] a h) else none := Rn_call1 c203_11 rfl (Nat.le_of_ble_eq_true rfl) rfl rfl (Nat.le_of_ble_eq_true rfl)
theorem c203_14 : mcode 203 14 = some (.ifCond .eq 5, 3, 0, 0, 0) := rfl
theorem r203_14 : Rn 203 (14, [x0], .int i :: st, a, h) = if i = 0 then Rn 203 (19, [x0], st, a, h) else Rn 203 (17, [x0], st, a, h) := Rn_ifc c203_14 mc_eq rfl rfl
theorem c203_17 : mcode 203 17 = some (.iconst 0, 1, 0, 0, 0) := rfl
theorem r203_17 : Rn 203 (17, [x0], st, a, h) = Rn 203 (18, [x0], .int (0 : Int32) :: st, a, h) := Rn_go c203_17 rfl
theorem c203_18 : mcode 203 18 = some (.ireturn, 1, 0, 0, 0) := rfl
theorem r203_18 : Rn 203 (18, [x0], [.int i], a, h) = some (some (.int i), a, h) := Rn_ireti c203_18
theorem c203_19 : mcode 203 19 = some (.aload_n 0, 1, 0, 0, 0) := rfl
theorem r203_19 : Rn 203 (19, [some (.ref q)], st, a, h) = Rn 203 (20, [some (.ref q)], .ref q :: st, a, h) := Rn_go c203_19 rfl
theorem c203_20 : mcode 203 20 = some (.bipush 103, 2, 0, 0, 0) := rfl
theorem r203_20 : Rn 203 (20, [x0], st, a, h) = Rn 203 (22, [x0], .int (103 : Int32) :: st, a, h) := Rn_go c203_20 rfl
theorem c203_22 : mcode 203 22 = some (.bipush 108, 2, 0, 0, 0) := rfl
theorem r203_22 : Rn 203 (22, [x0], st, a, h) = Rn 203 (24, [x0], .int (108 : Int32) :: st, a, h) := Rn_go c203_22 rfl
theorem c203_24 : mcode 203 24 = some (.bipush 111, 2, 0, 0, 0) := rfl
theorem r203_24 : Rn 203 (24, [x0], st, a, h) = Rn 203 (26, [x0], .int (111 : Int32) :: st, a, h) := Rn_go c203_24 rfl
theorem c203_26 : mcode 203 26 = some (.bipush 118, 2, 0, 0, 0) := rfl
theorem r203_26 : Rn 203 (26, [x0], st, a, h) = Rn 203 (28, [x0], .int (118 : Int32) :: st, a, h) := Rn_go c203_26 rfl
theorem c203_28 : mcode 203 28 = some (.bipush 101, 2, 0, 0, 0) := rfl
theorem r203_28 : Rn 203 (28, [x0], st, a, h) = Rn 203 (30, [x0], .int (101 : Int32) :: st, a, h) := Rn_go c203_28 rfl
theorem c203_30 : mcode 203 30 = some (.invokevirtual 251, 3, 201, 5, 6) := rfl
theorem r203_30 : Rn 203 (30, [x0], [v4, v3, v2, v1, v0, .ref q], a, h) = if mis h q 6 = true then Bk 203 33 [x0] [] (Ec 201 [.ref q, v0, v1, v2, v3, v4] a h) else none := Rn_call1 c203_30 rfl (Nat.le_of_ble_eq_true rfl) rfl rfl (Nat.le_of_ble_eq_true rfl)
theorem c203_33 : mcode 203 33 = some (.ifCond .eq 5, 3, 0, 0, 0) := rfl
theorem r203_33 : Rn 203 (33, [x0], .int i :: st, a, h) = if i = 0 then Rn 203 (38, [x0], st, a, h) else Rn 203 (36, [x0], st, a, h) := Rn_ifc c203_33 mc_eq rfl rfl
theorem c203_36 : mcode 203 36 = some (.iconst 1, 1, 0, 0, 0) := rfl
theorem r203_36 : Rn 203 (36, [x0], st, a, h) = Rn 203 (37, [x0], .int (1 : Int32) :: st, a, h) := Rn_go c203_36 rfl
theorem c203_37 : mcode 203 37 = some (.ireturn, 1, 0, 0, 0) := rfl
theorem r203_37 : Rn 203 (37, [x0], [.int i], a, h) = some (some (.int i), a, h) := Rn_ireti c203_37
theorem c203_38 : mcode 203 38 = some (.aload_n 0, 1, 0, 0, 0) := rfl
theorem r203_38 : Rn 203 (38, [some (.ref q)], st, a, h) = Rn 203 (39, [some (.ref q)], .ref q :: st, a, h) := Rn_go c203_38 rfl
theorem c203_39 : mcode 203 39 = some (.bipush 118, 2, 0, 0, 0) := rfl
theorem r203_39 : Rn 203 (39, [x0], st, a, h) = Rn 203 (41, [x0], .int (118 : Int32) :: st, a, h) := Rn_go c203_39 rfl
theorem c203_41 : mcode 203 41 = some (.bipush 101, 2, 0, 0, 0) := rfl
theorem r203_41 : Rn 203 (41, [x0], st, a, h) = Rn 203 (43, [x0], .int (101 : Int32) :: st, a, h) := Rn_go c203_41 rfl
theorem c203_43 : mcode 203 43 = some (.bipush 105, 2, 0, 0, 0) := rfl
theorem r203_43 : Rn 203 (43, [x0], st, a, h) = Rn 203 (45, [x0], .int (105 : Int32) :: st, a, h) := Rn_go c203_43 rfl
theorem c203_45 : mcode 203 45 = some (.bipush 108, 2, 0, 0, 0) := rfl
theorem r203_45 : Rn 203 (45, [x0], st, a, h) = Rn 203 (47, [x0], .int (108 : Int32) :: st, a, h) := Rn_go c203_45 rfl
theorem c203_47 : mcode 203 47 = some (.invokevirtual 255, 3, 200, 4, 6) := rfl
theorem r203_47 : Rn 203 (47, [x0], [v3, v2, v1, v0, .ref q], a, h) = if mis h q 6 = true then Bk 203 50 [x0] [] (Ec 200 [.ref q, v0, v1, v2, v3] a h) else none := Rn_call1 c203_47 rfl (Nat.le_of_ble_eq_true rfl) rfl rfl (Nat.le_of_ble_eq_true rfl)
theorem c203_50 : mcode 203 50 = some (.ifCond .eq 5, 3, 0, 0, 0) := rfl
theorem r203_50 : Rn 203 (50, [x0], .int i :: st, a, h) = if i = 0 then Rn 203 (55, [x0], st, a, h) else Rn 203 (53, [x0], st, a, h) := Rn_ifc c203_50 mc_eq rfl rfl
theorem c203_53 : mcode 203 53 = some (.iconst 2, 1, 0, 0, 0) := rfl
theorem r203_53 : Rn 203 (53, [x0], st, a, h) = Rn 203 (54, [x0], .int (2 : Int32) :: st, a, h) := Rn_go c203_53 rfl
theorem c203_54 : mcode 203 54 = some (.ireturn, 1, 0, 0, 0) := rfl
theorem r203_54 : Rn 203 (54, [x0], [.int i], a, h) = some (some (.int i), a, h) := Rn_ireti c203_54
theorem c203_55 : mcode 203 55 = some (.aload_n 0, 1, 0, 0, 0) := rfl
theorem r203_55 : Rn 203 (55, [some (.ref q)], st, a, h) = Rn 203 (56, [some (.ref q)], .ref q :: st, a, h) := Rn_go c203_55 rfl
theorem c203_56 : mcode 203 56 = some (.bipush 100, 2, 0, 0, 0) := rfl
theorem r203_56 : Rn 203 (56, [x0], st, a, h) = Rn 203 (58, [x0], .int (100 : Int32) :: st, a, h) := Rn_go c203_56 rfl
theorem c203_58 : mcode 203 58 = some (.bipush 114, 2, 0, 0, 0) := rfl
theorem r203_58 : Rn 203 (58, [x0], st, a, h) = Rn 203 (60, [x0], .int (114 : Int32) :: st, a, h) := Rn_go c203_58 rfl
theorem c203_60 : mcode 203 60 = some (.bipush 101, 2, 0, 0, 0) := rfl
theorem r203_60 : Rn 203 (60, [x0], st, a, h) = Rn 203 (62, [x0], .int (101 : Int32) :: st, a, h) := Rn_go c203_60 rfl
theorem c203_62 : mcode 203 62 = some (.bipush 115, 2, 0, 0, 0) := rfl
theorem r203_62 : Rn 203 (62, [x0], st, a, h) = Rn 203 (64, [x0], .int (115 : Int32) :: st, a, h) := Rn_go c203_62 rfl
theorem c203_64 : mcode 203 64 = some (.bipush 115, 2, 0, 0, 0) := rfl
theorem r203_64 : Rn 203 (64, [x0], st, a, h) = Rn 203 (66, [x0], .int (115 : Int32) :: st, a, h) := Rn_go c203_64 rfl
theorem c203_66 : mcode 203 66 = some (.invokevirtual 251, 3, 201, 5, 6) := rfl
theorem r203_66 : Rn 203 (66, [x0], [v4, v3, v2, v1, v0, .ref q], a, h) = if mis h q 6 = true then Bk 203 69 [x0] [] (Ec 201 [.ref q, v0, v1, v2, v3, v4] a h) else none := Rn_call1 c203_66 rfl (Nat.le_of_ble_eq_true rfl) rfl rfl (Nat.le_of_ble_eq_true rfl)
theorem c203_69 : mcode 203 69 = some (.ifCond .eq 5, 3, 0, 0, 0) := rfl
theorem r203_69 : Rn 203 (69, [x0], .int i :: st, a, h) = if i = 0 then Rn 203 (74, [x0], st, a, h) else Rn 203 (72, [x0], st, a, h) := Rn_ifc c203_69 mc_eq rfl rfl
theorem c203_72 : mcode 203 72 = some (.iconst 3, 1, 0, 0, 0) := rfl
theorem r203_72 : Rn 203 (72, [x0], st, a, h) = Rn 203 (73, [x0], .int (3 : Int32) :: st, a, h) := Rn_go c203_72 rfl
theorem c203_73 : mcode 203 73 = some (.ireturn, 1, 0, 0, 0) := rfl
theorem r203_73 : Rn 203 (73, [x0], [.int i], a, h) = some (some (.int i), a, h) := Rn_ireti c203_73
theorem c203_74 : mcode 203 74 = some (.aload_n 0, 1, 0, 0, 0) := rfl
theorem r203_74 : Rn 203 (74, [some (.ref q)], st, a, h) = Rn 203 (75, [some (.ref q)], .ref q :: st, a, h) := Rn_go c203_74 rfl
theorem c203_75 : mcode 203 75 = some (.bipush 100, 2, 0, 0, 0) := rfl
theorem r203_75 : Rn 203 (75, [x0], st, a, h) = Rn 203 (77, [x0], .int (100 : Int32) :: st, a, h) := Rn_go c203_75 rfl
theorem c203_77 : mcode 203 77 = some (.bipush 97, 2, 0, 0, 0) := rfl
theorem r203_77 : Rn 203 (77, [x0], st, a, h) = Rn 203 (79, [x0], .int (97 : Int32) :: st, a, h) := Rn_go c203_77 rfl
theorem c203_79 : mcode 203 79 = some (.bipush 110, 2, 0, 0, 0) := rfl
theorem r203_79 : Rn 203 (79, [x0], st, a, h) = Rn 203 (81, [x0], .int (110 : Int32) :: st, a, h) := Rn_go c203_79 rfl
theorem c203_81 : mcode 203 81 = some (.bipush 99, 2, 0, 0, 0) := rfl
theorem r203_81 : Rn 203 (81, [x0], st, a, h) = Rn 203 (83, [x0], .int (99 : Int32) :: st, a, h) := Rn_go c203_81 rfl
theorem c203_83 : mcode 203 83 = some (.bipush 101, 2, 0, 0, 0) := rfl
theorem r203_83 : Rn 203 (83, [x0], st, a, h) = Rn 203 (85, [x0], .int (101 : Int32) :: st, a, h) := Rn_go c203_83 rfl
theorem c203_85 : mcode 203 85 = some (.invokevirtual 251, 3, 201, 5, 6) := rfl
theorem r203_85 : Rn 203 (85, [x0], [v4, v3, v2, v1, v0, .ref q], a, h) = if mis h q 6 = true then Bk 203 88 [x0] [] (Ec 201 [.ref q, v0, v1, v2, v3, v4] a h) else none := Rn_call1 c203_85 rfl (Nat.le_of_ble_eq_true rfl) rfl rfl (Nat.le_of_ble_eq_true rfl)
theorem c203_88 : mcode 203 88 = some (.ifCond .eq 5, 3, 0, 0, 0) := rfl
theorem r203_88 : Rn 203 (88, [x0], .int i :: st, a, h) = if i = 0 then Rn 203 (93, [x0], st, a, h) else Rn 203 (91, [x0], st, a, h) := Rn_ifc c203_88 mc_eq rfl rfl
theorem c203_91 : mcode 203 91 = some (.iconst 4, 1, 0, 0, 0) := rfl
theorem r203_91 : Rn 203 (91, [x0], st, a, h) = Rn 203 (92, [x0], .int (4 : Int32) :: st, a, h) := Rn_go c203_91 rfl
theorem c203_92 : mcode 203 92 = some (.ireturn, 1, 0, 0, 0) := rfl
theorem r203_92 : Rn 203 (92, [x0], [.int i], a, h) = some (some (.int i), a, h) := Rn_ireti c203_92
theorem c203_93 : mcode 203 93 = some (.aload_n 0, 1, 0, 0, 0) := rfl
theorem r203_93 : Rn 203 (93, [some (.ref q)], st, a, h) = Rn 203 (94, [some (.ref q)], .ref q :: st, a, h) := Rn_go c203_93 rfl
theorem c203_94 : mcode 203 94 = some (.bipush 115, 2, 0, 0, 0) := rfl
theorem r203_94 : Rn 203 (94, [x0], st, a, h) = Rn 203 (96, [x0], .int (115 : Int32) :: st, a, h) := Rn_go c203_94 rfl
theorem c203_96 : mcode 203 96 = some (.bipush 116, 2, 0, 0, 0) := rfl
theorem r203_96 : Rn 203 (96, [x0], st, a, h) = Rn 203 (98, [x0], .int (116 : Int32) :: st, a, h) := Rn_go c203_96 rfl
theorem c203_98 : mcode 203 98 = some (.bipush 111, 2, 0, 0, 0) := rfl
theorem r203_98 : Rn 203 (98, [x0], st, a, h) = Rn 203 (100, [x0], .int (111 : Int32) :: st, a, h) := Rn_go c203_98 rfl
theorem c203_100 : mcode 203 100 = some (.bipush 110, 2, 0, 0, 0) := rfl
theorem r203_100 : Rn 203 (100, [x0], st, a, h) = Rn 203 (102, [x0], .int (110 : Int32) :: st, a, h) := Rn_go c203_100 rfl
theorem c203_102 : mcode 203 102 = some (.bipush 101, 2, 0, 0, 0) := rfl
theorem r203_102 : Rn 203 (102, [x0], st, a, h) = Rn 203 (104, [x0], .int (101 : Int32) :: st, a, h) := Rn_go c203_102 rfl
theorem c203_104 : mcode 203 104 = some (.invokevirtual 251, 3, 201, 5, 6) := rfl
theorem r203_104 : Rn 203 (104, [x0], [v4, v3, v2, v1, v0, .ref q], a, h) = if mis h q 6 = true then Bk 203 107 [x0] [] (Ec 201 [.ref q, v0, v1, v2, v3, v4] a h) else none := Rn_call1 c203_104 rfl (Nat.le_of_ble_eq_true rfl) rfl rfl (Nat.le_of_ble_eq_true rfl)
theorem c203_107 : mcode 203 107 = some (.ifCond .eq 5, 3, 0, 0, 0) := rfl
theorem r203_107 : Rn 203 (107, [x0], .int i :: st, a, h) = if i = 0 then Rn 203 (112, [x0], st, a, h) else Rn 203 (110, [x0], st, a, h) := Rn_ifc c203_107 mc_eq rfl rfl
theorem c203_110 : mcode 203 110 = some (.iconst 5, 1, 0, 0, 0) := rfl
theorem r203_110 : Rn 203 (110, [x0], st, a, h) = Rn 203 (111, [x0], .int (5 : Int32) :: st, a, h) := Rn_go c203_110 rfl
theorem c203_111 : mcode 203 111 = some (.ireturn, 1, 0, 0, 0) := rfl
theorem r203_111 : Rn 203 (111, [x0], [.int i], a, h) = some (some (.int i), a, h) := Rn_ireti c203_111
theorem c203_112 : mcode 203 112 = some (.aload_n 0, 1, 0, 0, 0) := rfl
theorem r203_112 : Rn 203 (112, [some (.ref q)], st, a, h) = Rn 203 (113, [some (.ref q)], .ref q :: st, a, h) := Rn_go c203_112 rfl
theorem c203_113 : mcode 203 113 = some (.bipush 109, 2, 0, 0, 0) := rfl
theorem r203_113 : Rn 203 (113, [x0], st, a, h) = Rn 203 (115, [x0], .int (109 : Int32) :: st, a, h) := Rn_go c203_113 rfl
theorem c203_115 : mcode 203 115 = some (.bipush 101, 2, 0, 0, 0) := rfl
theorem r203_115 : Rn 203 (115, [x0], st, a, h) = Rn 203 (117, [x0], .int (101 : Int32) :: st, a, h) := Rn_go c203_115 rfl
theorem c203_117 : mcode 203 117 = some (.bipush 100, 2, 0, 0, 0) := rfl
theorem r203_117 : Rn 203 (117, [x0], st, a, h) = Rn 203 (119, [x0], .int (100 : Int32) :: st, a, h) := Rn_go c203_117 rfl
theorem c203_119 : mcode 203 119 = some (.bipush 97, 2, 0, 0, 0) := rfl
theorem r203_119 : Rn 203 (119, [x0], st, a, h) = Rn 203 (121, [x0], .int (97 : Int32) :: st, a, h) := Rn_go c203_119 rfl
theorem c203_121 : mcode 203 121 = some (.bipush 108, 2, 0, 0, 0) := rfl
theorem r203_121 : Rn 203 (121, [x0], st, a, h) = Rn 203 (123, [x0], .int (108 : Int32) :: st, a, h) := Rn_go c203_121 rfl
theorem c203_123 : mcode 203 123 = some (.invokevirtual 251, 3, 201, 5, 6) := rfl
theorem r203_123 : Rn 203 (123, [x0], [v4, v3, v2, v1, v0, .ref q], a, h) = if mis h q 6 = true then Bk 203 126 [x0] [] (Ec 201 [.ref q, v0, v1, v2, v3, v4] a h) else none := Rn_call1 c203_123 rfl (Nat.le_of_ble_eq_true rfl) rfl rfl (Nat.le_of_ble_eq_true rfl)
theorem c203_126 : mcode 203 126 = some (.ifCond .eq 8, 3, 0, 0, 0) := rfl
theorem r203_126 : Rn 203 (126, [x0], .int i :: st, a, h) = if i = 0 then Rn 203 (134, [x0], st, a, h) else Rn 203 (129, [x0], st, a, h) := Rn_ifc c203_126 mc_eq rfl rfl
theorem c203_129 : mcode 203 129 = some (.bipush 6, 2, 0, 0, 0) := rfl
theorem r203_129 : Rn 203 (129, [x0], st, a, h) = Rn 203 (131, [x0], .int (6 : Int32) :: st, a, h) := Rn_go c203_129 rfl
theorem c203_131 : mcode 203 131 = some (.goto 4, 3, 0, 0, 0) := rfl
theorem r203_131 : Rn 203 (131, [x0], st, a, h) = Rn 203 (135, [x0], st, a, h) := Rn_goto c203_131 rfl
theorem c203_134 : mcode 203 134 = some (.iconst (-1), 1, 0, 0, 0) := rfl
theorem r203_134 : Rn 203 (134, [x0], st, a, h) = Rn 203 (135, [x0], .int (-1 : Int32) :: st, a, h) := Rn_go c203_134 rfl
theorem c203_135 : mcode 203 135 = some (.ireturn, 1, 0, 0, 0) := rfl
theorem r203_135 : Rn 203 (135, [x0], [.int i], a, h) = some (some (.int i), a, h) := Rn_ireti c203_135
theorem c204_0 : mcode 204 0 = some (.aload_n 0, 1, 0, 0, 0) := rfl
theorem r204_0 : Rn 204 (0, [some (.ref q), x1, x2], st, a, h) = Rn 204 (1, [some (.ref q), x1, x2], .ref q :: st, a, h) := Rn_go c204_0 rfl
theorem c204_1 : mcode 204 1 = some (.iconst 2, 1, 0, 0, 0) := rfl
theorem r204_1 : Rn 204 (1, [x0, x1, x2], st, a, h) = Rn 204 (2, [x0, x1, x2], .int (2 : Int32) :: st, a, h) := Rn_go c204_1 rfl
theorem c204_2 : mcode 204 2 = some (.invokevirtual 240, 3, 198, 1, 6) := rfl
theorem r204_2 : Rn 204 (2, [x0, x1, x2], [v0, .ref q], a, h) = if mis h q 6 = true then Bk 204 5 [x0, x1, x2] [] (Ec 198 [.ref q, v0] a h) else none := Rn_call1 c204_2 rfl (Nat.le_of_ble_eq_true rfl) rfl rfl (Nat.le_of_ble_eq_true rfl)
theorem c204_5 : mcode 204 5 = some (.ifCond .eq 33, 3, 0, 0, 0) := rfl
theorem r204_5 : Rn 204 (5, [x0, x1, x2], .int i :: st, a, h) = if i = 0 then Rn 204 (38, [x0, x1, x2], st, a, h) else Rn 204 (8, [x0, x1, x2], st, a, h) := Rn_ifc c204_5 mc_eq rfl rfl
theorem c204_8 : mcode 204 8 = some (.aload_n 0, 1, 0, 0, 0) := rfl
theorem r204_8 : Rn 204 (8, [some (.ref q), x1, x2], st, a, h) = Rn 204 (9, [some (.ref q), x1, x2], .ref q :: st, a, h) := Rn_go c204_8 rfl
theorem c204_9 : mcode 204 9 = some (.aload_n 0, 1, 0, 0, 0) := rfl
theorem r204_9 : Rn 204 (9, [some (.ref q), x1, x2], st, a, h) = Rn 204 (10, [some (.ref q), x1, x2], .ref q :: st, a, h) := Rn_go c204_9 rfl
theorem c204_10 : mcode 204 10 = some (.getfield 219, 3, 6, 14, 0) := rfl
theorem r204_10 : Rn 204 (10, [x0, x1, x2], .ref q :: st, a, h) = Kv 204 13 [x0, x1, x2] st a h (mgf h q 6 14) := Rn_getf c204_10 rfl
theorem c204_13 : mcode 204 13 = some (.invokevirtual 222, 3, 195, 1, 6) := rfl
theorem r204_13 : Rn 204 (13, [x0, x1, x2], [v0, .ref q], a, h) = if mis h q 6 = true then Bk 204 16 [x0, x1, x2] [] (Ec 195 [.ref q, v0] a h) else none := Rn_call1 c204_13 rfl (Nat.le_of_ble_eq_true rfl) rfl rfl (Nat.le_of_ble_eq_true rfl)
theorem c204_16 : mcode 204 16 = some (.iload_n 1, 1, 0, 0, 0) := rfl
theorem r204_16 : Rn 204 (16, [x0, some (.int i), x2], st, a, h) = Rn 204 (17, [x0, some (.int i), x2], .int i :: st, a, h) := Rn_go c204_16 rfl
theorem c204_17 : mcode 204 17 = some (.if_icmp .ne 21, 3, 0, 0, 0) := rfl
theorem r204_17 : Rn 204 (17, [x0, x1, x2], .int j :: .int i :: st, a, h) = if i = j then Rn 204 (20, [x0, x1, x2], st, a, h) else Rn 204 (38, [x0, x1, x2], st, a, h) := Rn_icmpn c204_17 mc_ne rfl rfl
theorem c204_20 : mcode 204 20 = some (.aload_n 0, 1, 0, 0, 0) := rfl
theorem r204_20 : Rn 204 (20, [some (.ref q), x1, x2], st, a, h) = Rn 204 (21, [some (.ref q), x1, x2], .ref q :: st, a, h) := Rn_go c204_20 rfl
theorem c204_21 : mcode 204 21 = some (.aload_n 0, 1, 0, 0, 0) := rfl
theorem r204_21 : Rn 204 (21, [some (.ref q), x1, x2], st, a, h) = Rn 204 (22, [some (.ref q), x1, x2], .ref q :: st, a, h) := Rn_go c204_21 rfl
theorem c204_22 : mcode 204 22 = some (.getfield 219, 3, 6, 14, 0) := rfl
theorem r204_22 : Rn 204 (22, [x0, x1, x2], .ref q :: st, a, h) = Kv 204 25 [x0, x1, x2] st a h (mgf h q 6 14) := Rn_getf c204_22 rfl
theorem c204_25 : mcode 204 25 = some (.iconst 1, 1, 0, 0, 0) := rfl
theorem r204_25 : Rn 204 (25, [x0, x1, x2], st, a, h) = Rn 204 (26, [x0, x1, x2], .int (1 : Int32) :: st, a, h) := Rn_go c204_25 rfl
theorem c204_26 : mcode 204 26 = some (.iadd, 1, 0, 0, 0) := rfl
theorem r204_26 : Rn 204 (26, [x0, x1, x2], .int j :: .int i :: st, a, h) = Rn 204 (27, [x0, x1, x2], .int (i + j) :: st, a, h) := Rn_go c204_26 rfl
theorem c204_27 : mcode 204 27 = some (.invokevirtual 222, 3, 195, 1, 6) := rfl
theorem r204_27 : Rn 204 (27, [x0, x1, x2], [v0, .ref q], a, h) = if mis h q 6 = true then Bk 204 30 [x0, x1, x2] [] (Ec 195 [.ref q, v0] a h) else none := Rn_call1 c204_27 rfl (Nat.le_of_ble_eq_true rfl) rfl rfl (Nat.le_of_ble_eq_true rfl)
theorem c204_30 : mcode 204 30 = some (.iload_n 2, 1, 0, 0, 0) := rfl
theorem r204_30 : Rn 204 (30, [x0, x1, some (.int i)], st, a, h) = Rn 204 (31, [x0, x1, some (.int i)], .int i :: st, a, h) := Rn_go c204_30 rfl
theorem c204_31 : mcode 204 31 = some (.if_icmp .ne 7, 3, 0, 0, 0) := rfl
theorem r204_31 : Rn 204 (31, [x0, x1, x2], .int j :: .int i :: st, a, h) = if i = j then Rn 204 (34, [x0, x1, x2], st, a, h) else Rn 204 (38, [x0, x1, x2], st, a, h) := Rn_icmpn c204_31 mc_ne rfl rfl
theorem c204_34 : mcode 204 34 = some (.iconst 1, 1, 0, 0, 0) := rfl
theorem r204_34 : Rn 204 (34, [x0, x1, x2], st, a, h) = Rn 204 (35, [x0, x1, x2], .int (1 : Int32) :: st, a, h) := Rn_go c204_34 rfl
theorem c204_35 : mcode 204 35 = some (.goto 4, 3, 0, 0, 0) := rfl
theorem r204_35 : Rn 204 (35, [x0, x1, x2], st, a, h) = Rn 204 (39, [x0, x1, x2], st, a, h) := Rn_goto c204_35 rfl
theorem c204_38 : mcode 204 38 = some (.iconst 0, 1, 0, 0, 0) := rfl
theorem r204_38 : Rn 204 (38, [x0, x1, x2], st, a, h) = Rn 204 (39, [x0, x1, x2], .int (0 : Int32) :: st, a, h) := Rn_go c204_38 rfl
theorem c204_39 : mcode 204 39 = some (.ireturn, 1, 1, 0, 0) := rfl
theorem r204_39 : Rn 204 (39, [x0, x1, x2], [.int i], a, h) = if mrt 1 i = true then some (some (.int i), a, h) else none := Rn_iretz c204_39
theorem c205_0 : mcode 205 0 = some (.iload_n 1, 1, 0, 0, 0) := rfl
theorem r205_0 : Rn 205 (0, [x0, some (.int i), x2, x3], st, a, h) = Rn 205 (1, [x0, some (.int i), x2, x3], .int i :: st, a, h) := Rn_go c205_0 rfl
theorem c205_1 : mcode 205 1 = some (.ifCond .ne 5, 3, 0, 0, 0) := rfl
theorem r205_1 : Rn 205 (1, [x0, x1, x2, x3], .int i :: st, a, h) = if i = 0 then Rn 205 (4, [x0, x1, x2, x3], st, a, h) else Rn 205 (6, [x0, x1, x2, x3], st, a, h) := Rn_ifcn c205_1 mc_ne rfl rfl
theorem c205_4 : mcode 205 4 = some (.iconst 1, 1, 0, 0, 0) := rfl
theorem r205_4 : Rn 205 (4, [x0, x1, x2, x3], st, a, h) = Rn 205 (5, [x0, x1, x2, x3], .int (1 : Int32) :: st, a, h) := Rn_go c205_4 rfl
theorem c205_5 : mcode 205 5 = some (.ireturn, 1, 1, 0, 0) := rfl
theorem r205_5 : Rn 205 (5, [x0, x1, x2, x3], [.int i], a, h) = if mrt 1 i = true then some (some (.int i), a, h) else none := Rn_iretz c205_5
theorem c205_6 : mcode 205 6 = some (.aload_n 0, 1, 0, 0, 0) := rfl
theorem r205_6 : Rn 205 (6, [some (.ref q), x1, x2, x3], st, a, h) = Rn 205 (7, [some (.ref q), x1, x2, x3], .ref q :: st, a, h) := Rn_go c205_6 rfl
theorem c205_7 : mcode 205 7 = some (.invokevirtual 258, 3, 196, 0, 6) := rfl
theorem r205_7 : Rn 205 (7, [x0, x1, x2, x3], [.ref q], a, h) = if mis h q 6 = true then Bk 205 10 [x0, x1, x2, x3] [] (Ec 196 [.ref q] a h) else none := Rn_call1 c205_7 rfl (Nat.le_of_ble_eq_true rfl) rfl rfl (Nat.le_of_ble_eq_true rfl)
theorem c205_10 : mcode 205 10 = some (.aload_n 0, 1, 0, 0, 0) := rfl
theorem r205_10 : Rn 205 (10, [some (.ref q), x1, x2, x3], st, a, h) = Rn 205 (11, [some (.ref q), x1, x2, x3], .ref q :: st, a, h) := Rn_go c205_10 rfl
theorem c205_11 : mcode 205 11 = some (.iconst 0, 1, 0, 0, 0) := rfl
theorem r205_11 : Rn 205 (11, [x0, x1, x2, x3], st, a, h) = Rn 205 (12, [x0, x1, x2, x3], .int (0 : Int32) :: st, a, h) := Rn_go c205_11 rfl
theorem c205_12 : mcode 205 12 = some (.iload_n 3, 1, 0, 0, 0) := rfl
theorem r205_12 : Rn 205 (12, [x0, x1, x2, some (.int i)], st, a, h) = Rn 205 (13, [x0, x1, x2, some (.int i)], .int i :: st, a, h) := Rn_go c205_12 rfl
theorem c205_13 : mcode 205 13 = some (.invokevirtual 261, 3, 202, 2, 6) := rfl
theorem r205_13 : Rn 205 (13, [x0, x1, x2, x3], [v1, v0, .ref q], a, h) = if mis h q 6 = true then Bk 205 16 [x0, x1, x2, x3] [] (Ec 202 [.ref q, v0, v1] a h) else none := Rn_call1 c205_13 rfl (Nat.le_of_ble_eq_true rfl) rfl rfl (Nat.le_of_ble_eq_true rfl)
theorem c205_16 : mcode 205 16 = some (.ifCond .ne 5, 3, 0, 0, 0) := rfl
theorem r205_16 : Rn 205 (16, [x0, x1, x2, x3], .int i :: st, a, h) = if i = 0 then Rn 205 (19, [x0, x1, x2, x3], st, a, h) else Rn 205 (21, [x0, x1, x2, x3], st, a, h) := Rn_ifcn c205_16 mc_ne rfl rfl
theorem c205_19 : mcode 205 19 = some (.iconst 0, 1, 0, 0, 0) := rfl
theorem r205_19 : Rn 205 (19, [x0, x1, x2, x3], st, a, h) = Rn 205 (20, [x0, x1, x2, x3], .int (0 : Int32) :: st, a, h) := Rn_go c205_19 rfl
theorem c205_20 : mcode 205 20 = some (.ireturn, 1, 1, 0, 0) := rfl
theorem r205_20 : Rn 205 (20, [x0, x1, x2, x3], [.int i], a, h) = if mrt 1 i = true then some (some (.int i), a, h) else none := Rn_iretz c205_20
theorem c205_21 : mcode 205 21 = some (.aload_n 0, 1, 0, 0, 0) := rfl
theorem r205_21 : Rn 205 (21, [some (.ref q), x1, x2, x3], st, a, h) = Rn 205 (22, [some (.ref q), x1, x2, x3], .ref q :: st, a, h) := Rn_go c205_21 rfl
theorem c205_22 : mcode 205 22 = some (.getfield 7, 3, 6, 0, 0) := rfl
theorem r205_22 : Rn 205 (22, [x0, x1, x2, x3], .ref q :: st, a, h) = Kv 205 25 [x0, x1, x2, x3] st a h (mgf h q 6 0) := Rn_getf c205_22 rfl
theorem c205_25 : mcode 205 25 = some (.iload_n 2, 1, 0, 0, 0) := rfl
theorem r205_25 : Rn 205 (25, [x0, x1, some (.int i), x3], st, a, h) = Rn 205 (26, [x0, x1, some (.int i), x3], .int i :: st, a, h) := Rn_go c205_25 rfl
theorem c205_26 : mcode 205 26 = some (.aload_n 0, 1, 0, 0, 0) := rfl
theorem r205_26 : Rn 205 (26, [some (.ref q), x1, x2, x3], st, a, h) = Rn 205 (27, [some (.ref q), x1, x2, x3], .ref q :: st, a, h) := Rn_go c205_26 rfl
theorem c205_27 : mcode 205 27 = some (.getfield 234, 3, 6, 16, 0) := rfl
theorem r205_27 : Rn 205 (27, [x0, x1, x2, x3], .ref q :: st, a, h) = Kv 205 30 [x0, x1, x2, x3] st a h (mgf h q 6 16) := Rn_getf c205_27 rfl
theorem c205_30 : mcode 205 30 = some (.iastore, 1, 0, 0, 0) := rfl
theorem r205_30 : Rn 205 (30, [x0, x1, x2, x3], .int j :: .int i :: .ref q :: st, a, h) = Kh 205 31 [x0, x1, x2, x3] st a (mias h q i j) := Rn_iast c205_30 rfl
theorem c205_31 : mcode 205 31 = some (.aload_n 0, 1, 0, 0, 0) := rfl
theorem r205_31 : Rn 205 (31, [some (.ref q), x1, x2, x3], st, a, h) = Rn 205 (32, [some (.ref q), x1, x2, x3], .ref q :: st, a, h) := Rn_go c205_31 rfl
theorem c205_32 : mcode 205 32 = some (.invokevirtual 258, 3, 196, 0, 6) := rfl
theorem r205_32 : Rn 205 (32, [x0, x1, x2, x3], [.ref q], a, h) = if mis h q 6 = true then Bk 205 35 [x0, x1, x2, x3] [] (Ec 196 [.ref q] a h) else none := Rn_call1 c205_32 rfl (Nat.le_of_ble_eq_true rfl) rfl rfl (Nat.le_of_ble_eq_true rfl)
theorem c205_35 : mcode 205 35 = some (.iconst 1, 1, 0, 0, 0) := rfl
theorem r205_35 : Rn 205 (35, [x0, x1, x2, x3], st, a, h) = Rn 205 (36, [x0, x1, x2, x3], .int (1 : Int32) :: st, a, h) := Rn_go c205_35 rfl
theorem c205_36 : mcode 205 36 = some (.ireturn, 1, 1, 0, 0) := rfl
theorem r205_36 : Rn 205 (36, [x0, x1, x2, x3], [.int i], a, h) = if mrt 1 i = true then some (some (.int i), a, h) else none := Rn_iretz c205_36
theorem c206_0 : mcode 206 0 = some (.aload_n 0, 1, 0, 0, 0) := rfl
theorem r206_0 : Rn 206 (0, [some (.ref q), x1, x2], st, a, h) = Rn 206 (1, [some (.ref q), x1, x2], .ref q :: st, a, h) := Rn_go c206_0 rfl
theorem c206_1 : mcode 206 1 = some (.getfield 7, 3, 6, 0, 0) := rfl
theorem r206_1 : Rn 206 (1, [x0, x1, x2], .ref q :: st, a, h) = Kv 206 4 [x0, x1, x2] st a h (mgf h q 6 0) := Rn_getf c206_1 rfl
theorem c206_4 : mcode 206 4 = some (.iconst 0, 1, 0, 0, 0) := rfl
theorem r206_4 : Rn 206 (4, [x0, x1, x2], st, a, h) = Rn 206 (5, [x0, x1, x2], .int (0 : Int32) :: st, a, h) := Rn_go c206_4 rfl
theorem c206_5 : mcode 206 5 = some (.iaload, 1, 0, 0, 0) := rfl
theorem r206_5 : Rn 206 (5, [x0, x1, x2], .int i :: .ref q :: st, a, h) = Ki 206 6 [x0, x1, x2] st a h (mld h q i false) := Rn_iald c206_5 rfl
theorem c206_6 : mcode 206 6 = some (.bipush 8, 2, 0, 0, 0) := rfl
theorem r206_6 : Rn 206 (6, [x0, x1, x2], st, a, h) = Rn 206 (8, [x0, x1, x2], .int (8 : Int32) :: st, a, h) := Rn_go c206_6 rfl
theorem c206_8 : mcode 206 8 = some (.if_icmp .ne 8, 3, 0, 0, 0) := rfl
theorem r206_8 : Rn 206 (8, [x0, x1, x2], .int j :: .int i :: st, a, h) = if i = j then Rn 206 (11, [x0, x1, x2], st, a, h) else Rn 206 (16, [x0, x1, x2], st, a, h) := Rn_icmpn c206_8 mc_ne rfl rfl
theorem c206_11 : mcode 206 11 = some (.aload_n 0, 1, 0, 0, 0) := rfl
theorem r206_11 : Rn 206 (11, [some (.ref q), x1, x2], st, a, h) = Rn 206 (12, [some (.ref q), x1, x2], .ref q :: st, a, h) := Rn_go c206_11 rfl
theorem c206_12 : mcode 206 12 = some (.invokevirtual 247, 3, 199, 0, 6) := rfl
theorem r206_12 : Rn 206 (12, [x0, x1, x2], [.ref q], a, h) = if mis h q 6 = true then Bk 206 15 [x0, x1, x2] [] (Ec 199 [.ref q] a h) else none := Rn_call1 c206_12 rfl (Nat.le_of_ble_eq_true rfl) rfl rfl (Nat.le_of_ble_eq_true rfl)
theorem c206_15 : mcode 206 15 = some (.ireturn, 1, 1, 0, 0) := rfl
theorem r206_15 : Rn 206 (15, [x0, x1, x2], [.int i], a, h) = if mrt 1 i = true then some (some (.int i), a, h) else none := Rn_iretz c206_15
theorem c206_16 : mcode 206 16 = some (.aload_n 0, 1, 0, 0, 0) := rfl
theorem r206_16 : Rn 206 (16, [some (.ref q), x1, x2], st, a, h) = Rn 206 (17, [some (.ref q), x1, x2], .ref q :: st, a, h) := Rn_go c206_16 rfl
theorem c206_17 : mcode 206 17 = some (.iload_n 1, 1, 0, 0, 0) := rfl
theorem r206_17 : Rn 206 (17, [x0, some (.int i), x2], st, a, h) = Rn 206 (18, [x0, some (.int i), x2], .int i :: st, a, h) := Rn_go c206_17 rfl
theorem c206_18 : mcode 206 18 = some (.iconst 0, 1, 0, 0, 0) := rfl
theorem r206_18 : Rn 206 (18, [x0, x1, x2], st, a, h) = Rn 206 (19, [x0, x1, x2], .int (0 : Int32) :: st, a, h) := Rn_go c206_18 rfl
theorem c206_19 : mcode 206 19 = some (.invokevirtual 92, 3, 145, 2, 6) := rfl
theorem r206_19 : Rn 206 (19, [x0, x1, x2], [v1, v0, .ref q], a, h) = if mis h q 6 = true then Bk 206 22 [x0, x1, x2] [] (Ec 145 [.ref q, v0, v1] a h) else none := Rn_call1 c206_19 rfl (Nat.le_of_ble_eq_true rfl) rfl rfl (Nat.le_of_ble_eq_true rfl)
theorem c206_22 : mcode 206 22 = some (.aload_n 0, 1, 0, 0, 0) := rfl
theorem r206_22 : Rn 206 (22, [some (.ref q), x1, x2], st, a, h) = Rn 206 (23, [some (.ref q), x1, x2], .ref q :: st, a, h) := Rn_go c206_22 rfl
theorem c206_23 : mcode 206 23 = some (.getfield 7, 3, 6, 0, 0) := rfl
theorem r206_23 : Rn 206 (23, [x0, x1, x2], .ref q :: st, a, h) = Kv 206 26 [x0, x1, x2] st a h (mgf h q 6 0) := Rn_getf c206_23 rfl
theorem c206_26 : mcode 206 26 = some (.iconst 0, 1, 0, 0, 0) := rfl
theorem r206_26 : Rn 206 (26, [x0, x1, x2], st, a, h) = Rn 206 (27, [x0, x1, x2], .int (0 : Int32) :: st, a, h) := Rn_go c206_26 rfl
theorem c206_27 : mcode 206 27 = some (.iaload, 1, 0, 0, 0) := rfl
theorem r206_27 : Rn 206 (27, [x0, x1, x2], .int i :: .ref q :: st, a, h) = Ki 206 28 [x0, x1, x2] st a h (mld h q i false) := Rn_iald c206_27 rfl
theorem c206_28 : mcode 206 28 = some (.iconst 1, 1, 0, 0, 0) := rfl
theorem r206_28 : Rn 206 (28, [x0, x1, x2], st, a, h) = Rn 206 (29, [x0, x1, x2], .int (1 : Int32) :: st, a, h) := Rn_go c206_28 rfl
theorem c206_29 : mcode 206 29 = some (.isub, 1, 0, 0, 0) := rfl
theorem r206_29 : Rn 206 (29, [x0, x1, x2], .int j :: .int i :: st, a, h) = Rn 206 (30, [x0, x1, x2], .int (i - j) :: st, a, h) := Rn_go c206_29 rfl
theorem c206_30 : mcode 206 30 = some (.istore_n 2, 1, 0, 0, 0) := rfl
theorem r206_30 : Rn 206 (30, [x0, x1, x2], .int i :: st, a, h) = Nl x1 (Rn 206 (31, [x0, x1, some (.int i)], st, a, h)) := Rn_st1 (k := 2) (v := .int i) x1 c206_30 rfl rfl rfl rfl
theorem c206_31 : mcode 206 31 = some (.aload_n 0, 1, 0, 0, 0) := rfl
theorem r206_31 : Rn 206 (31, [some (.ref q), x1, x2], st, a, h) = Rn 206 (32, [some (.ref q), x1, x2], .ref q :: st, a, h) := Rn_go c206_31 rfl
theorem c206_32 : mcode 206 32 = some (.invokevirtual 258, 3, 196, 0, 6) := rfl
theorem r206_32 : Rn 206 (32, [x0, x1, x2], [.ref q], a, h) = if mis h q 6 = true then Bk 206 35 [x0, x1, x2] [] (Ec 196 [.ref q] a h) else none := Rn_call1 c206_32 rfl (Nat.le_of_ble_eq_true rfl) rfl rfl (Nat.le_of_ble_eq_true rfl)
theorem c206_35 : mcode 206 35 = some (.aload_n 0, 1, 0, 0, 0) := rfl
theorem r206_35 : Rn 206 (35, [some (.ref q), x1, x2], st, a, h) = Rn 206 (36, [some (.ref q), x1, x2], .ref q :: st, a, h) := Rn_go c206_35 rfl
theorem c206_36 : mcode 206 36 = some (.aload_n 0, 1, 0, 0, 0) := rfl
theorem r206_36 : Rn 206 (36, [some (.ref q), x1, x2], st, a, h) = Rn 206 (37, [some (.ref q), x1, x2], .ref q :: st, a, h) := Rn_go c206_36 rfl
theorem c206_37 : mcode 206 37 = some (.bipush 105, 2, 0, 0, 0) := rfl
theorem r206_37 : Rn 206 (37, [x0, x1, x2], st, a, h) = Rn 206 (39, [x0, x1, x2], .int (105 : Int32) :: st, a, h) := Rn_go c206_37 rfl
theorem c206_39 : mcode 206 39 = some (.bipush 110, 2, 0, 0, 0) := rfl
theorem r206_39 : Rn 206 (39, [x0, x1, x2], st, a, h) = Rn 206 (41, [x0, x1, x2], .int (110 : Int32) :: st, a, h) := Rn_go c206_39 rfl
theorem c206_41 : mcode 206 41 = some (.invokevirtual 264, 3, 204, 2, 6) := rfl
theorem r206_41 : Rn 206 (41, [x0, x1, x2], [v1, v0, .ref q, .ref q0], a, h) = if mis h q 6 = true then Bk 206 44 [x0, x1, x2] [.ref q0] (Ec 204 [.ref q, v0, v1] a h) else none := Rn_call1 c206_41 rfl (Nat.le_of_ble_eq_true rfl) rfl rfl (Nat.le_of_ble_eq_true rfl)
theorem c206_44 : mcode 206 44 = some (.iload_n 2, 1, 0, 0, 0) := rfl
theorem r206_44 : Rn 206 (44, [x0, x1, some (.int i)], st, a, h) = Rn 206 (45, [x0, x1, some (.int i)], .int i :: st, a, h) := Rn_go c206_44 rfl
theorem c206_45 : mcode 206 45 = some (.iconst 1, 1, 0, 0, 0) := rfl
theorem r206_45 : Rn 206 (45, [x0, x1, x2], st, a, h) = Rn 206 (46, [x0, x1, x2], .int (1 : Int32) :: st, a, h) := Rn_go c206_45 rfl
theorem c206_46 : mcode 206 46 = some (.invokestatic 79, 3, 130, 2, 0) := rfl
theorem r206_46 : Rn 206 (46, [x0, x1, x2], [v1, v0, .int i0, .ref q1], a, h) = Bk 206 49 [x0, x1, x2] [.int i0, .ref q1] (Ec 130 [v0, v1] a h) := Rn_call0 c206_46 (fun z => nomatch z) rfl (Nat.le_of_ble_eq_true rfl) rfl rfl (Nat.le_of_ble_eq_true rfl)
theorem c206_49 : mcode 206 49 = some (.bipush 7, 2, 0, 0, 0) := rfl
theorem r206_49 : Rn 206 (49, [x0, x1, x2], st, a, h) = Rn 206 (51, [x0, x1, x2], .int (7 : Int32) :: st, a, h) := Rn_go c206_49 rfl
theorem c206_51 : mcode 206 51 = some (.invokevirtual 267, 3, 205, 3, 6) := rfl
theorem r206_51 : Rn 206 (51, [x0, x1, x2], [v2, v1, v0, .ref q], a, h) = if mis h q 6 = true then Bk 206 54 [x0, x1, x2] [] (Ec 205 [.ref q, v0, v1, v2] a h) else none := Rn_call1 c206_51 rfl (Nat.le_of_ble_eq_true rfl) rfl rfl (Nat.le_of_ble_eq_true rfl)
theorem c206_54 : mcode 206 54 = some (.ifCond .eq 57, 3, 0, 0, 0) := rfl
theorem r206_54 : Rn 206 (54, [x0, x1, x2], .int i :: st, a, h) = if i = 0 then Rn 206 (111, [x0, x1, x2], st, a, h) else Rn 206 (57, [x0, x1, x2], st, a, h) := Rn_ifc c206_54 mc_eq rfl rfl
theorem c206_57 : mcode 206 57 = some (.aload_n 0, 1, 0, 0, 0) := rfl
theorem r206_57 : Rn 206 (57, [some (.ref q), x1, x2], st, a, h) = Rn 206 (58, [some (.ref q), x1, x2], .ref q :: st, a, h) := Rn_go c206_57 rfl
theorem c206_58 : mcode 206 58 = some (.aload_n 0, 1, 0, 0, 0) := rfl
theorem r206_58 : Rn 206 (58, [some (.ref q), x1, x2], st, a, h) = Rn 206 (59, [some (.ref q), x1, x2], .ref q :: st, a, h) := Rn_go c206_58 rfl
theorem c206_59 : mcode 206 59 = some (.bipush 111, 2, 0, 0, 0) := rfl
theorem r206_59 : Rn 206 (59, [x0, x1, x2], st, a, h) = Rn 206 (61, [x0, x1, x2], .int (111 : Int32) :: st, a, h) := Rn_go c206_59 rfl
theorem c206_61 : mcode 206 61 = some (.bipush 102, 2, 0, 0, 0) := rfl
theorem r206_61 : Rn 206 (61, [x0, x1, x2], st, a, h) = Rn 206 (63, [x0, x1, x2], .int (102 : Int32) :: st, a, h) := Rn_go c206_61 rfl
theorem c206_63 : mcode 206 63 = some (.invokevirtual 264, 3, 204, 2, 6) := rfl
theorem r206_63 : Rn 206 (63, [x0, x1, x2], [v1, v0, .ref q, .ref q0], a, h) = if mis h q 6 = true then Bk 206 66 [x0, x1, x2] [.ref q0] (Ec 204 [.ref q, v0, v1] a h) else none := Rn_call1 c206_63 rfl (Nat.le_of_ble_eq_true rfl) rfl rfl (Nat.le_of_ble_eq_true rfl)
theorem c206_66 : mcode 206 66 = some (.iload_n 2, 1, 0, 0, 0) := rfl
theorem r206_66 : Rn 206 (66, [x0, x1, some (.int i)], st, a, h) = Rn 206 (67, [x0, x1, some (.int i)], .int i :: st, a, h) := Rn_go c206_66 rfl
theorem c206_67 : mcode 206 67 = some (.iconst 2, 1, 0, 0, 0) := rfl
theorem r206_67 : Rn 206 (67, [x0, x1, x2], st, a, h) = Rn 206 (68, [x0, x1, x2], .int (2 : Int32) :: st, a, h) := Rn_go c206_67 rfl
theorem c206_68 : mcode 206 68 = some (.invokestatic 79, 3, 130, 2, 0) := rfl
theorem r206_68 : Rn 206 (68, [x0, x1, x2], [v1, v0, .int i0, .ref q1], a, h) = Bk 206 71 [x0, x1, x2] [.int i0, .ref q1] (Ec 130 [v0, v1] a h) := Rn_call0 c206_68 (fun z => nomatch z) rfl (Nat.le_of_ble_eq_true rfl) rfl rfl (Nat.le_of_ble_eq_true rfl)
theorem c206_71 : mcode 206 71 = some (.iconst 2, 1, 0, 0, 0) := rfl
theorem r206_71 : Rn 206 (71, [x0, x1, x2], st, a, h) = Rn 206 (72, [x0, x1, x2], .int (2 : Int32) :: st, a, h) := Rn_go c206_71 rfl
theorem c206_72 : mcode 206 72 = some (.invokevirtual 267, 3, 205, 3, 6) := rfl
theorem r206_72 : Rn 206 (72, [x0, x1, x2], [v2, v1, v0, .ref q], a, h) = if mis h q 6 = true then Bk 206 75 [x0, x1, x2] [] (Ec 205 [.ref q, v0, v1, v2] a h) else none := Rn_call1 c206_72 rfl (Nat.le_of_ble_eq_true rfl) rfl rfl (Nat.le_of_ble_eq_true rfl)
theorem c206_75 : mcode 206 75 = some (.ifCond .eq 36, 3, 0, 0, 0) := rfl
theorem r206_75 : Rn 206 (75, [x0, x1, x2], .int i :: st, a, h) = if i = 0 then Rn 206 (111, [x0, x1, x2], st, a, h) else Rn 206 (78, [x0, x1, x2], st, a, h) := Rn_ifc c206_75 mc_eq rfl rfl
theorem c206_78 : mcode 206 78 = some (.aload_n 0, 1, 0, 0, 0) := rfl
theorem r206_78 : Rn 206 (78, [some (.ref q), x1, x2], st, a, h) = Rn 206 (79, [some (.ref q), x1, x2], .ref q :: st, a, h) := Rn_go c206_78 rfl
theorem c206_79 : mcode 206 79 = some (.aload_n 0, 1, 0, 0, 0) := rfl
theorem r206_79 : Rn 206 (79, [some (.ref q), x1, x2], st, a, h) = Rn 206 (80, [some (.ref q), x1, x2], .ref q :: st, a, h) := Rn_go c206_79 rfl
theorem c206_80 : mcode 206 80 = some (.bipush 104, 2, 0, 0, 0) := rfl
theorem r206_80 : Rn 206 (80, [x0, x1, x2], st, a, h) = Rn 206 (82, [x0, x1, x2], .int (104 : Int32) :: st, a, h) := Rn_go c206_80 rfl
theorem c206_82 : mcode 206 82 = some (.bipush 111, 2, 0, 0, 0) := rfl
theorem r206_82 : Rn 206 (82, [x0, x1, x2], st, a, h) = Rn 206 (84, [x0, x1, x2], .int (111 : Int32) :: st, a, h) := Rn_go c206_82 rfl
theorem c206_84 : mcode 206 84 = some (.bipush 108, 2, 0, 0, 0) := rfl
theorem r206_84 : Rn 206 (84, [x0, x1, x2], st, a, h) = Rn 206 (86, [x0, x1, x2], .int (108 : Int32) :: st, a, h) := Rn_go c206_84 rfl
theorem c206_86 : mcode 206 86 = some (.bipush 100, 2, 0, 0, 0) := rfl
theorem r206_86 : Rn 206 (86, [x0, x1, x2], st, a, h) = Rn 206 (88, [x0, x1, x2], .int (100 : Int32) :: st, a, h) := Rn_go c206_86 rfl
theorem c206_88 : mcode 206 88 = some (.bipush 115, 2, 0, 0, 0) := rfl
theorem r206_88 : Rn 206 (88, [x0, x1, x2], st, a, h) = Rn 206 (90, [x0, x1, x2], .int (115 : Int32) :: st, a, h) := Rn_go c206_88 rfl
theorem c206_90 : mcode 206 90 = some (.invokevirtual 251, 3, 201, 5, 6) := rfl
theorem r206_90 : Rn 206 (90, [x0, x1, x2], [v4, v3, v2, v1, v0, .ref q, .ref q0], a, h) = if mis h q 6 = true then Bk 206 93 [x0, x1, x2] [.ref q0] (Ec 201 [.ref q, v0, v1, v2, v3, v4] a h) else none := Rn_call1 c206_90 rfl (Nat.le_of_ble_eq_true rfl) rfl rfl (Nat.le_of_ble_eq_true rfl)
theorem c206_93 : mcode 206 93 = some (.iload_n 2, 1, 0, 0, 0) := rfl
theorem r206_93 : Rn 206 (93, [x0, x1, some (.int i)], st, a, h) = Rn 206 (94, [x0, x1, some (.int i)], .int i :: st, a, h) := Rn_go c206_93 rfl
theorem c206_94 : mcode 206 94 = some (.iconst 3, 1, 0, 0, 0) := rfl
theorem r206_94 : Rn 206 (94, [x0, x1, x2], st, a, h) = Rn 206 (95, [x0, x1, x2], .int (3 : Int32) :: st, a, h) := Rn_go c206_94 rfl
theorem c206_95 : mcode 206 95 = some (.invokestatic 79, 3, 130, 2, 0) := rfl
theorem r206_95 : Rn 206 (95, [x0, x1, x2], [v1, v0, .int i0, .ref q1], a, h) = Bk 206 98 [x0, x1, x2] [.int i0, .ref q1] (Ec 130 [v0, v1] a h) := Rn_call0 c206_95 (fun z => nomatch z) rfl (Nat.le_of_ble_eq_true rfl) rfl rfl (Nat.le_of_ble_eq_true rfl)
theorem c206_98 : mcode 206 98 = some (.sipush 999, 3, 0, 0, 0) := rfl
theorem r206_98 : Rn 206 (98, [x0, x1, x2], st, a, h) = Rn 206 (101, [x0, x1, x2], .int (999 : Int32) :: st, a, h) := Rn_go c206_98 rfl
theorem c206_101 : mcode 206 101 = some (.invokevirtual 267, 3, 205, 3, 6) := rfl
theorem r206_101 : Rn 206 (101, [x0, x1, x2], [v2, v1, v0, .ref q], a, h) = if mis h q 6 = true then Bk 206 104 [x0, x1, x2] [] (Ec 205 [.ref q, v0, v1, v2] a h) else none := Rn_call1 c206_101 rfl (Nat.le_of_ble_eq_true rfl) rfl rfl (Nat.le_of_ble_eq_true rfl)
theorem c206_104 : mcode 206 104 = some (.ifCond .eq 7, 3, 0, 0, 0) := rfl
theorem r206_104 : Rn 206 (104, [x0, x1, x2], .int i :: st, a, h) = if i = 0 then Rn 206 (111, [x0, x1, x2], st, a, h) else Rn 206 (107, [x0, x1, x2], st, a, h) := Rn_ifc c206_104 mc_eq rfl rfl
theorem c206_107 : mcode 206 107 = some (.iconst 1, 1, 0, 0, 0) := rfl
theorem r206_107 : Rn 206 (107, [x0, x1, x2], st, a, h) = Rn 206 (108, [x0, x1, x2], .int (1 : Int32) :: st, a, h) := Rn_go c206_107 rfl
theorem c206_108 : mcode 206 108 = some (.goto 4, 3, 0, 0, 0) := rfl
theorem r206_108 : Rn 206 (108, [x0, x1, x2], st, a, h) = Rn 206 (112, [x0, x1, x2], st, a, h) := Rn_goto c206_108 rfl
theorem c206_111 : mcode 206 111 = some (.iconst 0, 1, 0, 0, 0) := rfl
theorem r206_111 : Rn 206 (111, [x0, x1, x2], st, a, h) = Rn 206 (112, [x0, x1, x2], .int (0 : Int32) :: st, a, h) := Rn_go c206_111 rfl
theorem c206_112 : mcode 206 112 = some (.ireturn, 1, 1, 0, 0) := rfl
theorem r206_112 : Rn 206 (112, [x0, x1, x2], [.int i], a, h) = if mrt 1 i = true then some (some (.int i), a, h) else none := Rn_iretz c206_112
theorem c207_0 : mcode 207 0 = some (.aload_n 0, 1, 0, 0, 0) := rfl
theorem r207_0 : Rn 207 (0, [some (.ref q), x1], st, a, h) = Rn 207 (1, [some (.ref q), x1], .ref q :: st, a, h) := Rn_go c207_0 rfl
theorem c207_1 : mcode 207 1 = some (.invokevirtual 258, 3, 196, 0, 6) := rfl
theorem r207_1 : Rn 207 (1, [x0, x1], [.ref q], a, h) = if mis h q 6 = true then Bk 207 4 [x0, x1] [] (Ec 196 [.ref q] a h) else none := Rn_call1 c207_1 rfl (Nat.le_of_ble_eq_true rfl) rfl rfl (Nat.le_of_ble_eq_true rfl)
theorem c207_4 : mcode 207 4 = some (.aload_n 0, 1, 0, 0, 0) := rfl
theorem r207_4 : Rn 207 (4, [some (.ref q), x1], st, a, h) = Rn 207 (5, [some (.ref q), x1], .ref q :: st, a, h) := Rn_go c207_4 rfl
theorem c207_5 : mcode 207 5 = some (.iconst 0, 1, 0, 0, 0) := rfl
theorem r207_5 : Rn 207 (5, [x0, x1], st, a, h) = Rn 207 (6, [x0, x1], .int (0 : Int32) :: st, a, h) := Rn_go c207_5 rfl
theorem c207_6 : mcode 207 6 = some (.bipush 7, 2, 0, 0, 0) := rfl
theorem r207_6 : Rn 207 (6, [x0, x1], st, a, h) = Rn 207 (8, [x0, x1], .int (7 : Int32) :: st, a, h) := Rn_go c207_6 rfl
theorem c207_8 : mcode 207 8 = some (.invokevirtual 261, 3, 202, 2, 6) := rfl
theorem r207_8 : Rn 207 (8, [x0, x1], [v1, v0, .ref q], a, h) = if mis h q 6 = true then Bk 207 11 [x0, x1] [] (Ec 202 [.ref q, v0, v1] a h) else none := Rn_call1 c207_8 rfl (Nat.le_of_ble_eq_true rfl) rfl rfl (Nat.le_of_ble_eq_true rfl)
theorem c207_11 : mcode 207 11 = some (.ifCond .ne 5, 3, 0, 0, 0) := rfl
theorem r207_11 : Rn 207 (11, [x0, x1], .int i :: st, a, h) = if i = 0 then Rn 207 (14, [x0, x1], st, a, h) else Rn 207 (16, [x0, x1], st, a, h) := Rn_ifcn c207_11 mc_ne rfl rfl
theorem c207_14 : mcode 207 14 = some (.iconst 0, 1, 0, 0, 0) := rfl
theorem r207_14 : Rn 207 (14, [x0, x1], st, a, h) = Rn 207 (15, [x0, x1], .int (0 : Int32) :: st, a, h) := Rn_go c207_14 rfl
theorem c207_15 : mcode 207 15 = some (.ireturn, 1, 1, 0, 0) := rfl
theorem r207_15 : Rn 207 (15, [x0, x1], [.int i], a, h) = if mrt 1 i = true then some (some (.int i), a, h) else none := Rn_iretz c207_15
theorem c207_16 : mcode 207 16 = some (.aload_n 0, 1, 0, 0, 0) := rfl
theorem r207_16 : Rn 207 (16, [some (.ref q), x1], st, a, h) = Rn 207 (17, [some (.ref q), x1], .ref q :: st, a, h) := Rn_go c207_16 rfl
theorem c207_17 : mcode 207 17 = some (.getfield 234, 3, 6, 16, 0) := rfl
theorem r207_17 : Rn 207 (17, [x0, x1], .ref q :: st, a, h) = Kv 207 20 [x0, x1] st a h (mgf h q 6 16) := Rn_getf c207_17 rfl
theorem c207_20 : mcode 207 20 = some (.istore_n 1, 1, 0, 0, 0) := rfl
theorem r207_20 : Rn 207 (20, [x0, x1], .int i :: st, a, h) = Nl x0 (Rn 207 (21, [x0, some (.int i)], st, a, h)) := Rn_st1 (k := 1) (v := .int i) x0 c207_20 rfl rfl rfl rfl
theorem c207_21 : mcode 207 21 = some (.aload_n 0, 1, 0, 0, 0) := rfl
theorem r207_21 : Rn 207 (21, [some (.ref q), x1], st, a, h) = Rn 207 (22, [some (.ref q), x1], .ref q :: st, a, h) := Rn_go c207_21 rfl
theorem c207_22 : mcode 207 22 = some (.invokevirtual 258, 3, 196, 0, 6) := rfl
theorem r207_22 : Rn 207 (22, [x0, x1], [.ref q], a, h) = if mis h q 6 = true then Bk 207 25 [x0, x1] [] (Ec 196 [.ref q] a h) else none := Rn_call1 c207_22 rfl (Nat.le_of_ble_eq_true rfl) rfl rfl (Nat.le_of_ble_eq_true rfl)
theorem c207_25 : mcode 207 25 = some (.aload_n 0, 1, 0, 0, 0) := rfl
theorem r207_25 : Rn 207 (25, [some (.ref q), x1], st, a, h) = Rn 207 (26, [some (.ref q), x1], .ref q :: st, a, h) := Rn_go c207_25 rfl
theorem c207_26 : mcode 207 26 = some (.iconst 0, 1, 0, 0, 0) := rfl
theorem r207_26 : Rn 207 (26, [x0, x1], st, a, h) = Rn 207 (27, [x0, x1], .int (0 : Int32) :: st, a, h) := Rn_go c207_26 rfl
theorem c207_27 : mcode 207 27 = some (.iconst 2, 1, 0, 0, 0) := rfl
theorem r207_27 : Rn 207 (27, [x0, x1], st, a, h) = Rn 207 (28, [x0, x1], .int (2 : Int32) :: st, a, h) := Rn_go c207_27 rfl
theorem c207_28 : mcode 207 28 = some (.invokevirtual 261, 3, 202, 2, 6) := rfl
theorem r207_28 : Rn 207 (28, [x0, x1], [v1, v0, .ref q], a, h) = if mis h q 6 = true then Bk 207 31 [x0, x1] [] (Ec 202 [.ref q, v0, v1] a h) else none := Rn_call1 c207_28 rfl (Nat.le_of_ble_eq_true rfl) rfl rfl (Nat.le_of_ble_eq_true rfl)
theorem c207_31 : mcode 207 31 = some (.ifCond .ne 5, 3, 0, 0, 0) := rfl
theorem r207_31 : Rn 207 (31, [x0, x1], .int i :: st, a, h) = if i = 0 then Rn 207 (34, [x0, x1], st, a, h) else Rn 207 (36, [x0, x1], st, a, h) := Rn_ifcn c207_31 mc_ne rfl rfl
theorem c207_34 : mcode 207 34 = some (.iconst 0, 1, 0, 0, 0) := rfl
theorem r207_34 : Rn 207 (34, [x0, x1], st, a, h) = Rn 207 (35, [x0, x1], .int (0 : Int32) :: st, a, h) := Rn_go c207_34 rfl
theorem c207_35 : mcode 207 35 = some (.ireturn, 1, 1, 0, 0) := rfl
theorem r207_35 : Rn 207 (35, [x0, x1], [.int i], a, h) = if mrt 1 i = true then some (some (.int i), a, h) else none := Rn_iretz c207_35
theorem c207_36 : mcode 207 36 = some (.aload_n 0, 1, 0, 0, 0) := rfl
theorem r207_36 : Rn 207 (36, [some (.ref q), x1], st, a, h) = Rn 207 (37, [some (.ref q), x1], .ref q :: st, a, h) := Rn_go c207_36 rfl
theorem c207_37 : mcode 207 37 = some (.iconst 1, 1, 0, 0, 0) := rfl
theorem r207_37 : Rn 207 (37, [x0, x1], st, a, h) = Rn 207 (38, [x0, x1], .int (1 : Int32) :: st, a, h) := Rn_go c207_37 rfl
theorem c207_38 : mcode 207 38 = some (.iconst 4, 1, 0, 0, 0) := rfl
theorem r207_38 : Rn 207 (38, [x0, x1], st, a, h) = Rn 207 (39, [x0, x1], .int (4 : Int32) :: st, a, h) := Rn_go c207_38 rfl
theorem c207_39 : mcode 207 39 = some (.iconst 3, 1, 0, 0, 0) := rfl
theorem r207_39 : Rn 207 (39, [x0, x1], st, a, h) = Rn 207 (40, [x0, x1], .int (3 : Int32) :: st, a, h) := Rn_go c207_39 rfl
theorem c207_40 : mcode 207 40 = some (.iload_n 1, 1, 0, 0, 0) := rfl
theorem r207_40 : Rn 207 (40, [x0, some (.int i)], st, a, h) = Rn 207 (41, [x0, some (.int i)], .int i :: st, a, h) := Rn_go c207_40 rfl
theorem c207_41 : mcode 207 41 = some (.imul, 1, 0, 0, 0) := rfl
theorem r207_41 : Rn 207 (41, [x0, x1], .int j :: .int i :: st, a, h) = Rn 207 (42, [x0, x1], .int (i * j) :: st, a, h) := Rn_go c207_41 rfl
theorem c207_42 : mcode 207 42 = some (.iadd, 1, 0, 0, 0) := rfl
theorem r207_42 : Rn 207 (42, [x0, x1], .int j :: .int i :: st, a, h) = Rn 207 (43, [x0, x1], .int (i + j) :: st, a, h) := Rn_go c207_42 rfl
theorem c207_43 : mcode 207 43 = some (.aload_n 0, 1, 0, 0, 0) := rfl
theorem r207_43 : Rn 207 (43, [some (.ref q), x1], st, a, h) = Rn 207 (44, [some (.ref q), x1], .ref q :: st, a, h) := Rn_go c207_43 rfl
theorem c207_44 : mcode 207 44 = some (.getfield 234, 3, 6, 16, 0) := rfl
theorem r207_44 : Rn 207 (44, [x0, x1], .ref q :: st, a, h) = Kv 207 47 [x0, x1] st a h (mgf h q 6 16) := Rn_getf c207_44 rfl
theorem c207_47 : mcode 207 47 = some (.iadd, 1, 0, 0, 0) := rfl
theorem r207_47 : Rn 207 (47, [x0, x1], .int j :: .int i :: st, a, h) = Rn 207 (48, [x0, x1], .int (i + j) :: st, a, h) := Rn_go c207_47 rfl
theorem c207_48 : mcode 207 48 = some (.sipush 999, 3, 0, 0, 0) := rfl
theorem r207_48 : Rn 207 (48, [x0, x1], st, a, h) = Rn 207 (51, [x0, x1], .int (999 : Int32) :: st, a, h) := Rn_go c207_48 rfl
theorem c207_51 : mcode 207 51 = some (.invokevirtual 267, 3, 205, 3, 6) := rfl
theorem r207_51 : Rn 207 (51, [x0, x1], [v2, v1, v0, .ref q], a, h) = if mis h q 6 = true then Bk 207 54 [x0, x1] [] (Ec 205 [.ref q, v0, v1, v2] a h) else none := Rn_call1 c207_51 rfl (Nat.le_of_ble_eq_true rfl) rfl rfl (Nat.le_of_ble_eq_true rfl)
theorem c207_54 : mcode 207 54 = some (.ireturn, 1, 1, 0, 0) := rfl
theorem r207_54 : Rn 207 (54, [x0, x1], [.int i], a, h) = if mrt 1 i = true then some (some (.int i), a, h) else none := Rn_iretz c207_54
theorem c208_0 : mcode 208 0 = some (.aload_n 0, 1, 0, 0, 0) := rfl
theorem r208_0 : Rn 208 (0, [some (.ref q), x1], st, a, h) = Rn 208 (1, [some (.ref q), x1], .ref q :: st, a, h) := Rn_go c208_0 rfl
theorem c208_1 : mcode 208 1 = some (.invokevirtual 258, 3, 196, 0, 6) := rfl
theorem r208_1 : Rn 208 (1, [x0, x1], [.ref q], a, h) = if mis h q 6 = true then Bk 208 4 [x0, x1] [] (Ec 196 [.ref q] a h) else none := Rn_call1 c208_1 rfl (Nat.le_of_ble_eq_true rfl) rfl rfl (Nat.le_of_ble_eq_true rfl)
theorem c208_4 : mcode 208 4 = some (.aload_n 0, 1, 0, 0, 0) := rfl
theorem r208_4 : Rn 208 (4, [some (.ref q), x1], st, a, h) = Rn 208 (5, [some (.ref q), x1], .ref q :: st, a, h) := Rn_go c208_4 rfl
theorem c208_5 : mcode 208 5 = some (.iconst 0, 1, 0, 0, 0) := rfl
theorem r208_5 : Rn 208 (5, [x0, x1], st, a, h) = Rn 208 (6, [x0, x1], .int (0 : Int32) :: st, a, h) := Rn_go c208_5 rfl
theorem c208_6 : mcode 208 6 = some (.bipush 7, 2, 0, 0, 0) := rfl
theorem r208_6 : Rn 208 (6, [x0, x1], st, a, h) = Rn 208 (8, [x0, x1], .int (7 : Int32) :: st, a, h) := Rn_go c208_6 rfl
theorem c208_8 : mcode 208 8 = some (.invokevirtual 261, 3, 202, 2, 6) := rfl
theorem r208_8 : Rn 208 (8, [x0, x1], [v1, v0, .ref q], a, h) = if mis h q 6 = true then Bk 208 11 [x0, x1] [] (Ec 202 [.ref q, v0, v1] a h) else none := Rn_call1 c208_8 rfl (Nat.le_of_ble_eq_true rfl) rfl rfl (Nat.le_of_ble_eq_true rfl)
theorem c208_11 : mcode 208 11 = some (.ifCond .ne 5, 3, 0, 0, 0) := rfl
theorem r208_11 : Rn 208 (11, [x0, x1], .int i :: st, a, h) = if i = 0 then Rn 208 (14, [x0, x1], st, a, h) else Rn 208 (16, [x0, x1], st, a, h) := Rn_ifcn c208_11 mc_ne rfl rfl
theorem c208_14 : mcode 208 14 = some (.iconst 0, 1, 0, 0, 0) := rfl
theorem r208_14 : Rn 208 (14, [x0, x1], st, a, h) = Rn 208 (15, [x0, x1], .int (0 : Int32) :: st, a, h) := Rn_go c208_14 rfl
theorem c208_15 : mcode 208 15 = some (.ireturn, 1, 1, 0, 0) := rfl
theorem r208_15 : Rn 208 (15, [x0, x1], [.int i], a, h) = if mrt 1 i = true then some (some (.int i), a, h) else none := Rn_iretz c208_15
theorem c208_16 : mcode 208 16 = some (.aload_n 0, 1, 0, 0, 0) := rfl
theorem r208_16 : Rn 208 (16, [some (.ref q), x1], st, a, h) = Rn 208 (17, [some (.ref q), x1], .ref q :: st, a, h) := Rn_go c208_16 rfl
theorem c208_17 : mcode 208 17 = some (.getfield 234, 3, 6, 16, 0) := rfl
theorem r208_17 : Rn 208 (17, [x0, x1], .ref q :: st, a, h) = Kv 208 20 [x0, x1] st a h (mgf h q 6 16) := Rn_getf c208_17 rfl
theorem c208_20 : mcode 208 20 = some (.istore_n 1, 1, 0, 0, 0) := rfl
theorem r208_20 : Rn 208 (20, [x0, x1], .int i :: st, a, h) = Nl x0 (Rn 208 (21, [x0, some (.int i)], st, a, h)) := Rn_st1 (k := 1) (v := .int i) x0 c208_20 rfl rfl rfl rfl
theorem c208_21 : mcode 208 21 = some (.aload_n 0, 1, 0, 0, 0) := rfl
theorem r208_21 : Rn 208 (21, [some (.ref q), x1], st, a, h) = Rn 208 (22, [some (.ref q), x1], .ref q :: st, a, h) := Rn_go c208_21 rfl
theorem c208_22 : mcode 208 22 = some (.invokevirtual 258, 3, 196, 0, 6) := rfl
theorem r208_22 : Rn 208 (22, [x0, x1], [.ref q], a, h) = if mis h q 6 = true then Bk 208 25 [x0, x1] [] (Ec 196 [.ref q] a h) else none := Rn_call1 c208_22 rfl (Nat.le_of_ble_eq_true rfl) rfl rfl (Nat.le_of_ble_eq_true rfl)
theorem c208_25 : mcode 208 25 = some (.aload_n 0, 1, 0, 0, 0) := rfl
theorem r208_25 : Rn 208 (25, [some (.ref q), x1], st, a, h) = Rn 208 (26, [some (.ref q), x1], .ref q :: st, a, h) := Rn_go c208_25 rfl
theorem c208_26 : mcode 208 26 = some (.iconst 0, 1, 0, 0, 0) := rfl
theorem r208_26 : Rn 208 (26, [x0, x1], st, a, h) = Rn 208 (27, [x0, x1], .int (0 : Int32) :: st, a, h) := Rn_go c208_26 rfl
theorem c208_27 : mcode 208 27 = some (.bipush 7, 2, 0, 0, 0) := rfl
theorem r208_27 : Rn 208 (27, [x0, x1], st, a, h) = Rn 208 (29, [x0, x1], .int (7 : Int32) :: st, a, h) := Rn_go c208_27 rfl
theorem c208_29 : mcode 208 29 = some (.invokevirtual 261, 3, 202, 2, 6) := rfl
theorem r208_29 : Rn 208 (29, [x0, x1], [v1, v0, .ref q], a, h) = if mis h q 6 = true then Bk 208 32 [x0, x1] [] (Ec 202 [.ref q, v0, v1] a h) else none := Rn_call1 c208_29 rfl (Nat.le_of_ble_eq_true rfl) rfl rfl (Nat.le_of_ble_eq_true rfl)
theorem c208_32 : mcode 208 32 = some (.ifCond .ne 5, 3, 0, 0, 0) := rfl
theorem r208_32 : Rn 208 (32, [x0, x1], .int i :: st, a, h) = if i = 0 then Rn 208 (35, [x0, x1], st, a, h) else Rn 208 (37, [x0, x1], st, a, h) := Rn_ifcn c208_32 mc_ne rfl rfl
theorem c208_35 : mcode 208 35 = some (.iconst 0, 1, 0, 0, 0) := rfl
theorem r208_35 : Rn 208 (35, [x0, x1], st, a, h) = Rn 208 (36, [x0, x1], .int (0 : Int32) :: st, a, h) := Rn_go c208_35 rfl
theorem c208_36 : mcode 208 36 = some (.ireturn, 1, 1, 0, 0) := rfl
theorem r208_36 : Rn 208 (36, [x0, x1], [.int i], a, h) = if mrt 1 i = true then some (some (.int i), a, h) else none := Rn_iretz c208_36
theorem c208_37 : mcode 208 37 = some (.aload_n 0, 1, 0, 0, 0) := rfl
theorem r208_37 : Rn 208 (37, [some (.ref q), x1], st, a, h) = Rn 208 (38, [some (.ref q), x1], .ref q :: st, a, h) := Rn_go c208_37 rfl
theorem c208_38 : mcode 208 38 = some (.getfield 234, 3, 6, 16, 0) := rfl
theorem r208_38 : Rn 208 (38, [x0, x1], .ref q :: st, a, h) = Kv 208 41 [x0, x1] st a h (mgf h q 6 16) := Rn_getf c208_38 rfl
theorem c208_41 : mcode 208 41 = some (.iload_n 1, 1, 0, 0, 0) := rfl
theorem r208_41 : Rn 208 (41, [x0, some (.int i)], st, a, h) = Rn 208 (42, [x0, some (.int i)], .int i :: st, a, h) := Rn_go c208_41 rfl
theorem c208_42 : mcode 208 42 = some (.if_icmp .eq 12, 3, 0, 0, 0) := rfl
theorem r208_42 : Rn 208 (42, [x0, x1], .int j :: .int i :: st, a, h) = if i = j then Rn 208 (54, [x0, x1], st, a, h) else Rn 208 (45, [x0, x1], st, a, h) := Rn_icmp c208_42 mc_eq rfl rfl
theorem c208_45 : mcode 208 45 = some (.aload_n 0, 1, 0, 0, 0) := rfl
theorem r208_45 : Rn 208 (45, [some (.ref q), x1], st, a, h) = Rn 208 (46, [some (.ref q), x1], .ref q :: st, a, h) := Rn_go c208_45 rfl
theorem c208_46 : mcode 208 46 = some (.iload_n 1, 1, 0, 0, 0) := rfl
theorem r208_46 : Rn 208 (46, [x0, some (.int i)], st, a, h) = Rn 208 (47, [x0, some (.int i)], .int i :: st, a, h) := Rn_go c208_46 rfl
theorem c208_47 : mcode 208 47 = some (.aload_n 0, 1, 0, 0, 0) := rfl
theorem r208_47 : Rn 208 (47, [some (.ref q), x1], st, a, h) = Rn 208 (48, [some (.ref q), x1], .ref q :: st, a, h) := Rn_go c208_47 rfl
theorem c208_48 : mcode 208 48 = some (.getfield 234, 3, 6, 16, 0) := rfl
theorem r208_48 : Rn 208 (48, [x0, x1], .ref q :: st, a, h) = Kv 208 51 [x0, x1] st a h (mgf h q 6 16) := Rn_getf c208_48 rfl
theorem c208_51 : mcode 208 51 = some (.invokevirtual 82, 3, 143, 2, 6) := rfl
theorem r208_51 : Rn 208 (51, [x0, x1], [v1, v0, .ref q], a, h) = if mis h q 6 = true then Bk 208 54 [x0, x1] [] (Ec 143 [.ref q, v0, v1] a h) else none := Rn_call1 c208_51 rfl (Nat.le_of_ble_eq_true rfl) rfl rfl (Nat.le_of_ble_eq_true rfl)
theorem c208_54 : mcode 208 54 = some (.aload_n 0, 1, 0, 0, 0) := rfl
theorem r208_54 : Rn 208 (54, [some (.ref q), x1], st, a, h) = Rn 208 (55, [some (.ref q), x1], .ref q :: st, a, h) := Rn_go c208_54 rfl
theorem c208_55 : mcode 208 55 = some (.invokevirtual 258, 3, 196, 0, 6) := rfl
theorem r208_55 : Rn 208 (55, [x0, x1], [.ref q], a, h) = if mis h q 6 = true then Bk 208 58 [x0, x1] [] (Ec 196 [.ref q] a h) else none := Rn_call1 c208_55 rfl (Nat.le_of_ble_eq_true rfl) rfl rfl (Nat.le_of_ble_eq_true rfl)
theorem c208_58 : mcode 208 58 = some (.iconst 1, 1, 0, 0, 0) := rfl
theorem r208_58 : Rn 208 (58, [x0, x1], st, a, h) = Rn 208 (59, [x0, x1], .int (1 : Int32) :: st, a, h) := Rn_go c208_58 rfl
theorem c208_59 : mcode 208 59 = some (.ireturn, 1, 1, 0, 0) := rfl
theorem r208_59 : Rn 208 (59, [x0, x1], [.int i], a, h) = if mrt 1 i = true then some (some (.int i), a, h) else none := Rn_iretz c208_59
theorem c209_0 : mcode 209 0 = some (.aload_n 0, 1, 0, 0, 0) := rfl
theorem r209_0 : Rn 209 (0, [some (.ref q), x1], st, a, h) = Rn 209 (1, [some (.ref q), x1], .ref q :: st, a, h) := Rn_go c209_0 rfl
theorem c209_1 : mcode 209 1 = some (.invokevirtual 271, 3, 203, 0, 6) := rfl
theorem r209_1 : Rn 209 (1, [x0, x1], [.ref q], a, h) = if mis h q 6 = true then Bk 209 4 [x0, x1] [] (Ec 203 [.ref q] a h) else none := Rn_call1 c209_1 rfl (Nat.le_of_ble_eq_true rfl) rfl rfl (Nat.le_of_ble_eq_true rfl)
theorem c209_4 : mcode 209 4 = some (.istore_n 1, 1, 0, 0, 0) := rfl
theorem r209_4 : Rn 209 (4, [x0, x1], .int i :: st, a, h) = Nl x0 (Rn 209 (5, [x0, some (.int i)], st, a, h)) := Rn_st1 (k := 1) (v := .int i) x0 c209_4 rfl rfl rfl rfl
theorem c209_5 : mcode 209 5 = some (.iload_n 1, 1, 0, 0, 0) := rfl
theorem r209_5 : Rn 209 (5, [x0, some (.int i)], st, a, h) = Rn 209 (6, [x0, some (.int i)], .int i :: st, a, h) := Rn_go c209_5 rfl
theorem c209_6 : mcode 209 6 = some (.ifCond .lt 9, 3, 0, 0, 0) := rfl
theorem r209_6 : Rn 209 (6, [x0, x1], .int i :: st, a, h) = if i < 0 then Rn 209 (15, [x0, x1], st, a, h) else Rn 209 (9, [x0, x1], st, a, h) := Rn_ifc c209_6 mc_lt rfl rfl
theorem c209_9 : mcode 209 9 = some (.aload_n 0, 1, 0, 0, 0) := rfl
theorem r209_9 : Rn 209 (9, [some (.ref q), x1], st, a, h) = Rn 209 (10, [some (.ref q), x1], .ref q :: st, a, h) := Rn_go c209_9 rfl
theorem c209_10 : mcode 209 10 = some (.iload_n 1, 1, 0, 0, 0) := rfl
theorem r209_10 : Rn 209 (10, [x0, some (.int i)], st, a, h) = Rn 209 (11, [x0, some (.int i)], .int i :: st, a, h) := Rn_go c209_10 rfl
theorem c209_11 : mcode 209 11 = some (.invokevirtual 274, 3, 206, 1, 6) := rfl
theorem r209_11 : Rn 209 (11, [x0, x1], [v0, .ref q], a, h) = if mis h q 6 = true then Bk 209 14 [x0, x1] [] (Ec 206 [.ref q, v0] a h) else none := Rn_call1 c209_11 rfl (Nat.le_of_ble_eq_true rfl) rfl rfl (Nat.le_of_ble_eq_true rfl)
theorem c209_14 : mcode 209 14 = some (.ireturn, 1, 1, 0, 0) := rfl
theorem r209_14 : Rn 209 (14, [x0, x1], [.int i], a, h) = if mrt 1 i = true then some (some (.int i), a, h) else none := Rn_iretz c209_14
theorem c209_15 : mcode 209 15 = some (.aload_n 0, 1, 0, 0, 0) := rfl
theorem r209_15 : Rn 209 (15, [some (.ref q), x1], st, a, h) = Rn 209 (16, [some (.ref q), x1], .ref q :: st, a, h) := Rn_go c209_15 rfl
theorem c209_16 : mcode 209 16 = some (.iconst 3, 1, 0, 0, 0) := rfl
theorem r209_16 : Rn 209 (16, [x0, x1], st, a, h) = Rn 209 (17, [x0, x1], .int (3 : Int32) :: st, a, h) := Rn_go c209_16 rfl
theorem c209_17 : mcode 209 17 = some (.invokevirtual 240, 3, 198, 1, 6) := rfl
theorem r209_17 : Rn 209 (17, [x0, x1], [v0, .ref q], a, h) = if mis h q 6 = true then Bk 209 20 [x0, x1] [] (Ec 198 [.ref q, v0] a h) else none := Rn_call1 c209_17 rfl (Nat.le_of_ble_eq_true rfl) rfl rfl (Nat.le_of_ble_eq_true rfl)
theorem c209_20 : mcode 209 20 = some (.ifCond .eq 22, 3, 0, 0, 0) := rfl
theorem r209_20 : Rn 209 (20, [x0, x1], .int i :: st, a, h) = if i = 0 then Rn 209 (42, [x0, x1], st, a, h) else Rn 209 (23, [x0, x1], st, a, h) := Rn_ifc c209_20 mc_eq rfl rfl
theorem c209_23 : mcode 209 23 = some (.aload_n 0, 1, 0, 0, 0) := rfl
theorem r209_23 : Rn 209 (23, [some (.ref q), x1], st, a, h) = Rn 209 (24, [some (.ref q), x1], .ref q :: st, a, h) := Rn_go c209_23 rfl
theorem c209_24 : mcode 209 24 = some (.iconst 0, 1, 0, 0, 0) := rfl
theorem r209_24 : Rn 209 (24, [x0, x1], st, a, h) = Rn 209 (25, [x0, x1], .int (0 : Int32) :: st, a, h) := Rn_go c209_24 rfl
theorem c209_25 : mcode 209 25 = some (.bipush 100, 2, 0, 0, 0) := rfl
theorem r209_25 : Rn 209 (25, [x0, x1], st, a, h) = Rn 209 (27, [x0, x1], .int (100 : Int32) :: st, a, h) := Rn_go c209_25 rfl
theorem c209_27 : mcode 209 27 = some (.bipush 121, 2, 0, 0, 0) := rfl
theorem r209_27 : Rn 209 (27, [x0, x1], st, a, h) = Rn 209 (29, [x0, x1], .int (121 : Int32) :: st, a, h) := Rn_go c209_27 rfl
theorem c209_29 : mcode 209 29 = some (.bipush 101, 2, 0, 0, 0) := rfl
theorem r209_29 : Rn 209 (29, [x0, x1], st, a, h) = Rn 209 (31, [x0, x1], .int (101 : Int32) :: st, a, h) := Rn_go c209_29 rfl
theorem c209_31 : mcode 209 31 = some (.invokevirtual 243, 3, 197, 4, 6) := rfl
theorem r209_31 : Rn 209 (31, [x0, x1], [v3, v2, v1, v0, .ref q], a, h) = if mis h q 6 = true then Bk 209 34 [x0, x1] [] (Ec 197 [.ref q, v0, v1, v2, v3] a h) else none := Rn_call1 c209_31 rfl (Nat.le_of_ble_eq_true rfl) rfl rfl (Nat.le_of_ble_eq_true rfl)
theorem c209_34 : mcode 209 34 = some (.ifCond .eq 8, 3, 0, 0, 0) := rfl
theorem r209_34 : Rn 209 (34, [x0, x1], .int i :: st, a, h) = if i = 0 then Rn 209 (42, [x0, x1], st, a, h) else Rn 209 (37, [x0, x1], st, a, h) := Rn_ifc c209_34 mc_eq rfl rfl
theorem c209_37 : mcode 209 37 = some (.aload_n 0, 1, 0, 0, 0) := rfl
theorem r209_37 : Rn 209 (37, [some (.ref q), x1], st, a, h) = Rn 209 (38, [some (.ref q), x1], .ref q :: st, a, h) := Rn_go c209_37 rfl
theorem c209_38 : mcode 209 38 = some (.invokevirtual 277, 3, 207, 0, 6) := rfl
theorem r209_38 : Rn 209 (38, [x0, x1], [.ref q], a, h) = if mis h q 6 = true then Bk 209 41 [x0, x1] [] (Ec 207 [.ref q] a h) else none := Rn_call1 c209_38 rfl (Nat.le_of_ble_eq_true rfl) rfl rfl (Nat.le_of_ble_eq_true rfl)
theorem c209_41 : mcode 209 41 = some (.ireturn, 1, 1, 0, 0) := rfl
theorem r209_41 : Rn 209 (41, [x0, x1], [.int i], a, h) = if mrt 1 i = true then some (some (.int i), a, h) else none := Rn_iretz c209_41
theorem c209_42 : mcode 209 42 = some (.aload_n 0, 1, 0, 0, 0) := rfl
theorem r209_42 : Rn 209 (42, [some (.ref q), x1], st, a, h) = Rn 209 (43, [some (.ref q), x1], .ref q :: st, a, h) := Rn_go c209_42 rfl
theorem c209_43 : mcode 209 43 = some (.iconst 3, 1, 0, 0, 0) := rfl
theorem r209_43 : Rn 209 (43, [x0, x1], st, a, h) = Rn 209 (44, [x0, x1], .int (3 : Int32) :: st, a, h) := Rn_go c209_43 rfl
theorem c209_44 : mcode 209 44 = some (.invokevirtual 240, 3, 198, 1, 6) := rfl
theorem r209_44 : Rn 209 (44, [x0, x1], [v0, .ref q], a, h) = if mis h q 6 = true then Bk 209 47 [x0, x1] [] (Ec 198 [.ref q, v0] a h) else none := Rn_call1 c209_44 rfl (Nat.le_of_ble_eq_true rfl) rfl rfl (Nat.le_of_ble_eq_true rfl)
theorem c209_47 : mcode 209 47 = some (.ifCond .eq 26, 3, 0, 0, 0) := rfl
theorem r209_47 : Rn 209 (47, [x0, x1], .int i :: st, a, h) = if i = 0 then Rn 209 (73, [x0, x1], st, a, h) else Rn 209 (50, [x0, x1], st, a, h) := Rn_ifc c209_47 mc_eq rfl rfl
theorem c209_50 : mcode 209 50 = some (.aload_n 0, 1, 0, 0, 0) := rfl
theorem r209_50 : Rn 209 (50, [some (.ref q), x1], st, a, h) = Rn 209 (51, [some (.ref q), x1], .ref q :: st, a, h) := Rn_go c209_50 rfl
theorem c209_51 : mcode 209 51 = some (.iconst 0, 1, 0, 0, 0) := rfl
theorem r209_51 : Rn 209 (51, [x0, x1], st, a, h) = Rn 209 (52, [x0, x1], .int (0 : Int32) :: st, a, h) := Rn_go c209_51 rfl
theorem c209_52 : mcode 209 52 = some (.bipush 108, 2, 0, 0, 0) := rfl
theorem r209_52 : Rn 209 (52, [x0, x1], st, a, h) = Rn 209 (54, [x0, x1], .int (108 : Int32) :: st, a, h) := Rn_go c209_52 rfl
theorem c209_54 : mcode 209 54 = some (.bipush 121, 2, 0, 0, 0) := rfl
theorem r209_54 : Rn 209 (54, [x0, x1], st, a, h) = Rn 209 (56, [x0, x1], .int (121 : Int32) :: st, a, h) := Rn_go c209_54 rfl
theorem c209_56 : mcode 209 56 = some (.bipush 101, 2, 0, 0, 0) := rfl
theorem r209_56 : Rn 209 (56, [x0, x1], st, a, h) = Rn 209 (58, [x0, x1], .int (101 : Int32) :: st, a, h) := Rn_go c209_56 rfl
theorem c209_58 : mcode 209 58 = some (.invokevirtual 243, 3, 197, 4, 6) := rfl
theorem r209_58 : Rn 209 (58, [x0, x1], [v3, v2, v1, v0, .ref q], a, h) = if mis h q 6 = true then Bk 209 61 [x0, x1] [] (Ec 197 [.ref q, v0, v1, v2, v3] a h) else none := Rn_call1 c209_58 rfl (Nat.le_of_ble_eq_true rfl) rfl rfl (Nat.le_of_ble_eq_true rfl)
theorem c209_61 : mcode 209 61 = some (.ifCond .eq 12, 3, 0, 0, 0) := rfl
theorem r209_61 : Rn 209 (61, [x0, x1], .int i :: st, a, h) = if i = 0 then Rn 209 (73, [x0, x1], st, a, h) else Rn 209 (64, [x0, x1], st, a, h) := Rn_ifc c209_61 mc_eq rfl rfl
theorem c209_64 : mcode 209 64 = some (.aload_n 0, 1, 0, 0, 0) := rfl
theorem r209_64 : Rn 209 (64, [some (.ref q), x1], st, a, h) = Rn 209 (65, [some (.ref q), x1], .ref q :: st, a, h) := Rn_go c209_64 rfl
theorem c209_65 : mcode 209 65 = some (.iconst 1, 1, 0, 0, 0) := rfl
theorem r209_65 : Rn 209 (65, [x0, x1], st, a, h) = Rn 209 (66, [x0, x1], .int (1 : Int32) :: st, a, h) := Rn_go c209_65 rfl
theorem c209_66 : mcode 209 66 = some (.iconst 3, 1, 0, 0, 0) := rfl
theorem r209_66 : Rn 209 (66, [x0, x1], st, a, h) = Rn 209 (67, [x0, x1], .int (3 : Int32) :: st, a, h) := Rn_go c209_66 rfl
theorem c209_67 : mcode 209 67 = some (.bipush 9, 2, 0, 0, 0) := rfl
theorem r209_67 : Rn 209 (67, [x0, x1], st, a, h) = Rn 209 (69, [x0, x1], .int (9 : Int32) :: st, a, h) := Rn_go c209_67 rfl
theorem c209_69 : mcode 209 69 = some (.invokevirtual 267, 3, 205, 3, 6) := rfl
theorem r209_69 : Rn 209 (69, [x0, x1], [v2, v1, v0, .ref q], a, h) = if mis h q 6 = true then Bk 209 72 [x0, x1] [] (Ec 205 [.ref q, v0, v1, v2] a h) else none := Rn_call1 c209_69 rfl (Nat.le_of_ble_eq_true rfl) rfl rfl (Nat.le_of_ble_eq_true rfl)
theorem c209_72 : mcode 209 72 = some (.ireturn, 1, 1, 0, 0) := rfl
theorem r209_72 : Rn 209 (72, [x0, x1], [.int i], a, h) = if mrt 1 i = true then some (some (.int i), a, h) else none := Rn_iretz c209_72
theorem c209_73 : mcode 209 73 = some (.aload_n 0, 1, 0, 0, 0) := rfl
theorem r209_73 : Rn 209 (73, [some (.ref q), x1], st, a, h) = Rn 209 (74, [some (.ref q), x1], .ref q :: st, a, h) := Rn_go c209_73 rfl
theorem c209_74 : mcode 209 74 = some (.bipush 115, 2, 0, 0, 0) := rfl
theorem r209_74 : Rn 209 (74, [x0, x1], st, a, h) = Rn 209 (76, [x0, x1], .int (115 : Int32) :: st, a, h) := Rn_go c209_74 rfl
theorem c209_76 : mcode 209 76 = some (.bipush 116, 2, 0, 0, 0) := rfl
theorem r209_76 : Rn 209 (76, [x0, x1], st, a, h) = Rn 209 (78, [x0, x1], .int (116 : Int32) :: st, a, h) := Rn_go c209_76 rfl
theorem c209_78 : mcode 209 78 = some (.bipush 105, 2, 0, 0, 0) := rfl
theorem r209_78 : Rn 209 (78, [x0, x1], st, a, h) = Rn 209 (80, [x0, x1], .int (105 : Int32) :: st, a, h) := Rn_go c209_78 rfl
theorem c209_80 : mcode 209 80 = some (.bipush 114, 2, 0, 0, 0) := rfl
theorem r209_80 : Rn 209 (80, [x0, x1], st, a, h) = Rn 209 (82, [x0, x1], .int (114 : Int32) :: st, a, h) := Rn_go c209_80 rfl
theorem c209_82 : mcode 209 82 = some (.invokevirtual 255, 3, 200, 4, 6) := rfl
theorem r209_82 : Rn 209 (82, [x0, x1], [v3, v2, v1, v0, .ref q], a, h) = if mis h q 6 = true then Bk 209 85 [x0, x1] [] (Ec 200 [.ref q, v0, v1, v2, v3] a h) else none := Rn_call1 c209_82 rfl (Nat.le_of_ble_eq_true rfl) rfl rfl (Nat.le_of_ble_eq_true rfl)
theorem c209_85 : mcode 209 85 = some (.ifCond .eq 10, 3, 0, 0, 0) := rfl
theorem r209_85 : Rn 209 (85, [x0, x1], .int i :: st, a, h) = if i = 0 then Rn 209 (95, [x0, x1], st, a, h) else Rn 209 (88, [x0, x1], st, a, h) := Rn_ifc c209_85 mc_eq rfl rfl
theorem c209_88 : mcode 209 88 = some (.aload_n 0, 1, 0, 0, 0) := rfl
theorem r209_88 : Rn 209 (88, [some (.ref q), x1], st, a, h) = Rn 209 (89, [some (.ref q), x1], .ref q :: st, a, h) := Rn_go c209_88 rfl
theorem c209_89 : mcode 209 89 = some (.invokevirtual 280, 3, 208, 0, 6) := rfl
theorem r209_89 : Rn 209 (89, [x0, x1], [.ref q], a, h) = if mis h q 6 = true then Bk 209 92 [x0, x1] [] (Ec 208 [.ref q] a h) else none := Rn_call1 c209_89 rfl (Nat.le_of_ble_eq_true rfl) rfl rfl (Nat.le_of_ble_eq_true rfl)
theorem c209_92 : mcode 209 92 = some (.goto 7, 3, 0, 0, 0) := rfl
theorem r209_92 : Rn 209 (92, [x0, x1], st, a, h) = Rn 209 (99, [x0, x1], st, a, h) := Rn_goto c209_92 rfl
theorem c209_95 : mcode 209 95 = some (.aload_n 0, 1, 0, 0, 0) := rfl
theorem r209_95 : Rn 209 (95, [some (.ref q), x1], st, a, h) = Rn 209 (96, [some (.ref q), x1], .ref q :: st, a, h) := Rn_go c209_95 rfl
theorem c209_96 : mcode 209 96 = some (.invokevirtual 247, 3, 199, 0, 6) := rfl
theorem r209_96 : Rn 209 (96, [x0, x1], [.ref q], a, h) = if mis h q 6 = true then Bk 209 99 [x0, x1] [] (Ec 199 [.ref q] a h) else none := Rn_call1 c209_96 rfl (Nat.le_of_ble_eq_true rfl) rfl rfl (Nat.le_of_ble_eq_true rfl)
theorem c209_99 : mcode 209 99 = some (.ireturn, 1, 1, 0, 0) := rfl
theorem r209_99 : Rn 209 (99, [x0, x1], [.int i], a, h) = if mrt 1 i = true then some (some (.int i), a, h) else none := Rn_iretz c209_99
theorem c210_0 : mcode 210 0 = some (.aload_n 0, 1, 0, 0, 0) := rfl
theorem r210_0 : Rn 210 (0, [some (.ref q), x1, x2], st, a, h) = Rn 210 (1, [some (.ref q), x1, x2], .ref q :: st, a, h) := Rn_go c210_0 rfl
theorem c210_1 : mcode 210 1 = some (.getfield 7, 3, 6, 0, 0) := rfl
theorem r210_1 : Rn 210 (1, [x0, x1, x2], .ref q :: st, a, h) = Kv 210 4 [x0, x1, x2] st a h (mgf h q 6 0) := Rn_getf c210_1 rfl
theorem c210_4 : mcode 210 4 = some (.aload_n 0, 1, 0, 0, 0) := rfl
theorem r210_4 : Rn 210 (4, [some (.ref q), x1, x2], st, a, h) = Rn 210 (5, [some (.ref q), x1, x2], .ref q :: st, a, h) := Rn_go c210_4 rfl
theorem c210_5 : mcode 210 5 = some (.getfield 16, 3, 6, 2, 0) := rfl
theorem r210_5 : Rn 210 (5, [x0, x1, x2], .ref q :: st, a, h) = Kv 210 8 [x0, x1, x2] st a h (mgf h q 6 2) := Rn_getf c210_5 rfl
theorem c210_8 : mcode 210 8 = some (.invokestatic 157, 3, 126, 2, 0) := rfl
theorem r210_8 : Rn 210 (8, [x0, x1, x2], [v1, v0], a, h) = Bk 210 11 [x0, x1, x2] [] (Ec 126 [v0, v1] a h) := Rn_call0 c210_8 (fun z => nomatch z) rfl (Nat.le_of_ble_eq_true rfl) rfl rfl (Nat.le_of_ble_eq_true rfl)
theorem c210_11 : mcode 210 11 = some (.aload_n 0, 1, 0, 0, 0) := rfl
theorem r210_11 : Rn 210 (11, [some (.ref q), x1, x2], st, a, h) = Rn 210 (12, [some (.ref q), x1, x2], .ref q :: st, a, h) := Rn_go c210_11 rfl
theorem c210_12 : mcode 210 12 = some (.iconst 0, 1, 0, 0, 0) := rfl
theorem r210_12 : Rn 210 (12, [x0, x1, x2], st, a, h) = Rn 210 (13, [x0, x1, x2], .int (0 : Int32) :: st, a, h) := Rn_go c210_12 rfl
theorem c210_13 : mcode 210 13 = some (.putfield 216, 3, 6, 15, 0) := rfl
theorem r210_13 : Rn 210 (13, [x0, x1, x2], .int i :: .ref q :: st, a, h) = Kh 210 16 [x0, x1, x2] st a (mpf h q 6 15 (.int i)) := Rn_putfi c210_13 rfl rfl
theorem c210_16 : mcode 210 16 = some (.aload_n 0, 1, 0, 0, 0) := rfl
theorem r210_16 : Rn 210 (16, [some (.ref q), x1, x2], st, a, h) = Rn 210 (17, [some (.ref q), x1, x2], .ref q :: st, a, h) := Rn_go c210_16 rfl
theorem c210_17 : mcode 210 17 = some (.invokevirtual 258, 3, 196, 0, 6) := rfl
theorem r210_17 : Rn 210 (17, [x0, x1, x2], [.ref q], a, h) = if mis h q 6 = true then Bk 210 20 [x0, x1, x2] [] (Ec 196 [.ref q] a h) else none := Rn_call1 c210_17 rfl (Nat.le_of_ble_eq_true rfl) rfl rfl (Nat.le_of_ble_eq_true rfl)
theorem c210_20 : mcode 210 20 = some (.iconst 1, 1, 0, 0, 0) := rfl
theorem r210_20 : Rn 210 (20, [x0, x1, x2], st, a, h) = Rn 210 (21, [x0, x1, x2], .int (1 : Int32) :: st, a, h) := Rn_go c210_20 rfl
theorem c210_21 : mcode 210 21 = some (.istore_n 1, 1, 0, 0, 0) := rfl
theorem r210_21 : Rn 210 (21, [x0, x1, x2], .int i :: st, a, h) = Nl x0 (Rn 210 (22, [x0, some (.int i), x2], st, a, h)) := Rn_st1 (k := 1) (v := .int i) x0 c210_21 rfl rfl rfl rfl
theorem c210_22 : mcode 210 22 = some (.aload_n 0, 1, 0, 0, 0) := rfl
theorem r210_22 : Rn 210 (22, [some (.ref q), x1, x2], st, a, h) = Rn 210 (23, [some (.ref q), x1, x2], .ref q :: st, a, h) := Rn_go c210_22 rfl
theorem c210_23 : mcode 210 23 = some (.invokevirtual 283, 3, 209, 0, 6) := rfl
theorem r210_23 : Rn 210 (23, [x0, x1, x2], [.ref q], a, h) = if mis h q 6 = true then Bk 210 26 [x0, x1, x2] [] (Ec 209 [.ref q] a h) else none := Rn_call1 c210_23 rfl (Nat.le_of_ble_eq_true rfl) rfl rfl (Nat.le_of_ble_eq_true rfl)
theorem c210_26 : mcode 210 26 = some (.istore_n 2, 1, 0, 0, 0) := rfl
theorem r210_26 : Rn 210 (26, [x0, x1, x2], .int i :: st, a, h) = Nl x1 (Rn 210 (27, [x0, x1, some (.int i)], st, a, h)) := Rn_st1 (k := 2) (v := .int i) x1 c210_26 rfl rfl rfl rfl
theorem c210_27 : mcode 210 27 = some (.iload_n 2, 1, 0, 0, 0) := rfl
theorem r210_27 : Rn 210 (27, [x0, x1, some (.int i)], st, a, h) = Rn 210 (28, [x0, x1, some (.int i)], .int i :: st, a, h) := Rn_go c210_27 rfl
theorem c210_28 : mcode 210 28 = some (.ifCond .eq 26, 3, 0, 0, 0) := rfl
theorem r210_28 : Rn 210 (28, [x0, x1, x2], .int i :: st, a, h) = if i = 0 then Rn 210 (54, [x0, x1, x2], st, a, h) else Rn 210 (31, [x0, x1, x2], st, a, h) := Rn_ifc c210_28 mc_eq rfl rfl
theorem c210_31 : mcode 210 31 = some (.aload_n 0, 1, 0, 0, 0) := rfl
theorem r210_31 : Rn 210 (31, [some (.ref q), x1, x2], st, a, h) = Rn 210 (32, [some (.ref q), x1, x2], .ref q :: st, a, h) := Rn_go c210_31 rfl
theorem c210_32 : mcode 210 32 = some (.getfield 231, 3, 6, 13, 0) := rfl
theorem r210_32 : Rn 210 (32, [x0, x1, x2], .ref q :: st, a, h) = Kv 210 35 [x0, x1, x2] st a h (mgf h q 6 13) := Rn_getf c210_32 rfl
theorem c210_35 : mcode 210 35 = some (.iconst 3, 1, 0, 0, 0) := rfl
theorem r210_35 : Rn 210 (35, [x0, x1, x2], st, a, h) = Rn 210 (36, [x0, x1, x2], .int (3 : Int32) :: st, a, h) := Rn_go c210_35 rfl
theorem c210_36 : mcode 210 36 = some (.if_icmp .ne 18, 3, 0, 0, 0) := rfl
theorem r210_36 : Rn 210 (36, [x0, x1, x2], .int j :: .int i :: st, a, h) = if i = j then Rn 210 (39, [x0, x1, x2], st, a, h) else Rn 210 (54, [x0, x1, x2], st, a, h) := Rn_icmpn c210_36 mc_ne rfl rfl
theorem c210_39 : mcode 210 39 = some (.aload_n 0, 1, 0, 0, 0) := rfl
theorem r210_39 : Rn 210 (39, [some (.ref q), x1, x2], st, a, h) = Rn 210 (40, [some (.ref q), x1, x2], .ref q :: st, a, h) := Rn_go c210_39 rfl
theorem c210_40 : mcode 210 40 = some (.invokevirtual 258, 3, 196, 0, 6) := rfl
theorem r210_40 : Rn 210 (40, [x0, x1, x2], [.ref q], a, h) = if mis h q 6 = true then Bk 210 43 [x0, x1, x2] [] (Ec 196 [.ref q] a h) else none := Rn_call1 c210_40 rfl (Nat.le_of_ble_eq_true rfl) rfl rfl (Nat.le_of_ble_eq_true rfl)
theorem c210_43 : mcode 210 43 = some (.aload_n 0, 1, 0, 0, 0) := rfl
theorem r210_43 : Rn 210 (43, [some (.ref q), x1, x2], st, a, h) = Rn 210 (44, [some (.ref q), x1, x2], .ref q :: st, a, h) := Rn_go c210_43 rfl
theorem c210_44 : mcode 210 44 = some (.invokevirtual 283, 3, 209, 0, 6) := rfl
theorem r210_44 : Rn 210 (44, [x0, x1, x2], [.ref q], a, h) = if mis h q 6 = true then Bk 210 47 [x0, x1, x2] [] (Ec 209 [.ref q] a h) else none := Rn_call1 c210_44 rfl (Nat.le_of_ble_eq_true rfl) rfl rfl (Nat.le_of_ble_eq_true rfl)
theorem c210_47 : mcode 210 47 = some (.istore_n 2, 1, 0, 0, 0) := rfl
theorem r210_47 : Rn 210 (47, [x0, x1, x2], .int i :: st, a, h) = Nl x1 (Rn 210 (48, [x0, x1, some (.int i)], st, a, h)) := Rn_st1 (k := 2) (v := .int i) x1 c210_47 rfl rfl rfl rfl
theorem c210_48 : mcode 210 48 = some (.iinc 1 1, 3, 0, 0, 0) := rfl
theorem r210_48 : Rn 210 (48, [x0, some (.int i), x2], st, a, h) = Nl x0 (Rn 210 (51, [x0, some (.int (i + (1 : Int32))), x2], st, a, h)) := Rn_st1 (k := 1) (v := .int (i + (1 : Int32))) x0 c210_48 rfl rfl rfl rfl
theorem c210_51 : mcode 210 51 = some (.goto (-24), 3, 0, 0, 0) := rfl
theorem r210_51 : Rn 210 (51, [x0, x1, x2], st, a, h) = Rn 210 (27, [x0, x1, x2], st, a, h) := Rn_goto c210_51 rfl
theorem c210_54 : mcode 210 54 = some (.iload_n 2, 1, 0, 0, 0) := rfl
theorem r210_54 : Rn 210 (54, [x0, x1, some (.int i)], st, a, h) = Rn 210 (55, [x0, x1, some (.int i)], .int i :: st, a, h) := Rn_go c210_54 rfl
theorem c210_55 : mcode 210 55 = some (.ifCond .eq 21, 3, 0, 0, 0) := rfl
theorem r210_55 : Rn 210 (55, [x0, x1, x2], .int i :: st, a, h) = if i = 0 then Rn 210 (76, [x0, x1, x2], st, a, h) else Rn 210 (58, [x0, x1, x2], st, a, h) := Rn_ifc c210_55 mc_eq rfl rfl
theorem c210_58 : mcode 210 58 = some (.aload_n 0, 1, 0, 0, 0) := rfl
theorem r210_58 : Rn 210 (58, [some (.ref q), x1, x2], st, a, h) = Rn 210 (59, [some (.ref q), x1, x2], .ref q :: st, a, h) := Rn_go c210_58 rfl
theorem c210_59 : mcode 210 59 = some (.getfield 231, 3, 6, 13, 0) := rfl
theorem r210_59 : Rn 210 (59, [x0, x1, x2], .ref q :: st, a, h) = Kv 210 62 [x0, x1, x2] st a h (mgf h q 6 13) := Rn_getf c210_59 rfl
theorem c210_62 : mcode 210 62 = some (.ifCond .eq 10, 3, 0, 0, 0) := rfl
theorem r210_62 : Rn 210 (62, [x0, x1, x2], .int i :: st, a, h) = if i = 0 then Rn 210 (72, [x0, x1, x2], st, a, h) else Rn 210 (65, [x0, x1, x2], st, a, h) := Rn_ifc c210_62 mc_eq rfl rfl
theorem c210_65 : mcode 210 65 = some (.aload_n 0, 1, 0, 0, 0) := rfl
theorem r210_65 : Rn 210 (65, [some (.ref q), x1, x2], st, a, h) = Rn 210 (66, [some (.ref q), x1, x2], .ref q :: st, a, h) := Rn_go c210_65 rfl
theorem c210_66 : mcode 210 66 = some (.invokevirtual 247, 3, 199, 0, 6) := rfl
theorem r210_66 : Rn 210 (66, [x0, x1, x2], [.ref q], a, h) = if mis h q 6 = true then Bk 210 69 [x0, x1, x2] [] (Ec 199 [.ref q] a h) else none := Rn_call1 c210_66 rfl (Nat.le_of_ble_eq_true rfl) rfl rfl (Nat.le_of_ble_eq_true rfl)
theorem c210_69 : mcode 210 69 = some (.ifCond .eq 7, 3, 0, 0, 0) := rfl
theorem r210_69 : Rn 210 (69, [x0, x1, x2], .int i :: st, a, h) = if i = 0 then Rn 210 (76, [x0, x1, x2], st, a, h) else Rn 210 (72, [x0, x1, x2], st, a, h) := Rn_ifc c210_69 mc_eq rfl rfl
theorem c210_72 : mcode 210 72 = some (.iconst 1, 1, 0, 0, 0) := rfl
theorem r210_72 : Rn 210 (72, [x0, x1, x2], st, a, h) = Rn 210 (73, [x0, x1, x2], .int (1 : Int32) :: st, a, h) := Rn_go c210_72 rfl
theorem c210_73 : mcode 210 73 = some (.goto 4, 3, 0, 0, 0) := rfl
theorem r210_73 : Rn 210 (73, [x0, x1, x2], st, a, h) = Rn 210 (77, [x0, x1, x2], st, a, h) := Rn_goto c210_73 rfl
theorem c210_76 : mcode 210 76 = some (.iconst 0, 1, 0, 0, 0) := rfl
theorem r210_76 : Rn 210 (76, [x0, x1, x2], st, a, h) = Rn 210 (77, [x0, x1, x2], .int (0 : Int32) :: st, a, h) := Rn_go c210_76 rfl
theorem c210_77 : mcode 210 77 = some (.istore_n 2, 1, 0, 0, 0) := rfl
theorem r210_77 : Rn 210 (77, [x0, x1, x2], .int i :: st, a, h) = Nl x1 (Rn 210 (78, [x0, x1, some (.int i)], st, a, h)) := Rn_st1 (k := 2) (v := .int i) x1 c210_77 rfl rfl rfl rfl
theorem c210_78 : mcode 210 78 = some (.aload_n 0, 1, 0, 0, 0) := rfl
theorem r210_78 : Rn 210 (78, [some (.ref q), x1, x2], st, a, h) = Rn 210 (79, [some (.ref q), x1, x2], .ref q :: st, a, h) := Rn_go c210_78 rfl
theorem c210_79 : mcode 210 79 = some (.iconst 0, 1, 0, 0, 0) := rfl
theorem r210_79 : Rn 210 (79, [x0, x1, x2], st, a, h) = Rn 210 (80, [x0, x1, x2], .int (0 : Int32) :: st, a, h) := Rn_go c210_79 rfl
theorem c210_80 : mcode 210 80 = some (.putfield 213, 3, 6, 7, 0) := rfl
theorem r210_80 : Rn 210 (80, [x0, x1, x2], .int i :: .ref q :: st, a, h) = Kh 210 83 [x0, x1, x2] st a (mpf h q 6 7 (.int i)) := Rn_putfi c210_80 rfl rfl
theorem c210_83 : mcode 210 83 = some (.iload_n 2, 1, 0, 0, 0) := rfl
theorem r210_83 : Rn 210 (83, [x0, x1, some (.int i)], st, a, h) = Rn 210 (84, [x0, x1, some (.int i)], .int i :: st, a, h) := Rn_go c210_83 rfl
theorem c210_84 : mcode 210 84 = some (.ifCond .ne 14, 3, 0, 0, 0) := rfl
theorem r210_84 : Rn 210 (84, [x0, x1, x2], .int i :: st, a, h) = if i = 0 then Rn 210 (87, [x0, x1, x2], st, a, h) else Rn 210 (98, [x0, x1, x2], st, a, h) := Rn_ifcn c210_84 mc_ne rfl rfl
theorem c210_87 : mcode 210 87 = some (.aload_n 0, 1, 0, 0, 0) := rfl
theorem r210_87 : Rn 210 (87, [some (.ref q), x1, x2], st, a, h) = Rn 210 (88, [some (.ref q), x1, x2], .ref q :: st, a, h) := Rn_go c210_87 rfl
theorem c210_88 : mcode 210 88 = some (.getfield 16, 3, 6, 2, 0) := rfl
theorem r210_88 : Rn 210 (88, [x0, x1, x2], .ref q :: st, a, h) = Kv 210 91 [x0, x1, x2] st a h (mgf h q 6 2) := Rn_getf c210_88 rfl
theorem c210_91 : mcode 210 91 = some (.aload_n 0, 1, 0, 0, 0) := rfl
theorem r210_91 : Rn 210 (91, [some (.ref q), x1, x2], st, a, h) = Rn 210 (92, [some (.ref q), x1, x2], .ref q :: st, a, h) := Rn_go c210_91 rfl
theorem c210_92 : mcode 210 92 = some (.getfield 7, 3, 6, 0, 0) := rfl
theorem r210_92 : Rn 210 (92, [x0, x1, x2], .ref q :: st, a, h) = Kv 210 95 [x0, x1, x2] st a h (mgf h q 6 0) := Rn_getf c210_92 rfl
theorem c210_95 : mcode 210 95 = some (.invokestatic 157, 3, 126, 2, 0) := rfl
theorem r210_95 : Rn 210 (95, [x0, x1, x2], [v1, v0], a, h) = Bk 210 98 [x0, x1, x2] [] (Ec 126 [v0, v1] a h) := Rn_call0 c210_95 (fun z => nomatch z) rfl (Nat.le_of_ble_eq_true rfl) rfl rfl (Nat.le_of_ble_eq_true rfl)
theorem c210_98 : mcode 210 98 = some (.iload_n 2, 1, 0, 0, 0) := rfl
theorem r210_98 : Rn 210 (98, [x0, x1, some (.int i)], st, a, h) = Rn 210 (99, [x0, x1, some (.int i)], .int i :: st, a, h) := Rn_go c210_98 rfl
theorem c210_99 : mcode 210 99 = some (.ifCond .eq 7, 3, 0, 0, 0) := rfl
theorem r210_99 : Rn 210 (99, [x0, x1, x2], .int i :: st, a, h) = if i = 0 then Rn 210 (106, [x0, x1, x2], st, a, h) else Rn 210 (102, [x0, x1, x2], st, a, h) := Rn_ifc c210_99 mc_eq rfl rfl
theorem c210_102 : mcode 210 102 = some (.iload_n 1, 1, 0, 0, 0) := rfl
theorem r210_102 : Rn 210 (102, [x0, some (.int i), x2], st, a, h) = Rn 210 (103, [x0, some (.int i), x2], .int i :: st, a, h) := Rn_go c210_102 rfl
theorem c210_103 : mcode 210 103 = some (.goto 9, 3, 0, 0, 0) := rfl
theorem r210_103 : Rn 210 (103, [x0, x1, x2], st, a, h) = Rn 210 (112, [x0, x1, x2], st, a, h) := Rn_goto c210_103 rfl
theorem c210_106 : mcode 210 106 = some (.iconst (-1), 1, 0, 0, 0) := rfl
theorem r210_106 : Rn 210 (106, [x0, x1, x2], st, a, h) = Rn 210 (107, [x0, x1, x2], .int (-1 : Int32) :: st, a, h) := Rn_go c210_106 rfl
theorem c210_107 : mcode 210 107 = some (.aload_n 0, 1, 0, 0, 0) := rfl
theorem r210_107 : Rn 210 (107, [some (.ref q), x1, x2], st, a, h) = Rn 210 (108, [some (.ref q), x1, x2], .ref q :: st, a, h) := Rn_go c210_107 rfl
theorem c210_108 : mcode 210 108 = some (.getfield 237, 3, 6, 17, 0) := rfl
theorem r210_108 : Rn 210 (108, [x0, x1, x2], .ref q :: st, a, h) = Kv 210 111 [x0, x1, x2] st a h (mgf h q 6 17) := Rn_getf c210_108 rfl
theorem c210_111 : mcode 210 111 = some (.isub, 1, 0, 0, 0) := rfl
theorem r210_111 : Rn 210 (111, [x0, x1, x2], .int j :: .int i :: st, a, h) = Rn 210 (112, [x0, x1, x2], .int (i - j) :: st, a, h) := Rn_go c210_111 rfl
theorem c210_112 : mcode 210 112 = some (.ireturn, 1, 0, 0, 0) := rfl
theorem r210_112 : Rn 210 (112, [x0, x1, x2], [.int i], a, h) = some (some (.int i), a, h) := Rn_ireti c210_112
theorem c211_0 : mcode 211 0 = some (.iload_n 1, 1, 0, 0, 0) := rfl
theorem r211_0 : Rn 211 (0, [x0, some (.int i), x2], st, a, h) = Rn 211 (1, [x0, some (.int i), x2], .int i :: st, a, h) := Rn_go c211_0 rfl
theorem c211_1 : mcode 211 1 = some (.i2l, 1, 0, 0, 0) := rfl
theorem r211_1 : Rn 211 (1, [x0, x1, x2], .int i :: st, a, h) = Rn 211 (2, [x0, x1, x2], .long i.toInt64 :: st, a, h) := Rn_go c211_1 rfl
theorem c211_2 : mcode 211 2 = some (.lconst 0, 1, 0, 0, 0) := rfl
theorem r211_2 : Rn 211 (2, [x0, x1, x2], st, a, h) = Rn 211 (3, [x0, x1, x2], .long (0 : Int64) :: st, a, h) := Rn_go c211_2 rfl
theorem c211_3 : mcode 211 3 = some (.ldc2_w 77, 3, 0, 0, 9) := rfl
theorem r211_3 : Rn 211 (3, [x0, x1, x2], st, a, h) = Rn 211 (6, [x0, x1, x2], .long (9 : Int64) :: st, a, h) := Rn_go c211_3 rfl
theorem c211_6 : mcode 211 6 = some (.invokestatic 52, 3, 123, 3, 0) := rfl
theorem r211_6 : Rn 211 (6, [x0, x1, x2], [v2, v1, v0], a, h) = Bk 211 9 [x0, x1, x2] [] (Ec 123 [v0, v1, v2] a h) := Rn_call0 c211_6 (fun z => nomatch z) rfl (Nat.le_of_ble_eq_true rfl) rfl rfl (Nat.le_of_ble_eq_true rfl)
theorem c211_9 : mcode 211 9 = some (.ifCond .eq 16, 3, 0, 0, 0) := rfl
theorem r211_9 : Rn 211 (9, [x0, x1, x2], .int i :: st, a, h) = if i = 0 then Rn 211 (25, [x0, x1, x2], st, a, h) else Rn 211 (12, [x0, x1, x2], st, a, h) := Rn_ifc c211_9 mc_eq rfl rfl
theorem c211_12 : mcode 211 12 = some (.iload_n 2, 1, 0, 0, 0) := rfl
theorem r211_12 : Rn 211 (12, [x0, x1, some (.int i)], st, a, h) = Rn 211 (13, [x0, x1, some (.int i)], .int i :: st, a, h) := Rn_go c211_12 rfl
theorem c211_13 : mcode 211 13 = some (.iconst (-1), 1, 0, 0, 0) := rfl
theorem r211_13 : Rn 211 (13, [x0, x1, x2], st, a, h) = Rn 211 (14, [x0, x1, x2], .int (-1 : Int32) :: st, a, h) := Rn_go c211_13 rfl
theorem c211_14 : mcode 211 14 = some (.if_icmp .eq 18, 3, 0, 0, 0) := rfl
theorem r211_14 : Rn 211 (14, [x0, x1, x2], .int j :: .int i :: st, a, h) = if i = j then Rn 211 (32, [x0, x1, x2], st, a, h) else Rn 211 (17, [x0, x1, x2], st, a, h) := Rn_icmp c211_14 mc_eq rfl rfl
theorem c211_17 : mcode 211 17 = some (.aload_n 0, 1, 0, 0, 0) := rfl
theorem r211_17 : Rn 211 (17, [some (.ref q), x1, x2], st, a, h) = Rn 211 (18, [some (.ref q), x1, x2], .ref q :: st, a, h) := Rn_go c211_17 rfl
theorem c211_18 : mcode 211 18 = some (.iload_n 2, 1, 0, 0, 0) := rfl
theorem r211_18 : Rn 211 (18, [x0, x1, some (.int i)], st, a, h) = Rn 211 (19, [x0, x1, some (.int i)], .int i :: st, a, h) := Rn_go c211_18 rfl
theorem c211_19 : mcode 211 19 = some (.invokevirtual 98, 3, 129, 1, 6) := rfl
theorem r211_19 : Rn 211 (19, [x0, x1, x2], [v0, .ref q], a, h) = if mis h q 6 = true then Bk 211 22 [x0, x1, x2] [] (Ec 129 [.ref q, v0] a h) else none := Rn_call1 c211_19 rfl (Nat.le_of_ble_eq_true rfl) rfl rfl (Nat.le_of_ble_eq_true rfl)
theorem c211_22 : mcode 211 22 = some (.ifCond .ne 10, 3, 0, 0, 0) := rfl
theorem r211_22 : Rn 211 (22, [x0, x1, x2], .int i :: st, a, h) = if i = 0 then Rn 211 (25, [x0, x1, x2], st, a, h) else Rn 211 (32, [x0, x1, x2], st, a, h) := Rn_ifcn c211_22 mc_ne rfl rfl
theorem c211_25 : mcode 211 25 = some (.aload_n 0, 1, 0, 0, 0) := rfl
theorem r211_25 : Rn 211 (25, [some (.ref q), x1, x2], st, a, h) = Rn 211 (26, [some (.ref q), x1, x2], .ref q :: st, a, h) := Rn_go c211_25 rfl
theorem c211_26 : mcode 211 26 = some (.ldc 37, 2, 0, 0, -1000001) := rfl
theorem r211_26 : Rn 211 (26, [x0, x1, x2], st, a, h) = Rn 211 (28, [x0, x1, x2], .int (-1000001 : Int32) :: st, a, h) := Rn_go c211_26 rfl
theorem c211_28 : mcode 211 28 = some (.invokevirtual 39, 3, 124, 1, 6) := rfl
theorem r211_28 : Rn 211 (28, [x0, x1, x2], [v0, .ref q], a, h) = if mis h q 6 = true then Bk 211 31 [x0, x1, x2] [] (Ec 124 [.ref q, v0] a h) else none := Rn_call1 c211_28 rfl (Nat.le_of_ble_eq_true rfl) rfl rfl (Nat.le_of_ble_eq_true rfl)
theorem c211_31 : mcode 211 31 = some (.ireturn, 1, 0, 0, 0) := rfl
theorem r211_31 : Rn 211 (31, [x0, x1, x2], [.int i], a, h) = some (some (.int i), a, h) := Rn_ireti c211_31
theorem c211_32 : mcode 211 32 = some (.aload_n 0, 1, 0, 0, 0) := rfl
theorem r211_32 : Rn 211 (32, [some (.ref q), x1, x2], st, a, h) = Rn 211 (33, [some (.ref q), x1, x2], .ref q :: st, a, h) := Rn_go c211_32 rfl
theorem c211_33 : mcode 211 33 = some (.getfield 7, 3, 6, 0, 0) := rfl
theorem r211_33 : Rn 211 (33, [x0, x1, x2], .ref q :: st, a, h) = Kv 211 36 [x0, x1, x2] st a h (mgf h q 6 0) := Rn_getf c211_33 rfl
theorem c211_36 : mcode 211 36 = some (.bipush 76, 2, 0, 0, 0) := rfl
theorem r211_36 : Rn 211 (36, [x0, x1, x2], st, a, h) = Rn 211 (38, [x0, x1, x2], .int (76 : Int32) :: st, a, h) := Rn_go c211_36 rfl
theorem c211_38 : mcode 211 38 = some (.iload_n 1, 1, 0, 0, 0) := rfl
theorem r211_38 : Rn 211 (38, [x0, some (.int i), x2], st, a, h) = Rn 211 (39, [x0, some (.int i), x2], .int i :: st, a, h) := Rn_go c211_38 rfl
theorem c211_39 : mcode 211 39 = some (.iadd, 1, 0, 0, 0) := rfl
theorem r211_39 : Rn 211 (39, [x0, x1, x2], .int j :: .int i :: st, a, h) = Rn 211 (40, [x0, x1, x2], .int (i + j) :: st, a, h) := Rn_go c211_39 rfl
theorem c211_40 : mcode 211 40 = some (.iload_n 2, 1, 0, 0, 0) := rfl
theorem r211_40 : Rn 211 (40, [x0, x1, some (.int i)], st, a, h) = Rn 211 (41, [x0, x1, some (.int i)], .int i :: st, a, h) := Rn_go c211_40 rfl
theorem c211_41 : mcode 211 41 = some (.iastore, 1, 0, 0, 0) := rfl
theorem r211_41 : Rn 211 (41, [x0, x1, x2], .int j :: .int i :: .ref q :: st, a, h) = Kh 211 42 [x0, x1, x2] st a (mias h q i j) := Rn_iast c211_41 rfl
theorem c211_42 : mcode 211 42 = some (.iconst 1, 1, 0, 0, 0) := rfl
theorem r211_42 : Rn 211 (42, [x0, x1, x2], st, a, h) = Rn 211 (43, [x0, x1, x2], .int (1 : Int32) :: st, a, h) := Rn_go c211_42 rfl
theorem c211_43 : mcode 211 43 = some (.ireturn, 1, 0, 0, 0) := rfl
theorem r211_43 : Rn 211 (43, [x0, x1, x2], [.int i], a, h) = some (some (.int i), a, h) := Rn_ireti c211_43
theorem c212_0 : mcode 212 0 = some (.iload_n 1, 1, 0, 0, 0) := rfl
theorem r212_0 : Rn 212 (0, [x0, some (.int i)], st, a, h) = Rn 212 (1, [x0, some (.int i)], .int i :: st, a, h) := Rn_go c212_0 rfl
theorem c212_1 : mcode 212 1 = some (.ifCond .eq 44, 3, 0, 0, 0) := rfl
theorem r212_1 : Rn 212 (1, [x0, x1], .int i :: st, a, h) = if i = 0 then Rn 212 (45, [x0, x1], st, a, h) else Rn 212 (4, [x0, x1], st, a, h) := Rn_ifc c212_1 mc_eq rfl rfl
theorem c212_4 : mcode 212 4 = some (.iload_n 0, 1, 0, 0, 0) := rfl
theorem r212_4 : Rn 212 (4, [some (.int i), x1], st, a, h) = Rn 212 (5, [some (.int i), x1], .int i :: st, a, h) := Rn_go c212_4 rfl
theorem c212_5 : mcode 212 5 = some (.iload_n 1, 1, 0, 0, 0) := rfl
theorem r212_5 : Rn 212 (5, [x0, some (.int i)], st, a, h) = Rn 212 (6, [x0, some (.int i)], .int i :: st, a, h) := Rn_go c212_5 rfl
theorem c212_6 : mcode 212 6 = some (.if_icmp .eq 39, 3, 0, 0, 0) := rfl
theorem r212_6 : Rn 212 (6, [x0, x1], .int j :: .int i :: st, a, h) = if i = j then Rn 212 (45, [x0, x1], st, a, h) else Rn 212 (9, [x0, x1], st, a, h) := Rn_icmp c212_6 mc_eq rfl rfl
theorem c212_9 : mcode 212 9 = some (.iload_n 1, 1, 0, 0, 0) := rfl
theorem r212_9 : Rn 212 (9, [x0, some (.int i)], st, a, h) = Rn 212 (10, [x0, some (.int i)], .int i :: st, a, h) := Rn_go c212_9 rfl
theorem c212_10 : mcode 212 10 = some (.iconst 2, 1, 0, 0, 0) := rfl
theorem r212_10 : Rn 212 (10, [x0, x1], st, a, h) = Rn 212 (11, [x0, x1], .int (2 : Int32) :: st, a, h) := Rn_go c212_10 rfl
theorem c212_11 : mcode 212 11 = some (.if_icmp .ne 13, 3, 0, 0, 0) := rfl
theorem r212_11 : Rn 212 (11, [x0, x1], .int j :: .int i :: st, a, h) = if i = j then Rn 212 (14, [x0, x1], st, a, h) else Rn 212 (24, [x0, x1], st, a, h) := Rn_icmpn c212_11 mc_ne rfl rfl
theorem c212_14 : mcode 212 14 = some (.iload_n 0, 1, 0, 0, 0) := rfl
theorem r212_14 : Rn 212 (14, [some (.int i), x1], st, a, h) = Rn 212 (15, [some (.int i), x1], .int i :: st, a, h) := Rn_go c212_14 rfl
theorem c212_15 : mcode 212 15 = some (.iconst 3, 1, 0, 0, 0) := rfl
theorem r212_15 : Rn 212 (15, [x0, x1], st, a, h) = Rn 212 (16, [x0, x1], .int (3 : Int32) :: st, a, h) := Rn_go c212_15 rfl
theorem c212_16 : mcode 212 16 = some (.if_icmp .eq 29, 3, 0, 0, 0) := rfl
theorem r212_16 : Rn 212 (16, [x0, x1], .int j :: .int i :: st, a, h) = if i = j then Rn 212 (45, [x0, x1], st, a, h) else Rn 212 (19, [x0, x1], st, a, h) := Rn_icmp c212_16 mc_eq rfl rfl
theorem c212_19 : mcode 212 19 = some (.iload_n 0, 1, 0, 0, 0) := rfl
theorem r212_19 : Rn 212 (19, [some (.int i), x1], st, a, h) = Rn 212 (20, [some (.int i), x1], .int i :: st, a, h) := Rn_go c212_19 rfl
theorem c212_20 : mcode 212 20 = some (.iconst 4, 1, 0, 0, 0) := rfl
theorem r212_20 : Rn 212 (20, [x0, x1], st, a, h) = Rn 212 (21, [x0, x1], .int (4 : Int32) :: st, a, h) := Rn_go c212_20 rfl
theorem c212_21 : mcode 212 21 = some (.if_icmp .eq 24, 3, 0, 0, 0) := rfl
theorem r212_21 : Rn 212 (21, [x0, x1], .int j :: .int i :: st, a, h) = if i = j then Rn 212 (45, [x0, x1], st, a, h) else Rn 212 (24, [x0, x1], st, a, h) := Rn_icmp c212_21 mc_eq rfl rfl
theorem c212_24 : mcode 212 24 = some (.iload_n 1, 1, 0, 0, 0) := rfl
theorem r212_24 : Rn 212 (24, [x0, some (.int i)], st, a, h) = Rn 212 (25, [x0, some (.int i)], .int i :: st, a, h) := Rn_go c212_24 rfl
theorem c212_25 : mcode 212 25 = some (.iconst 3, 1, 0, 0, 0) := rfl
theorem r212_25 : Rn 212 (25, [x0, x1], st, a, h) = Rn 212 (26, [x0, x1], .int (3 : Int32) :: st, a, h) := Rn_go c212_25 rfl
theorem c212_26 : mcode 212 26 = some (.if_icmp .ne 8, 3, 0, 0, 0) := rfl
theorem r212_26 : Rn 212 (26, [x0, x1], .int j :: .int i :: st, a, h) = if i = j then Rn 212 (29, [x0, x1], st, a, h) else Rn 212 (34, [x0, x1], st, a, h) := Rn_icmpn c212_26 mc_ne rfl rfl
theorem c212_29 : mcode 212 29 = some (.iload_n 0, 1, 0, 0, 0) := rfl
theorem r212_29 : Rn 212 (29, [some (.int i), x1], st, a, h) = Rn 212 (30, [some (.int i), x1], .int i :: st, a, h) := Rn_go c212_29 rfl
theorem c212_30 : mcode 212 30 = some (.iconst 4, 1, 0, 0, 0) := rfl
theorem r212_30 : Rn 212 (30, [x0, x1], st, a, h) = Rn 212 (31, [x0, x1], .int (4 : Int32) :: st, a, h) := Rn_go c212_30 rfl
theorem c212_31 : mcode 212 31 = some (.if_icmp .eq 14, 3, 0, 0, 0) := rfl
theorem r212_31 : Rn 212 (31, [x0, x1], .int j :: .int i :: st, a, h) = if i = j then Rn 212 (45, [x0, x1], st, a, h) else Rn 212 (34, [x0, x1], st, a, h) := Rn_icmp c212_31 mc_eq rfl rfl
theorem c212_34 : mcode 212 34 = some (.iload_n 1, 1, 0, 0, 0) := rfl
theorem r212_34 : Rn 212 (34, [x0, some (.int i)], st, a, h) = Rn 212 (35, [x0, some (.int i)], .int i :: st, a, h) := Rn_go c212_34 rfl
theorem c212_35 : mcode 212 35 = some (.iconst 5, 1, 0, 0, 0) := rfl
theorem r212_35 : Rn 212 (35, [x0, x1], st, a, h) = Rn 212 (36, [x0, x1], .int (5 : Int32) :: st, a, h) := Rn_go c212_35 rfl
theorem c212_36 : mcode 212 36 = some (.if_icmp .ne 13, 3, 0, 0, 0) := rfl
theorem r212_36 : Rn 212 (36, [x0, x1], .int j :: .int i :: st, a, h) = if i = j then Rn 212 (39, [x0, x1], st, a, h) else Rn 212 (49, [x0, x1], st, a, h) := Rn_icmpn c212_36 mc_ne rfl rfl
theorem c212_39 : mcode 212 39 = some (.iload_n 0, 1, 0, 0, 0) := rfl
theorem r212_39 : Rn 212 (39, [some (.int i), x1], st, a, h) = Rn 212 (40, [some (.int i), x1], .int i :: st, a, h) := Rn_go c212_39 rfl
theorem c212_40 : mcode 212 40 = some (.bipush 6, 2, 0, 0, 0) := rfl
theorem r212_40 : Rn 212 (40, [x0, x1], st, a, h) = Rn 212 (42, [x0, x1], .int (6 : Int32) :: st, a, h) := Rn_go c212_40 rfl
theorem c212_42 : mcode 212 42 = some (.if_icmp .ne 7, 3, 0, 0, 0) := rfl
theorem r212_42 : Rn 212 (42, [x0, x1], .int j :: .int i :: st, a, h) = if i = j then Rn 212 (45, [x0, x1], st, a, h) else Rn 212 (49, [x0, x1], st, a, h) := Rn_icmpn c212_42 mc_ne rfl rfl
theorem c212_45 : mcode 212 45 = some (.iconst 1, 1, 0, 0, 0) := rfl
theorem r212_45 : Rn 212 (45, [x0, x1], st, a, h) = Rn 212 (46, [x0, x1], .int (1 : Int32) :: st, a, h) := Rn_go c212_45 rfl
theorem c212_46 : mcode 212 46 = some (.goto 4, 3, 0, 0, 0) := rfl
theorem r212_46 : Rn 212 (46, [x0, x1], st, a, h) = Rn 212 (50, [x0, x1], st, a, h) := Rn_goto c212_46 rfl
theorem c212_49 : mcode 212 49 = some (.iconst 0, 1, 0, 0, 0) := rfl
theorem r212_49 : Rn 212 (49, [x0, x1], st, a, h) = Rn 212 (50, [x0, x1], .int (0 : Int32) :: st, a, h) := Rn_go c212_49 rfl
theorem c212_50 : mcode 212 50 = some (.ireturn, 1, 1, 0, 0) := rfl
theorem r212_50 : Rn 212 (50, [x0, x1], [.int i], a, h) = if mrt 1 i = true then some (some (.int i), a, h) else none := Rn_iretz c212_50
theorem c213_0 : mcode 213 0 = some (.iload_n 1, 1, 0, 0, 0) := rfl
theorem r213_0 : Rn 213 (0, [x0, some (.int i), x2, x3], st, a, h) = Rn 213 (1, [x0, some (.int i), x2, x3], .int i :: st, a, h) := Rn_go c213_0 rfl
theorem c213_1 : mcode 213 1 = some (.i2l, 1, 0, 0, 0) := rfl
theorem r213_1 : Rn 213 (1, [x0, x1, x2, x3], .int i :: st, a, h) = Rn 213 (2, [x0, x1, x2, x3], .long i.toInt64 :: st, a, h) := Rn_go c213_1 rfl
theorem c213_2 : mcode 213 2 = some (.lconst 0, 1, 0, 0, 0) := rfl
theorem r213_2 : Rn 213 (2, [x0, x1, x2, x3], st, a, h) = Rn 213 (3, [x0, x1, x2, x3], .long (0 : Int64) :: st, a, h) := Rn_go c213_2 rfl
theorem c213_3 : mcode 213 3 = some (.ldc2_w 77, 3, 0, 0, 9) := rfl
theorem r213_3 : Rn 213 (3, [x0, x1, x2, x3], st, a, h) = Rn 213 (6, [x0, x1, x2, x3], .long (9 : Int64) :: st, a, h) := Rn_go c213_3 rfl
theorem c213_6 : mcode 213 6 = some (.invokestatic 52, 3, 123, 3, 0) := rfl
theorem r213_6 : Rn 213 (6, [x0, x1, x2, x3], [v2, v1, v0], a, h) = Bk 213 9 [x0, x1, x2, x3] [] (Ec 123 [v0, v1, v2] a h) := Rn_call0 c213_6 (fun z => nomatch z) rfl (Nat.le_of_ble_eq_true rfl) rfl rfl (Nat.le_of_ble_eq_true rfl)
theorem c213_9 : mcode 213 9 = some (.ifCond .eq 15, 3, 0, 0, 0) := rfl
theorem r213_9 : Rn 213 (9, [x0, x1, x2, x3], .int i :: st, a, h) = if i = 0 then Rn 213 (24, [x0, x1, x2, x3], st, a, h) else Rn 213 (12, [x0, x1, x2, x3], st, a, h) := Rn_ifc c213_9 mc_eq rfl rfl
theorem c213_12 : mcode 213 12 = some (.iload_n 2, 1, 0, 0, 0) := rfl
theorem r213_12 : Rn 213 (12, [x0, x1, some (.int i), x3], st, a, h) = Rn 213 (13, [x0, x1, some (.int i), x3], .int i :: st, a, h) := Rn_go c213_12 rfl
theorem c213_13 : mcode 213 13 = some (.i2l, 1, 0, 0, 0) := rfl
theorem r213_13 : Rn 213 (13, [x0, x1, x2, x3], .int i :: st, a, h) = Rn 213 (14, [x0, x1, x2, x3], .long i.toInt64 :: st, a, h) := Rn_go c213_13 rfl
theorem c213_14 : mcode 213 14 = some (.lconst 0, 1, 0, 0, 0) := rfl
theorem r213_14 : Rn 213 (14, [x0, x1, x2, x3], st, a, h) = Rn 213 (15, [x0, x1, x2, x3], .long (0 : Int64) :: st, a, h) := Rn_go c213_14 rfl
theorem c213_15 : mcode 213 15 = some (.ldc2_w 89, 3, 0, 0, 6) := rfl
theorem r213_15 : Rn 213 (15, [x0, x1, x2, x3], st, a, h) = Rn 213 (18, [x0, x1, x2, x3], .long (6 : Int64) :: st, a, h) := Rn_go c213_15 rfl
theorem c213_18 : mcode 213 18 = some (.invokestatic 52, 3, 123, 3, 0) := rfl
theorem r213_18 : Rn 213 (18, [x0, x1, x2, x3], [v2, v1, v0], a, h) = Bk 213 21 [x0, x1, x2, x3] [] (Ec 123 [v0, v1, v2] a h) := Rn_call0 c213_18 (fun z => nomatch z) rfl (Nat.le_of_ble_eq_true rfl) rfl rfl (Nat.le_of_ble_eq_true rfl)
theorem c213_21 : mcode 213 21 = some (.ifCond .ne 10, 3, 0, 0, 0) := rfl
theorem r213_21 : Rn 213 (21, [x0, x1, x2, x3], .int i :: st, a, h) = if i = 0 then Rn 213 (24, [x0, x1, x2, x3], st, a, h) else Rn 213 (31, [x0, x1, x2, x3], st, a, h) := Rn_ifcn c213_21 mc_ne rfl rfl
theorem c213_24 : mcode 213 24 = some (.aload_n 0, 1, 0, 0, 0) := rfl
theorem r213_24 : Rn 213 (24, [some (.ref q), x1, x2, x3], st, a, h) = Rn 213 (25, [some (.ref q), x1, x2, x3], .ref q :: st, a, h) := Rn_go c213_24 rfl
theorem c213_25 : mcode 213 25 = some (.ldc 37, 2, 0, 0, -1000001) := rfl
theorem r213_25 : Rn 213 (25, [x0, x1, x2, x3], st, a, h) = Rn 213 (27, [x0, x1, x2, x3], .int (-1000001 : Int32) :: st, a, h) := Rn_go c213_25 rfl
theorem c213_27 : mcode 213 27 = some (.invokevirtual 39, 3, 124, 1, 6) := rfl
theorem r213_27 : Rn 213 (27, [x0, x1, x2, x3], [v0, .ref q], a, h) = if mis h q 6 = true then Bk 213 30 [x0, x1, x2, x3] [] (Ec 124 [.ref q, v0] a h) else none := Rn_call1 c213_27 rfl (Nat.le_of_ble_eq_true rfl) rfl rfl (Nat.le_of_ble_eq_true rfl)
theorem c213_30 : mcode 213 30 = some (.ireturn, 1, 0, 0, 0) := rfl
theorem r213_30 : Rn 213 (30, [x0, x1, x2, x3], [.int i], a, h) = some (some (.int i), a, h) := Rn_ireti c213_30
theorem c213_31 : mcode 213 31 = some (.aload_n 0, 1, 0, 0, 0) := rfl
theorem r213_31 : Rn 213 (31, [some (.ref q), x1, x2, x3], st, a, h) = Rn 213 (32, [some (.ref q), x1, x2, x3], .ref q :: st, a, h) := Rn_go c213_31 rfl
theorem c213_32 : mcode 213 32 = some (.getfield 7, 3, 6, 0, 0) := rfl
theorem r213_32 : Rn 213 (32, [x0, x1, x2, x3], .ref q :: st, a, h) = Kv 213 35 [x0, x1, x2, x3] st a h (mgf h q 6 0) := Rn_getf c213_32 rfl
theorem c213_35 : mcode 213 35 = some (.bipush 76, 2, 0, 0, 0) := rfl
theorem r213_35 : Rn 213 (35, [x0, x1, x2, x3], st, a, h) = Rn 213 (37, [x0, x1, x2, x3], .int (76 : Int32) :: st, a, h) := Rn_go c213_35 rfl
theorem c213_37 : mcode 213 37 = some (.iload_n 1, 1, 0, 0, 0) := rfl
theorem r213_37 : Rn 213 (37, [x0, some (.int i), x2, x3], st, a, h) = Rn 213 (38, [x0, some (.int i), x2, x3], .int i :: st, a, h) := Rn_go c213_37 rfl
theorem c213_38 : mcode 213 38 = some (.iadd, 1, 0, 0, 0) := rfl
theorem r213_38 : Rn 213 (38, [x0, x1, x2, x3], .int j :: .int i :: st, a, h) = Rn 213 (39, [x0, x1, x2, x3], .int (i + j) :: st, a, h) := Rn_go c213_38 rfl
theorem c213_39 : mcode 213 39 = some (.iaload, 1, 0, 0, 0) := rfl
theorem r213_39 : Rn 213 (39, [x0, x1, x2, x3], .int i :: .ref q :: st, a, h) = Ki 213 40 [x0, x1, x2, x3] st a h (mld h q i false) := Rn_iald c213_39 rfl
theorem c213_40 : mcode 213 40 = some (.istore_n 3, 1, 0, 0, 0) := rfl
theorem r213_40 : Rn 213 (40, [x0, x1, x2, x3], .int i :: st, a, h) = Nl x2 (Rn 213 (41, [x0, x1, x2, some (.int i)], st, a, h)) := Rn_st1 (k := 3) (v := .int i) x2 c213_40 rfl rfl rfl rfl
theorem c213_41 : mcode 213 41 = some (.iload_n 3, 1, 0, 0, 0) := rfl
theorem r213_41 : Rn 213 (41, [x0, x1, x2, some (.int i)], st, a, h) = Rn 213 (42, [x0, x1, x2, some (.int i)], .int i :: st, a, h) := Rn_go c213_41 rfl
theorem c213_42 : mcode 213 42 = some (.ifCond .ge 11, 3, 0, 0, 0) := rfl
theorem r213_42 : Rn 213 (42, [x0, x1, x2, x3], .int i :: st, a, h) = if i < 0 then Rn 213 (45, [x0, x1, x2, x3], st, a, h) else Rn 213 (53, [x0, x1, x2, x3], st, a, h) := Rn_ifcn c213_42 mc_ge rfl rfl
theorem c213_45 : mcode 213 45 = some (.aload_n 0, 1, 0, 0, 0) := rfl
theorem r213_45 : Rn 213 (45, [some (.ref q), x1, x2, x3], st, a, h) = Rn 213 (46, [some (.ref q), x1, x2, x3], .ref q :: st, a, h) := Rn_go c213_45 rfl
theorem c213_46 : mcode 213 46 = some (.ldc_w 286, 3, 0, 0, -1000006) := rfl
theorem r213_46 : Rn 213 (46, [x0, x1, x2, x3], st, a, h) = Rn 213 (49, [x0, x1, x2, x3], .int (-1000006 : Int32) :: st, a, h) := Rn_go c213_46 rfl
theorem c213_49 : mcode 213 49 = some (.invokevirtual 39, 3, 124, 1, 6) := rfl
theorem r213_49 : Rn 213 (49, [x0, x1, x2, x3], [v0, .ref q], a, h) = if mis h q 6 = true then Bk 213 52 [x0, x1, x2, x3] [] (Ec 124 [.ref q, v0] a h) else none := Rn_call1 c213_49 rfl (Nat.le_of_ble_eq_true rfl) rfl rfl (Nat.le_of_ble_eq_true rfl)
theorem c213_52 : mcode 213 52 = some (.ireturn, 1, 0, 0, 0) := rfl
theorem r213_52 : Rn 213 (52, [x0, x1, x2, x3], [.int i], a, h) = some (some (.int i), a, h) := Rn_ireti c213_52
theorem c213_53 : mcode 213 53 = some (.aload_n 0, 1, 0, 0, 0) := rfl
theorem r213_53 : Rn 213 (53, [some (.ref q), x1, x2, x3], st, a, h) = Rn 213 (54, [some (.ref q), x1, x2, x3], .ref q :: st, a, h) := Rn_go c213_53 rfl
theorem c213_54 : mcode 213 54 = some (.iload_n 3, 1, 0, 0, 0) := rfl
theorem r213_54 : Rn 213 (54, [x0, x1, x2, some (.int i)], st, a, h) = Rn 213 (55, [x0, x1, x2, some (.int i)], .int i :: st, a, h) := Rn_go c213_54 rfl
theorem c213_55 : mcode 213 55 = some (.iconst 0, 1, 0, 0, 0) := rfl
theorem r213_55 : Rn 213 (55, [x0, x1, x2, x3], st, a, h) = Rn 213 (56, [x0, x1, x2, x3], .int (0 : Int32) :: st, a, h) := Rn_go c213_55 rfl
theorem c213_56 : mcode 213 56 = some (.invokevirtual 63, 3, 131, 2, 6) := rfl
theorem r213_56 : Rn 213 (56, [x0, x1, x2, x3], [v1, v0, .ref q], a, h) = if mis h q 6 = true then Bk 213 59 [x0, x1, x2, x3] [] (Ec 131 [.ref q, v0, v1] a h) else none := Rn_call1 c213_56 rfl (Nat.le_of_ble_eq_true rfl) rfl rfl (Nat.le_of_ble_eq_true rfl)
theorem c213_59 : mcode 213 59 = some (.iload_n 2, 1, 0, 0, 0) := rfl
theorem r213_59 : Rn 213 (59, [x0, x1, some (.int i), x3], st, a, h) = Rn 213 (60, [x0, x1, some (.int i), x3], .int i :: st, a, h) := Rn_go c213_59 rfl
theorem c213_60 : mcode 213 60 = some (.invokestatic 287, 3, 212, 2, 0) := rfl
theorem r213_60 : Rn 213 (60, [x0, x1, x2, x3], [v1, v0], a, h) = Bk 213 63 [x0, x1, x2, x3] [] (Ec 212 [v0, v1] a h) := Rn_call0 c213_60 (fun z => nomatch z) rfl (Nat.le_of_ble_eq_true rfl) rfl rfl (Nat.le_of_ble_eq_true rfl)
theorem c213_63 : mcode 213 63 = some (.ifCond .eq 7, 3, 0, 0, 0) := rfl
theorem r213_63 : Rn 213 (63, [x0, x1, x2, x3], .int i :: st, a, h) = if i = 0 then Rn 213 (70, [x0, x1, x2, x3], st, a, h) else Rn 213 (66, [x0, x1, x2, x3], st, a, h) := Rn_ifc c213_63 mc_eq rfl rfl
theorem c213_66 : mcode 213 66 = some (.iload_n 3, 1, 0, 0, 0) := rfl
theorem r213_66 : Rn 213 (66, [x0, x1, x2, some (.int i)], st, a, h) = Rn 213 (67, [x0, x1, x2, some (.int i)], .int i :: st, a, h) := Rn_go c213_66 rfl
theorem c213_67 : mcode 213 67 = some (.goto 10, 3, 0, 0, 0) := rfl
theorem r213_67 : Rn 213 (67, [x0, x1, x2, x3], st, a, h) = Rn 213 (77, [x0, x1, x2, x3], st, a, h) := Rn_goto c213_67 rfl
theorem c213_70 : mcode 213 70 = some (.aload_n 0, 1, 0, 0, 0) := rfl
theorem r213_70 : Rn 213 (70, [some (.ref q), x1, x2, x3], st, a, h) = Rn 213 (71, [some (.ref q), x1, x2, x3], .ref q :: st, a, h) := Rn_go c213_70 rfl
theorem c213_71 : mcode 213 71 = some (.ldc_w 290, 3, 0, 0, -1000003) := rfl
theorem r213_71 : Rn 213 (71, [x0, x1, x2, x3], st, a, h) = Rn 213 (74, [x0, x1, x2, x3], .int (-1000003 : Int32) :: st, a, h) := Rn_go c213_71 rfl
theorem c213_74 : mcode 213 74 = some (.invokevirtual 39, 3, 124, 1, 6) := rfl
theorem r213_74 : Rn 213 (74, [x0, x1, x2, x3], [v0, .ref q], a, h) = if mis h q 6 = true then Bk 213 77 [x0, x1, x2, x3] [] (Ec 124 [.ref q, v0] a h) else none := Rn_call1 c213_74 rfl (Nat.le_of_ble_eq_true rfl) rfl rfl (Nat.le_of_ble_eq_true rfl)
theorem c213_77 : mcode 213 77 = some (.ireturn, 1, 0, 0, 0) := rfl
theorem r213_77 : Rn 213 (77, [x0, x1, x2, x3], [.int i], a, h) = some (some (.int i), a, h) := Rn_ireti c213_77
theorem c214_0 : mcode 214 0 = some (.iload_n 0, 1, 0, 0, 0) := rfl
theorem r214_0 : Rn 214 (0, [some (.int i)], st, a, h) = Rn 214 (1, [some (.int i)], .int i :: st, a, h) := Rn_go c214_0 rfl
theorem c214_1 : mcode 214 1 = some (.ifCond .lt 12, 3, 0, 0, 0) := rfl
theorem r214_1 : Rn 214 (1, [x0], .int i :: st, a, h) = if i < 0 then Rn 214 (13, [x0], st, a, h) else Rn 214 (4, [x0], st, a, h) := Rn_ifc c214_1 mc_lt rfl rfl
theorem c214_4 : mcode 214 4 = some (.iload_n 0, 1, 0, 0, 0) := rfl
theorem r214_4 : Rn 214 (4, [some (.int i)], st, a, h) = Rn 214 (5, [some (.int i)], .int i :: st, a, h) := Rn_go c214_4 rfl
theorem c214_5 : mcode 214 5 = some (.iconst 4, 1, 0, 0, 0) := rfl
theorem r214_5 : Rn 214 (5, [x0], st, a, h) = Rn 214 (6, [x0], .int (4 : Int32) :: st, a, h) := Rn_go c214_5 rfl
theorem c214_6 : mcode 214 6 = some (.if_icmp .ge 7, 3, 0, 0, 0) := rfl
theorem r214_6 : Rn 214 (6, [x0], .int j :: .int i :: st, a, h) = if i < j then Rn 214 (9, [x0], st, a, h) else Rn 214 (13, [x0], st, a, h) := Rn_icmpn c214_6 mc_ge rfl rfl
theorem c214_9 : mcode 214 9 = some (.iconst 1, 1, 0, 0, 0) := rfl
theorem r214_9 : Rn 214 (9, [x0], st, a, h) = Rn 214 (10, [x0], .int (1 : Int32) :: st, a, h) := Rn_go c214_9 rfl
theorem c214_10 : mcode 214 10 = some (.goto 4, 3, 0, 0, 0) := rfl
theorem r214_10 : Rn 214 (10, [x0], st, a, h) = Rn 214 (14, [x0], st, a, h) := Rn_goto c214_10 rfl
theorem c214_13 : mcode 214 13 = some (.iconst 0, 1, 0, 0, 0) := rfl
theorem r214_13 : Rn 214 (13, [x0], st, a, h) = Rn 214 (14, [x0], .int (0 : Int32) :: st, a, h) := Rn_go c214_13 rfl
theorem c214_14 : mcode 214 14 = some (.ireturn, 1, 1, 0, 0) := rfl
theorem r214_14 : Rn 214 (14, [x0], [.int i], a, h) = if mrt 1 i = true then some (some (.int i), a, h) else none := Rn_iretz c214_14
theorem c215_0 : mcode 215 0 = some (.iload_n 1, 1, 0, 0, 0) := rfl
theorem r215_0 : Rn 215 (0, [x0, some (.int i), x2, x3, x4], st, a, h) = Rn 215 (1, [x0, some (.int i), x2, x3, x4], .int i :: st, a, h) := Rn_go c215_0 rfl
theorem c215_1 : mcode 215 1 = some (.invokestatic 291, 3, 214, 1, 0) := rfl
theorem r215_1 : Rn 215 (1, [x0, x1, x2, x3, x4], [v0], a, h) = Bk 215 4 [x0, x1, x2, x3, x4] [] (Ec 214 [v0] a h) := Rn_call0 c215_1 (fun z => nomatch z) rfl (Nat.le_of_ble_eq_true rfl) rfl rfl (Nat.le_of_ble_eq_true rfl)
theorem c215_4 : mcode 215 4 = some (.ifCond .eq 25, 3, 0, 0, 0) := rfl
theorem r215_4 : Rn 215 (4, [x0, x1, x2, x3, x4], .int i :: st, a, h) = if i = 0 then Rn 215 (29, [x0, x1, x2, x3, x4], st, a, h) else Rn 215 (7, [x0, x1, x2, x3, x4], st, a, h) := Rn_ifc c215_4 mc_eq rfl rfl
theorem c215_7 : mcode 215 7 = some (.iload_n 2, 1, 0, 0, 0) := rfl
theorem r215_7 : Rn 215 (7, [x0, x1, some (.int i), x3, x4], st, a, h) = Rn 215 (8, [x0, x1, some (.int i), x3, x4], .int i :: st, a, h) := Rn_go c215_7 rfl
theorem c215_8 : mcode 215 8 = some (.ifCond .eq 28, 3, 0, 0, 0) := rfl
theorem r215_8 : Rn 215 (8, [x0, x1, x2, x3, x4], .int i :: st, a, h) = if i = 0 then Rn 215 (36, [x0, x1, x2, x3, x4], st, a, h) else Rn 215 (11, [x0, x1, x2, x3, x4], st, a, h) := Rn_ifc c215_8 mc_eq rfl rfl
theorem c215_11 : mcode 215 11 = some (.iload_n 2, 1, 0, 0, 0) := rfl
theorem r215_11 : Rn 215 (11, [x0, x1, some (.int i), x3, x4], st, a, h) = Rn 215 (12, [x0, x1, some (.int i), x3, x4], .int i :: st, a, h) := Rn_go c215_11 rfl
theorem c215_12 : mcode 215 12 = some (.bipush 8, 2, 0, 0, 0) := rfl
theorem r215_12 : Rn 215 (12, [x0, x1, x2, x3, x4], st, a, h) = Rn 215 (14, [x0, x1, x2, x3, x4], .int (8 : Int32) :: st, a, h) := Rn_go c215_12 rfl
theorem c215_14 : mcode 215 14 = some (.if_icmp .eq 22, 3, 0, 0, 0) := rfl
theorem r215_14 : Rn 215 (14, [x0, x1, x2, x3, x4], .int j :: .int i :: st, a, h) = if i = j then Rn 215 (36, [x0, x1, x2, x3, x4], st, a, h) else Rn 215 (17, [x0, x1, x2, x3, x4], st, a, h) := Rn_icmp c215_14 mc_eq rfl rfl
theorem c215_17 : mcode 215 17 = some (.iload_n 2, 1, 0, 0, 0) := rfl
theorem r215_17 : Rn 215 (17, [x0, x1, some (.int i), x3, x4], st, a, h) = Rn 215 (18, [x0, x1, some (.int i), x3, x4], .int i :: st, a, h) := Rn_go c215_17 rfl
theorem c215_18 : mcode 215 18 = some (.bipush 16, 2, 0, 0, 0) := rfl
theorem r215_18 : Rn 215 (18, [x0, x1, x2, x3, x4], st, a, h) = Rn 215 (20, [x0, x1, x2, x3, x4], .int (16 : Int32) :: st, a, h) := Rn_go c215_18 rfl
theorem c215_20 : mcode 215 20 = some (.if_icmp .eq 16, 3, 0, 0, 0) := rfl
theorem r215_20 : Rn 215 (20, [x0, x1, x2, x3, x4], .int j :: .int i :: st, a, h) = if i = j then Rn 215 (36, [x0, x1, x2, x3, x4], st, a, h) else Rn 215 (23, [x0, x1, x2, x3, x4], st, a, h) := Rn_icmp c215_20 mc_eq rfl rfl
theorem c215_23 : mcode 215 23 = some (.iload_n 2, 1, 0, 0, 0) := rfl
theorem r215_23 : Rn 215 (23, [x0, x1, some (.int i), x3, x4], st, a, h) = Rn 215 (24, [x0, x1, some (.int i), x3, x4], .int i :: st, a, h) := Rn_go c215_23 rfl
theorem c215_24 : mcode 215 24 = some (.bipush 32, 2, 0, 0, 0) := rfl
theorem r215_24 : Rn 215 (24, [x0, x1, x2, x3, x4], st, a, h) = Rn 215 (26, [x0, x1, x2, x3, x4], .int (32 : Int32) :: st, a, h) := Rn_go c215_24 rfl
theorem c215_26 : mcode 215 26 = some (.if_icmp .eq 10, 3, 0, 0, 0) := rfl
theorem r215_26 : Rn 215 (26, [x0, x1, x2, x3, x4], .int j :: .int i :: st, a, h) = if i = j then Rn 215 (36, [x0, x1, x2, x3, x4], st, a, h) else Rn 215 (29, [x0, x1, x2, x3, x4], st, a, h) := Rn_icmp c215_26 mc_eq rfl rfl
theorem c215_29 : mcode 215 29 = some (.aload_n 0, 1, 0, 0, 0) := rfl
theorem r215_29 : Rn 215 (29, [some (.ref q), x1, x2, x3, x4], st, a, h) = Rn 215 (30, [some (.ref q), x1, x2, x3, x4], .ref q :: st, a, h) := Rn_go c215_29 rfl
theorem c215_30 : mcode 215 30 = some (.ldc 37, 2, 0, 0, -1000001) := rfl
theorem r215_30 : Rn 215 (30, [x0, x1, x2, x3, x4], st, a, h) = Rn 215 (32, [x0, x1, x2, x3, x4], .int (-1000001 : Int32) :: st, a, h) := Rn_go c215_30 rfl
theorem c215_32 : mcode 215 32 = some (.invokevirtual 39, 3, 124, 1, 6) := rfl
theorem r215_32 : Rn 215 (32, [x0, x1, x2, x3, x4], [v0, .ref q], a, h) = if mis h q 6 = true then Bk 215 35 [x0, x1, x2, x3, x4] [] (Ec 124 [.ref q, v0] a h) else none := Rn_call1 c215_32 rfl (Nat.le_of_ble_eq_true rfl) rfl rfl (Nat.le_of_ble_eq_true rfl)
theorem c215_35 : mcode 215 35 = some (.ireturn, 1, 0, 0, 0) := rfl
theorem r215_35 : Rn 215 (35, [x0, x1, x2, x3, x4], [.int i], a, h) = some (some (.int i), a, h) := Rn_ireti c215_35
theorem c215_36 : mcode 215 36 = some (.iload_n 3, 1, 0, 0, 0) := rfl
theorem r215_36 : Rn 215 (36, [x0, x1, x2, some (.int i), x4], st, a, h) = Rn 215 (37, [x0, x1, x2, some (.int i), x4], .int i :: st, a, h) := Rn_go c215_36 rfl
theorem c215_37 : mcode 215 37 = some (.ifCond .ge 11, 3, 0, 0, 0) := rfl
theorem r215_37 : Rn 215 (37, [x0, x1, x2, x3, x4], .int i :: st, a, h) = if i < 0 then Rn 215 (40, [x0, x1, x2, x3, x4], st, a, h) else Rn 215 (48, [x0, x1, x2, x3, x4], st, a, h) := Rn_ifcn c215_37 mc_ge rfl rfl
theorem c215_40 : mcode 215 40 = some (.aload_n 0, 1, 0, 0, 0) := rfl
theorem r215_40 : Rn 215 (40, [some (.ref q), x1, x2, x3, x4], st, a, h) = Rn 215 (41, [some (.ref q), x1, x2, x3, x4], .ref q :: st, a, h) := Rn_go c215_40 rfl
theorem c215_41 : mcode 215 41 = some (.ldc_w 294, 3, 0, 0, -1000007) := rfl
theorem r215_41 : Rn 215 (41, [x0, x1, x2, x3, x4], st, a, h) = Rn 215 (44, [x0, x1, x2, x3, x4], .int (-1000007 : Int32) :: st, a, h) := Rn_go c215_41 rfl
theorem c215_44 : mcode 215 44 = some (.invokevirtual 39, 3, 124, 1, 6) := rfl
theorem r215_44 : Rn 215 (44, [x0, x1, x2, x3, x4], [v0, .ref q], a, h) = if mis h q 6 = true then Bk 215 47 [x0, x1, x2, x3, x4] [] (Ec 124 [.ref q, v0] a h) else none := Rn_call1 c215_44 rfl (Nat.le_of_ble_eq_true rfl) rfl rfl (Nat.le_of_ble_eq_true rfl)
theorem c215_47 : mcode 215 47 = some (.ireturn, 1, 0, 0, 0) := rfl
theorem r215_47 : Rn 215 (47, [x0, x1, x2, x3, x4], [.int i], a, h) = some (some (.int i), a, h) := Rn_ireti c215_47
theorem c215_48 : mcode 215 48 = some (.iload_n 3, 1, 0, 0, 0) := rfl
theorem r215_48 : Rn 215 (48, [x0, x1, x2, some (.int i), x4], st, a, h) = Rn 215 (49, [x0, x1, x2, some (.int i), x4], .int i :: st, a, h) := Rn_go c215_48 rfl
theorem c215_49 : mcode 215 49 = some (.bipush 40, 2, 0, 0, 0) := rfl
theorem r215_49 : Rn 215 (49, [x0, x1, x2, x3, x4], st, a, h) = Rn 215 (51, [x0, x1, x2, x3, x4], .int (40 : Int32) :: st, a, h) := Rn_go c215_49 rfl
theorem c215_51 : mcode 215 51 = some (.if_icmp .le 10, 3, 0, 0, 0) := rfl
theorem r215_51 : Rn 215 (51, [x0, x1, x2, x3, x4], .int j :: .int i :: st, a, h) = if j < i then Rn 215 (54, [x0, x1, x2, x3, x4], st, a, h) else Rn 215 (61, [x0, x1, x2, x3, x4], st, a, h) := Rn_icmpn c215_51 mc_le rfl rfl
theorem c215_54 : mcode 215 54 = some (.aload_n 0, 1, 0, 0, 0) := rfl
theorem r215_54 : Rn 215 (54, [some (.ref q), x1, x2, x3, x4], st, a, h) = Rn 215 (55, [some (.ref q), x1, x2, x3, x4], .ref q :: st, a, h) := Rn_go c215_54 rfl
theorem c215_55 : mcode 215 55 = some (.ldc 37, 2, 0, 0, -1000001) := rfl
theorem r215_55 : Rn 215 (55, [x0, x1, x2, x3, x4], st, a, h) = Rn 215 (57, [x0, x1, x2, x3, x4], .int (-1000001 : Int32) :: st, a, h) := Rn_go c215_55 rfl
theorem c215_57 : mcode 215 57 = some (.invokevirtual 39, 3, 124, 1, 6) := rfl
theorem r215_57 : Rn 215 (57, [x0, x1, x2, x3, x4], [v0, .ref q], a, h) = if mis h q 6 = true then Bk 215 60 [x0, x1, x2, x3, x4] [] (Ec 124 [.ref q, v0] a h) else none := Rn_call1 c215_57 rfl (Nat.le_of_ble_eq_true rfl) rfl rfl (Nat.le_of_ble_eq_true rfl)
theorem c215_60 : mcode 215 60 = some (.ireturn, 1, 0, 0, 0) := rfl
theorem r215_60 : Rn 215 (60, [x0, x1, x2, x3, x4], [.int i], a, h) = some (some (.int i), a, h) := Rn_ireti c215_60
theorem c215_61 : mcode 215 61 = some (.aload_n 0, 1, 0, 0, 0) := rfl
theorem r215_61 : Rn 215 (61, [some (.ref q), x1, x2, x3, x4], st, a, h) = Rn 215 (62, [some (.ref q), x1, x2, x3, x4], .ref q :: st, a, h) := Rn_go c215_61 rfl
theorem c215_62 : mcode 215 62 = some (.getfield 28, 3, 6, 8, 0) := rfl
theorem r215_62 : Rn 215 (62, [x0, x1, x2, x3, x4], .ref q :: st, a, h) = Kv 215 65 [x0, x1, x2, x3, x4] st a h (mgf h q 6 8) := Rn_getf c215_62 rfl
theorem c215_65 : mcode 215 65 = some (.iload_n 1, 1, 0, 0, 0) := rfl
theorem r215_65 : Rn 215 (65, [x0, some (.int i), x2, x3, x4], st, a, h) = Rn 215 (66, [x0, some (.int i), x2, x3, x4], .int i :: st, a, h) := Rn_go c215_65 rfl
theorem c215_66 : mcode 215 66 = some (.iload_n 2, 1, 0, 0, 0) := rfl
theorem r215_66 : Rn 215 (66, [x0, x1, some (.int i), x3, x4], st, a, h) = Rn 215 (67, [x0, x1, some (.int i), x3, x4], .int i :: st, a, h) := Rn_go c215_66 rfl
theorem c215_67 : mcode 215 67 = some (.ifCond .ne 7, 3, 0, 0, 0) := rfl
theorem r215_67 : Rn 215 (67, [x0, x1, x2, x3, x4], .int i :: st, a, h) = if i = 0 then Rn 215 (70, [x0, x1, x2, x3, x4], st, a, h) else Rn 215 (74, [x0, x1, x2, x3, x4], st, a, h) := Rn_ifcn c215_67 mc_ne rfl rfl
theorem c215_70 : mcode 215 70 = some (.iconst (-1), 1, 0, 0, 0) := rfl
theorem r215_70 : Rn 215 (70, [x0, x1, x2, x3, x4], st, a, h) = Rn 215 (71, [x0, x1, x2, x3, x4], .int (-1 : Int32) :: st, a, h) := Rn_go c215_70 rfl
theorem c215_71 : mcode 215 71 = some (.goto 4, 3, 0, 0, 0) := rfl
theorem r215_71 : Rn 215 (71, [x0, x1, x2, x3, x4], st, a, h) = Rn 215 (75, [x0, x1, x2, x3, x4], st, a, h) := Rn_goto c215_71 rfl
theorem c215_74 : mcode 215 74 = some (.iload_n 2, 1, 0, 0, 0) := rfl
theorem r215_74 : Rn 215 (74, [x0, x1, some (.int i), x3, x4], st, a, h) = Rn 215 (75, [x0, x1, some (.int i), x3, x4], .int i :: st, a, h) := Rn_go c215_74 rfl
theorem c215_75 : mcode 215 75 = some (.iastore, 1, 0, 0, 0) := rfl
theorem r215_75 : Rn 215 (75, [x0, x1, x2, x3, x4], .int j :: .int i :: .ref q :: st, a, h) = Kh 215 76 [x0, x1, x2, x3, x4] st a (mias h q i j) := Rn_iast c215_75 rfl
theorem c215_76 : mcode 215 76 = some (.aload_n 0, 1, 0, 0, 0) := rfl
theorem r215_76 : Rn 215 (76, [some (.ref q), x1, x2, x3, x4], st, a, h) = Rn 215 (77, [some (.ref q), x1, x2, x3, x4], .ref q :: st, a, h) := Rn_go c215_76 rfl
theorem c215_77 : mcode 215 77 = some (.getfield 31, 3, 6, 9, 0) := rfl
theorem r215_77 : Rn 215 (77, [x0, x1, x2, x3, x4], .ref q :: st, a, h) = Kv 215 80 [x0, x1, x2, x3, x4] st a h (mgf h q 6 9) := Rn_getf c215_77 rfl
theorem c215_80 : mcode 215 80 = some (.iload_n 1, 1, 0, 0, 0) := rfl
theorem r215_80 : Rn 215 (80, [x0, some (.int i), x2, x3, x4], st, a, h) = Rn 215 (81, [x0, some (.int i), x2, x3, x4], .int i :: st, a, h) := Rn_go c215_80 rfl
theorem c215_81 : mcode 215 81 = some (.iload_n 2, 1, 0, 0, 0) := rfl
theorem r215_81 : Rn 215 (81, [x0, x1, some (.int i), x3, x4], st, a, h) = Rn 215 (82, [x0, x1, some (.int i), x3, x4], .int i :: st, a, h) := Rn_go c215_81 rfl
theorem c215_82 : mcode 215 82 = some (.ifCond .ne 7, 3, 0, 0, 0) := rfl
theorem r215_82 : Rn 215 (82, [x0, x1, x2, x3, x4], .int i :: st, a, h) = if i = 0 then Rn 215 (85, [x0, x1, x2, x3, x4], st, a, h) else Rn 215 (89, [x0, x1, x2, x3, x4], st, a, h) := Rn_ifcn c215_82 mc_ne rfl rfl
theorem c215_85 : mcode 215 85 = some (.iconst 0, 1, 0, 0, 0) := rfl
theorem r215_85 : Rn 215 (85, [x0, x1, x2, x3, x4], st, a, h) = Rn 215 (86, [x0, x1, x2, x3, x4], .int (0 : Int32) :: st, a, h) := Rn_go c215_85 rfl
theorem c215_86 : mcode 215 86 = some (.goto 4, 3, 0, 0, 0) := rfl
theorem r215_86 : Rn 215 (86, [x0, x1, x2, x3, x4], st, a, h) = Rn 215 (90, [x0, x1, x2, x3, x4], st, a, h) := Rn_goto c215_86 rfl
theorem c215_89 : mcode 215 89 = some (.iload_n 3, 1, 0, 0, 0) := rfl
theorem r215_89 : Rn 215 (89, [x0, x1, x2, some (.int i), x4], st, a, h) = Rn 215 (90, [x0, x1, x2, some (.int i), x4], .int i :: st, a, h) := Rn_go c215_89 rfl
theorem c215_90 : mcode 215 90 = some (.iastore, 1, 0, 0, 0) := rfl
theorem r215_90 : Rn 215 (90, [x0, x1, x2, x3, x4], .int j :: .int i :: .ref q :: st, a, h) = Kh 215 91 [x0, x1, x2, x3, x4] st a (mias h q i j) := Rn_iast c215_90 rfl
theorem c215_91 : mcode 215 91 = some (.iconst 0, 1, 0, 0, 0) := rfl
theorem r215_91 : Rn 215 (91, [x0, x1, x2, x3, x4], st, a, h) = Rn 215 (92, [x0, x1, x2, x3, x4], .int (0 : Int32) :: st, a, h) := Rn_go c215_91 rfl
theorem c215_92 : mcode 215 92 = some (.istore 4, 2, 0, 0, 0) := rfl
theorem r215_92 : Rn 215 (92, [x0, x1, x2, x3, x4], .int i :: st, a, h) = Nl x3 (Rn 215 (94, [x0, x1, x2, x3, some (.int i)], st, a, h)) := Rn_st1 (k := 4) (v := .int i) x3 c215_92 rfl rfl rfl rfl
theorem c215_94 : mcode 215 94 = some (.iload 4, 2, 0, 0, 0) := rfl
theorem r215_94 : Rn 215 (94, [x0, x1, x2, x3, some (.int i)], st, a, h) = Rn 215 (96, [x0, x1, x2, x3, some (.int i)], .int i :: st, a, h) := Rn_go c215_94 rfl
theorem c215_96 : mcode 215 96 = some (.bipush 40, 2, 0, 0, 0) := rfl
theorem r215_96 : Rn 215 (96, [x0, x1, x2, x3, x4], st, a, h) = Rn 215 (98, [x0, x1, x2, x3, x4], .int (40 : Int32) :: st, a, h) := Rn_go c215_96 rfl
theorem c215_98 : mcode 215 98 = some (.if_icmp .ge 22, 3, 0, 0, 0) := rfl
theorem r215_98 : Rn 215 (98, [x0, x1, x2, x3, x4], .int j :: .int i :: st, a, h) = if i < j then Rn 215 (101, [x0, x1, x2, x3, x4], st, a, h) else Rn 215 (120, [x0, x1, x2, x3, x4], st, a, h) := Rn_icmpn c215_98 mc_ge rfl rfl
theorem c215_101 : mcode 215 101 = some (.aload_n 0, 1, 0, 0, 0) := rfl
theorem r215_101 : Rn 215 (101, [some (.ref q), x1, x2, x3, x4], st, a, h) = Rn 215 (102, [some (.ref q), x1, x2, x3, x4], .ref q :: st, a, h) := Rn_go c215_101 rfl
theorem c215_102 : mcode 215 102 = some (.getfield 34, 3, 6, 10, 0) := rfl
theorem r215_102 : Rn 215 (102, [x0, x1, x2, x3, x4], .ref q :: st, a, h) = Kv 215 105 [x0, x1, x2, x3, x4] st a h (mgf h q 6 10) := Rn_getf c215_102 rfl
theorem c215_105 : mcode 215 105 = some (.bipush 40, 2, 0, 0, 0) := rfl
theorem r215_105 : Rn 215 (105, [x0, x1, x2, x3, x4], st, a, h) = Rn 215 (107, [x0, x1, x2, x3, x4], .int (40 : Int32) :: st, a, h) := Rn_go c215_105 rfl
theorem c215_107 : mcode 215 107 = some (.iload_n 1, 1, 0, 0, 0) := rfl
theorem r215_107 : Rn 215 (107, [x0, some (.int i), x2, x3, x4], st, a, h) = Rn 215 (108, [x0, some (.int i), x2, x3, x4], .int i :: st, a, h) := Rn_go c215_107 rfl
theorem c215_108 : mcode 215 108 = some (.imul, 1, 0, 0, 0) := rfl
theorem r215_108 : Rn 215 (108, [x0, x1, x2, x3, x4], .int j :: .int i :: st, a, h) = Rn 215 (109, [x0, x1, x2, x3, x4], .int (i * j) :: st, a, h) := Rn_go c215_108 rfl
theorem c215_109 : mcode 215 109 = some (.iload 4, 2, 0, 0, 0) := rfl
theorem r215_109 : Rn 215 (109, [x0, x1, x2, x3, some (.int i)], st, a, h) = Rn 215 (111, [x0, x1, x2, x3, some (.int i)], .int i :: st, a, h) := Rn_go c215_109 rfl
theorem c215_111 : mcode 215 111 = some (.iadd, 1, 0, 0, 0) := rfl
theorem r215_111 : Rn 215 (111, [x0, x1, x2, x3, x4], .int j :: .int i :: st, a, h) = Rn 215 (112, [x0, x1, x2, x3, x4], .int (i + j) :: st, a, h) := Rn_go c215_111 rfl
theorem c215_112 : mcode 215 112 = some (.iconst 0, 1, 0, 0, 0) := rfl
theorem r215_112 : Rn 215 (112, [x0, x1, x2, x3, x4], st, a, h) = Rn 215 (113, [x0, x1, x2, x3, x4], .int (0 : Int32) :: st, a, h) := Rn_go c215_112 rfl
theorem c215_113 : mcode 215 113 = some (.iastore, 1, 0, 0, 0) := rfl
theorem r215_113 : Rn 215 (113, [x0, x1, x2, x3, x4], .int j :: .int i :: .ref q :: st, a, h) = Kh 215 114 [x0, x1, x2, x3, x4] st a (mias h q i j) := Rn_iast c215_113 rfl
theorem c215_114 : mcode 215 114 = some (.iinc 4 1, 3, 0, 0, 0) := rfl
theorem r215_114 : Rn 215 (114, [x0, x1, x2, x3, some (.int i)], st, a, h) = Nl x3 (Rn 215 (117, [x0, x1, x2, x3, some (.int (i + (1 : Int32)))], st, a, h)) := Rn_st1 (k := 4) (v := .int (i + (1 : Int32))) x3 c215_114 rfl rfl rfl rfl
theorem c215_117 : mcode 215 117 = some (.goto (-23), 3, 0, 0, 0) := rfl
theorem r215_117 : Rn 215 (117, [x0, x1, x2, x3, x4], st, a, h) = Rn 215 (94, [x0, x1, x2, x3, x4], st, a, h) := Rn_goto c215_117 rfl
theorem c215_120 : mcode 215 120 = some (.aload_n 0, 1, 0, 0, 0) := rfl
theorem r215_120 : Rn 215 (120, [some (.ref q), x1, x2, x3, x4], st, a, h) = Rn 215 (121, [some (.ref q), x1, x2, x3, x4], .ref q :: st, a, h) := Rn_go c215_120 rfl
theorem c215_121 : mcode 215 121 = some (.getfield 31, 3, 6, 9, 0) := rfl
theorem r215_121 : Rn 215 (121, [x0, x1, x2, x3, x4], .ref q :: st, a, h) = Kv 215 124 [x0, x1, x2, x3, x4] st a h (mgf h q 6 9) := Rn_getf c215_121 rfl
theorem c215_124 : mcode 215 124 = some (.iload_n 1, 1, 0, 0, 0) := rfl
theorem r215_124 : Rn 215 (124, [x0, some (.int i), x2, x3, x4], st, a, h) = Rn 215 (125, [x0, some (.int i), x2, x3, x4], .int i :: st, a, h) := Rn_go c215_124 rfl
theorem c215_125 : mcode 215 125 = some (.iaload, 1, 0, 0, 0) := rfl
theorem r215_125 : Rn 215 (125, [x0, x1, x2, x3, x4], .int i :: .ref q :: st, a, h) = Ki 215 126 [x0, x1, x2, x3, x4] st a h (mld h q i false) := Rn_iald c215_125 rfl
theorem c215_126 : mcode 215 126 = some (.ireturn, 1, 0, 0, 0) := rfl
theorem r215_126 : Rn 215 (126, [x0, x1, x2, x3, x4], [.int i], a, h) = some (some (.int i), a, h) := Rn_ireti c215_126
theorem c216_0 : mcode 216 0 = some (.iload_n 1, 1, 0, 0, 0) := rfl
theorem r216_0 : Rn 216 (0, [x0, some (.int i), x2, x3], st, a, h) = Rn 216 (1, [x0, some (.int i), x2, x3], .int i :: st, a, h) := Rn_go c216_0 rfl
theorem c216_1 : mcode 216 1 = some (.invokestatic 291, 3, 214, 1, 0) := rfl
theorem r216_1 : Rn 216 (1, [x0, x1, x2, x3], [v0], a, h) = Bk 216 4 [x0, x1, x2, x3] [] (Ec 214 [v0] a h) := Rn_call0 c216_1 (fun z => nomatch z) rfl (Nat.le_of_ble_eq_true rfl) rfl rfl (Nat.le_of_ble_eq_true rfl)
theorem c216_4 : mcode 216 4 = some (.ifCond .ne 10, 3, 0, 0, 0) := rfl
theorem r216_4 : Rn 216 (4, [x0, x1, x2, x3], .int i :: st, a, h) = if i = 0 then Rn 216 (7, [x0, x1, x2, x3], st, a, h) else Rn 216 (14, [x0, x1, x2, x3], st, a, h) := Rn_ifcn c216_4 mc_ne rfl rfl
theorem c216_7 : mcode 216 7 = some (.aload_n 0, 1, 0, 0, 0) := rfl
theorem r216_7 : Rn 216 (7, [some (.ref q), x1, x2, x3], st, a, h) = Rn 216 (8, [some (.ref q), x1, x2, x3], .ref q :: st, a, h) := Rn_go c216_7 rfl
theorem c216_8 : mcode 216 8 = some (.ldc 37, 2, 0, 0, -1000001) := rfl
theorem r216_8 : Rn 216 (8, [x0, x1, x2, x3], st, a, h) = Rn 216 (10, [x0, x1, x2, x3], .int (-1000001 : Int32) :: st, a, h) := Rn_go c216_8 rfl
theorem c216_10 : mcode 216 10 = some (.invokevirtual 39, 3, 124, 1, 6) := rfl
theorem r216_10 : Rn 216 (10, [x0, x1, x2, x3], [v0, .ref q], a, h) = if mis h q 6 = true then Bk 216 13 [x0, x1, x2, x3] [] (Ec 124 [.ref q, v0] a h) else none := Rn_call1 c216_10 rfl (Nat.le_of_ble_eq_true rfl) rfl rfl (Nat.le_of_ble_eq_true rfl)
theorem c216_13 : mcode 216 13 = some (.ireturn, 1, 0, 0, 0) := rfl
theorem r216_13 : Rn 216 (13, [x0, x1, x2, x3], [.int i], a, h) = some (some (.int i), a, h) := Rn_ireti c216_13
theorem c216_14 : mcode 216 14 = some (.aload_n 0, 1, 0, 0, 0) := rfl
theorem r216_14 : Rn 216 (14, [some (.ref q), x1, x2, x3], st, a, h) = Rn 216 (15, [some (.ref q), x1, x2, x3], .ref q :: st, a, h) := Rn_go c216_14 rfl
theorem c216_15 : mcode 216 15 = some (.getfield 28, 3, 6, 8, 0) := rfl
theorem r216_15 : Rn 216 (15, [x0, x1, x2, x3], .ref q :: st, a, h) = Kv 216 18 [x0, x1, x2, x3] st a h (mgf h q 6 8) := Rn_getf c216_15 rfl
theorem c216_18 : mcode 216 18 = some (.iload_n 1, 1, 0, 0, 0) := rfl
theorem r216_18 : Rn 216 (18, [x0, some (.int i), x2, x3], st, a, h) = Rn 216 (19, [x0, some (.int i), x2, x3], .int i :: st, a, h) := Rn_go c216_18 rfl
theorem c216_19 : mcode 216 19 = some (.iaload, 1, 0, 0, 0) := rfl
theorem r216_19 : Rn 216 (19, [x0, x1, x2, x3], .int i :: .ref q :: st, a, h) = Ki 216 20 [x0, x1, x2, x3] st a h (mld h q i false) := Rn_iald c216_19 rfl
theorem c216_20 : mcode 216 20 = some (.ifCond .ge 11, 3, 0, 0, 0) := rfl
theorem r216_20 : Rn 216 (20, [x0, x1, x2, x3], .int i :: st, a, h) = if i < 0 then Rn 216 (23, [x0, x1, x2, x3], st, a, h) else Rn 216 (31, [x0, x1, x2, x3], st, a, h) := Rn_ifcn c216_20 mc_ge rfl rfl
theorem c216_23 : mcode 216 23 = some (.aload_n 0, 1, 0, 0, 0) := rfl
theorem r216_23 : Rn 216 (23, [some (.ref q), x1, x2, x3], st, a, h) = Rn 216 (24, [some (.ref q), x1, x2, x3], .ref q :: st, a, h) := Rn_go c216_23 rfl
theorem c216_24 : mcode 216 24 = some (.ldc_w 286, 3, 0, 0, -1000006) := rfl
theorem r216_24 : Rn 216 (24, [x0, x1, x2, x3], st, a, h) = Rn 216 (27, [x0, x1, x2, x3], .int (-1000006 : Int32) :: st, a, h) := Rn_go c216_24 rfl
theorem c216_27 : mcode 216 27 = some (.invokevirtual 39, 3, 124, 1, 6) := rfl
theorem r216_27 : Rn 216 (27, [x0, x1, x2, x3], [v0, .ref q], a, h) = if mis h q 6 = true then Bk 216 30 [x0, x1, x2, x3] [] (Ec 124 [.ref q, v0] a h) else none := Rn_call1 c216_27 rfl (Nat.le_of_ble_eq_true rfl) rfl rfl (Nat.le_of_ble_eq_true rfl)
theorem c216_30 : mcode 216 30 = some (.ireturn, 1, 0, 0, 0) := rfl
theorem r216_30 : Rn 216 (30, [x0, x1, x2, x3], [.int i], a, h) = some (some (.int i), a, h) := Rn_ireti c216_30
theorem c216_31 : mcode 216 31 = some (.iload_n 2, 1, 0, 0, 0) := rfl
theorem r216_31 : Rn 216 (31, [x0, x1, some (.int i), x3], st, a, h) = Rn 216 (32, [x0, x1, some (.int i), x3], .int i :: st, a, h) := Rn_go c216_31 rfl
theorem c216_32 : mcode 216 32 = some (.i2l, 1, 0, 0, 0) := rfl
theorem r216_32 : Rn 216 (32, [x0, x1, x2, x3], .int i :: st, a, h) = Rn 216 (33, [x0, x1, x2, x3], .long i.toInt64 :: st, a, h) := Rn_go c216_32 rfl
theorem c216_33 : mcode 216 33 = some (.lconst 0, 1, 0, 0, 0) := rfl
theorem r216_33 : Rn 216 (33, [x0, x1, x2, x3], st, a, h) = Rn 216 (34, [x0, x1, x2, x3], .long (0 : Int64) :: st, a, h) := Rn_go c216_33 rfl
theorem c216_34 : mcode 216 34 = some (.aload_n 0, 1, 0, 0, 0) := rfl
theorem r216_34 : Rn 216 (34, [some (.ref q), x1, x2, x3], st, a, h) = Rn 216 (35, [some (.ref q), x1, x2, x3], .ref q :: st, a, h) := Rn_go c216_34 rfl
theorem c216_35 : mcode 216 35 = some (.getfield 31, 3, 6, 9, 0) := rfl
theorem r216_35 : Rn 216 (35, [x0, x1, x2, x3], .ref q :: st, a, h) = Kv 216 38 [x0, x1, x2, x3] st a h (mgf h q 6 9) := Rn_getf c216_35 rfl
theorem c216_38 : mcode 216 38 = some (.iload_n 1, 1, 0, 0, 0) := rfl
theorem r216_38 : Rn 216 (38, [x0, some (.int i), x2, x3], st, a, h) = Rn 216 (39, [x0, some (.int i), x2, x3], .int i :: st, a, h) := Rn_go c216_38 rfl
theorem c216_39 : mcode 216 39 = some (.iaload, 1, 0, 0, 0) := rfl
theorem r216_39 : Rn 216 (39, [x0, x1, x2, x3], .int i :: .ref q :: st, a, h) = Ki 216 40 [x0, x1, x2, x3] st a h (mld h q i false) := Rn_iald c216_39 rfl
theorem c216_40 : mcode 216 40 = some (.iconst 1, 1, 0, 0, 0) := rfl
theorem r216_40 : Rn 216 (40, [x0, x1, x2, x3], st, a, h) = Rn 216 (41, [x0, x1, x2, x3], .int (1 : Int32) :: st, a, h) := Rn_go c216_40 rfl
theorem c216_41 : mcode 216 41 = some (.isub, 1, 0, 0, 0) := rfl
theorem r216_41 : Rn 216 (41, [x0, x1, x2, x3], .int j :: .int i :: st, a, h) = Rn 216 (42, [x0, x1, x2, x3], .int (i - j) :: st, a, h) := Rn_go c216_41 rfl
theorem c216_42 : mcode 216 42 = some (.i2l, 1, 0, 0, 0) := rfl
theorem r216_42 : Rn 216 (42, [x0, x1, x2, x3], .int i :: st, a, h) = Rn 216 (43, [x0, x1, x2, x3], .long i.toInt64 :: st, a, h) := Rn_go c216_42 rfl
theorem c216_43 : mcode 216 43 = some (.invokestatic 52, 3, 123, 3, 0) := rfl
theorem r216_43 : Rn 216 (43, [x0, x1, x2, x3], [v2, v1, v0], a, h) = Bk 216 46 [x0, x1, x2, x3] [] (Ec 123 [v0, v1, v2] a h) := Rn_call0 c216_43 (fun z => nomatch z) rfl (Nat.le_of_ble_eq_true rfl) rfl rfl (Nat.le_of_ble_eq_true rfl)
theorem c216_46 : mcode 216 46 = some (.ifCond .ne 10, 3, 0, 0, 0) := rfl
theorem r216_46 : Rn 216 (46, [x0, x1, x2, x3], .int i :: st, a, h) = if i = 0 then Rn 216 (49, [x0, x1, x2, x3], st, a, h) else Rn 216 (56, [x0, x1, x2, x3], st, a, h) := Rn_ifcn c216_46 mc_ne rfl rfl
theorem c216_49 : mcode 216 49 = some (.aload_n 0, 1, 0, 0, 0) := rfl
theorem r216_49 : Rn 216 (49, [some (.ref q), x1, x2, x3], st, a, h) = Rn 216 (50, [some (.ref q), x1, x2, x3], .ref q :: st, a, h) := Rn_go c216_49 rfl
theorem c216_50 : mcode 216 50 = some (.ldc 37, 2, 0, 0, -1000001) := rfl
theorem r216_50 : Rn 216 (50, [x0, x1, x2, x3], st, a, h) = Rn 216 (52, [x0, x1, x2, x3], .int (-1000001 : Int32) :: st, a, h) := Rn_go c216_50 rfl
theorem c216_52 : mcode 216 52 = some (.invokevirtual 39, 3, 124, 1, 6) := rfl
theorem r216_52 : Rn 216 (52, [x0, x1, x2, x3], [v0, .ref q], a, h) = if mis h q 6 = true then Bk 216 55 [x0, x1, x2, x3] [] (Ec 124 [.ref q, v0] a h) else none := Rn_call1 c216_52 rfl (Nat.le_of_ble_eq_true rfl) rfl rfl (Nat.le_of_ble_eq_true rfl)
theorem c216_55 : mcode 216 55 = some (.ireturn, 1, 0, 0, 0) := rfl
theorem r216_55 : Rn 216 (55, [x0, x1, x2, x3], [.int i], a, h) = some (some (.int i), a, h) := Rn_ireti c216_55
theorem c216_56 : mcode 216 56 = some (.aload_n 0, 1, 0, 0, 0) := rfl
theorem r216_56 : Rn 216 (56, [some (.ref q), x1, x2, x3], st, a, h) = Rn 216 (57, [some (.ref q), x1, x2, x3], .ref q :: st, a, h) := Rn_go c216_56 rfl
theorem c216_57 : mcode 216 57 = some (.getfield 34, 3, 6, 10, 0) := rfl
theorem r216_57 : Rn 216 (57, [x0, x1, x2, x3], .ref q :: st, a, h) = Kv 216 60 [x0, x1, x2, x3] st a h (mgf h q 6 10) := Rn_getf c216_57 rfl
theorem c216_60 : mcode 216 60 = some (.bipush 40, 2, 0, 0, 0) := rfl
theorem r216_60 : Rn 216 (60, [x0, x1, x2, x3], st, a, h) = Rn 216 (62, [x0, x1, x2, x3], .int (40 : Int32) :: st, a, h) := Rn_go c216_60 rfl
theorem c216_62 : mcode 216 62 = some (.iload_n 1, 1, 0, 0, 0) := rfl
theorem r216_62 : Rn 216 (62, [x0, some (.int i), x2, x3], st, a, h) = Rn 216 (63, [x0, some (.int i), x2, x3], .int i :: st, a, h) := Rn_go c216_62 rfl
theorem c216_63 : mcode 216 63 = some (.imul, 1, 0, 0, 0) := rfl
theorem r216_63 : Rn 216 (63, [x0, x1, x2, x3], .int j :: .int i :: st, a, h) = Rn 216 (64, [x0, x1, x2, x3], .int (i * j) :: st, a, h) := Rn_go c216_63 rfl
theorem c216_64 : mcode 216 64 = some (.iload_n 2, 1, 0, 0, 0) := rfl
theorem r216_64 : Rn 216 (64, [x0, x1, some (.int i), x3], st, a, h) = Rn 216 (65, [x0, x1, some (.int i), x3], .int i :: st, a, h) := Rn_go c216_64 rfl
theorem c216_65 : mcode 216 65 = some (.iadd, 1, 0, 0, 0) := rfl
theorem r216_65 : Rn 216 (65, [x0, x1, x2, x3], .int j :: .int i :: st, a, h) = Rn 216 (66, [x0, x1, x2, x3], .int (i + j) :: st, a, h) := Rn_go c216_65 rfl
theorem c216_66 : mcode 216 66 = some (.aload_n 0, 1, 0, 0, 0) := rfl
theorem r216_66 : Rn 216 (66, [some (.ref q), x1, x2, x3], st, a, h) = Rn 216 (67, [some (.ref q), x1, x2, x3], .ref q :: st, a, h) := Rn_go c216_66 rfl
theorem c216_67 : mcode 216 67 = some (.getfield 28, 3, 6, 8, 0) := rfl
theorem r216_67 : Rn 216 (67, [x0, x1, x2, x3], .ref q :: st, a, h) = Kv 216 70 [x0, x1, x2, x3] st a h (mgf h q 6 8) := Rn_getf c216_67 rfl
theorem c216_70 : mcode 216 70 = some (.iload_n 1, 1, 0, 0, 0) := rfl
theorem r216_70 : Rn 216 (70, [x0, some (.int i), x2, x3], st, a, h) = Rn 216 (71, [x0, some (.int i), x2, x3], .int i :: st, a, h) := Rn_go c216_70 rfl
theorem c216_71 : mcode 216 71 = some (.iaload, 1, 0, 0, 0) := rfl
theorem r216_71 : Rn 216 (71, [x0, x1, x2, x3], .int i :: .ref q :: st, a, h) = Ki 216 72 [x0, x1, x2, x3] st a h (mld h q i false) := Rn_iald c216_71 rfl
theorem c216_72 : mcode 216 72 = some (.bipush 8, 2, 0, 0, 0) := rfl
theorem r216_72 : Rn 216 (72, [x0, x1, x2, x3], st, a, h) = Rn 216 (74, [x0, x1, x2, x3], .int (8 : Int32) :: st, a, h) := Rn_go c216_72 rfl
theorem c216_74 : mcode 216 74 = some (.if_icmp .ne 8, 3, 0, 0, 0) := rfl
theorem r216_74 : Rn 216 (74, [x0, x1, x2, x3], .int j :: .int i :: st, a, h) = if i = j then Rn 216 (77, [x0, x1, x2, x3], st, a, h) else Rn 216 (82, [x0, x1, x2, x3], st, a, h) := Rn_icmpn c216_74 mc_ne rfl rfl
theorem c216_77 : mcode 216 77 = some (.iload_n 3, 1, 0, 0, 0) := rfl
theorem r216_77 : Rn 216 (77, [x0, x1, x2, some (.int i)], st, a, h) = Rn 216 (78, [x0, x1, x2, some (.int i)], .int i :: st, a, h) := Rn_go c216_77 rfl
theorem c216_78 : mcode 216 78 = some (.i2b, 1, 0, 0, 0) := rfl
theorem r216_78 : Rn 216 (78, [x0, x1, x2, x3], .int i :: st, a, h) = Rn 216 (79, [x0, x1, x2, x3], .int i.toInt8.toInt32 :: st, a, h) := Rn_go c216_78 rfl
theorem c216_79 : mcode 216 79 = some (.goto 20, 3, 0, 0, 0) := rfl
theorem r216_79 : Rn 216 (79, [x0, x1, x2, x3], st, a, h) = Rn 216 (99, [x0, x1, x2, x3], st, a, h) := Rn_goto c216_79 rfl
theorem c216_82 : mcode 216 82 = some (.aload_n 0, 1, 0, 0, 0) := rfl
theorem r216_82 : Rn 216 (82, [some (.ref q), x1, x2, x3], st, a, h) = Rn 216 (83, [some (.ref q), x1, x2, x3], .ref q :: st, a, h) := Rn_go c216_82 rfl
theorem c216_83 : mcode 216 83 = some (.getfield 28, 3, 6, 8, 0) := rfl
theorem r216_83 : Rn 216 (83, [x0, x1, x2, x3], .ref q :: st, a, h) = Kv 216 86 [x0, x1, x2, x3] st a h (mgf h q 6 8) := Rn_getf c216_83 rfl
theorem c216_86 : mcode 216 86 = some (.iload_n 1, 1, 0, 0, 0) := rfl
theorem r216_86 : Rn 216 (86, [x0, some (.int i), x2, x3], st, a, h) = Rn 216 (87, [x0, some (.int i), x2, x3], .int i :: st, a, h) := Rn_go c216_86 rfl
theorem c216_87 : mcode 216 87 = some (.iaload, 1, 0, 0, 0) := rfl
theorem r216_87 : Rn 216 (87, [x0, x1, x2, x3], .int i :: .ref q :: st, a, h) = Ki 216 88 [x0, x1, x2, x3] st a h (mld h q i false) := Rn_iald c216_87 rfl
theorem c216_88 : mcode 216 88 = some (.bipush 16, 2, 0, 0, 0) := rfl
theorem r216_88 : Rn 216 (88, [x0, x1, x2, x3], st, a, h) = Rn 216 (90, [x0, x1, x2, x3], .int (16 : Int32) :: st, a, h) := Rn_go c216_88 rfl
theorem c216_90 : mcode 216 90 = some (.if_icmp .ne 8, 3, 0, 0, 0) := rfl
theorem r216_90 : Rn 216 (90, [x0, x1, x2, x3], .int j :: .int i :: st, a, h) = if i = j then Rn 216 (93, [x0, x1, x2, x3], st, a, h) else Rn 216 (98, [x0, x1, x2, x3], st, a, h) := Rn_icmpn c216_90 mc_ne rfl rfl
theorem c216_93 : mcode 216 93 = some (.iload_n 3, 1, 0, 0, 0) := rfl
theorem r216_93 : Rn 216 (93, [x0, x1, x2, some (.int i)], st, a, h) = Rn 216 (94, [x0, x1, x2, some (.int i)], .int i :: st, a, h) := Rn_go c216_93 rfl
theorem c216_94 : mcode 216 94 = some (.i2s, 1, 0, 0, 0) := rfl
theorem r216_94 : Rn 216 (94, [x0, x1, x2, x3], .int i :: st, a, h) = Rn 216 (95, [x0, x1, x2, x3], .int i.toInt16.toInt32 :: st, a, h) := Rn_go c216_94 rfl
theorem c216_95 : mcode 216 95 = some (.goto 4, 3, 0, 0, 0) := rfl
theorem r216_95 : Rn 216 (95, [x0, x1, x2, x3], st, a, h) = Rn 216 (99, [x0, x1, x2, x3], st, a, h) := Rn_goto c216_95 rfl
theorem c216_98 : mcode 216 98 = some (.iload_n 3, 1, 0, 0, 0) := rfl
theorem r216_98 : Rn 216 (98, [x0, x1, x2, some (.int i)], st, a, h) = Rn 216 (99, [x0, x1, x2, some (.int i)], .int i :: st, a, h) := Rn_go c216_98 rfl
theorem c216_99 : mcode 216 99 = some (.iastore, 1, 0, 0, 0) := rfl
theorem r216_99 : Rn 216 (99, [x0, x1, x2, x3], .int j :: .int i :: .ref q :: st, a, h) = Kh 216 100 [x0, x1, x2, x3] st a (mias h q i j) := Rn_iast c216_99 rfl
theorem c216_100 : mcode 216 100 = some (.iconst 1, 1, 0, 0, 0) := rfl
theorem r216_100 : Rn 216 (100, [x0, x1, x2, x3], st, a, h) = Rn 216 (101, [x0, x1, x2, x3], .int (1 : Int32) :: st, a, h) := Rn_go c216_100 rfl
theorem c216_101 : mcode 216 101 = some (.ireturn, 1, 0, 0, 0) := rfl
theorem r216_101 : Rn 216 (101, [x0, x1, x2, x3], [.int i], a, h) = some (some (.int i), a, h) := Rn_ireti c216_101
theorem c217_0 : mcode 217 0 = some (.iload_n 1, 1, 0, 0, 0) := rfl
theorem r217_0 : Rn 217 (0, [x0, some (.int i), x2, x3, x4, x5, x6, x7, x8, x9], st, a, h) = Rn 217 (1, [x0, some (.int i), x2, x3, x4, x5, x6, x7, x8, x9], .int i :: st, a, h) := Rn_go c217_0 rfl
theorem c217_1 : mcode 217 1 = some (.invokestatic 291, 3, 214, 1, 0) := rfl
theorem r217_1 : Rn 217 (1, [x0, x1, x2, x3, x4, x5, x6, x7, x8, x9], [v0], a, h) = Bk 217 4 [x0, x1, x2, x3, x4, x5, x6, x7, x8, x9] [] (Ec 214 [v0] a h) := Rn_call0 c217_1 (fun z => nomatch z) rfl (Nat.le_of_ble_eq_true rfl) rfl rfl (Nat.le_of_ble_eq_true rfl)
theorem c217_4 : mcode 217 4 = some (.ifCond .eq 10, 3, 0, 0, 0) := rfl
theorem r217_4 : Rn 217 (4, [x0, x1, x2, x3, x4, x5, x6, x7, x8, x9], .int i :: st, a, h) = if i = 0 then Rn 217 (14, [x0, x1, x2, x3, x4, x5, x6, x7, x8, x9], st, a, h) else Rn 217 (7, [x0, x1, x2, x3, x4, x5, x6, x7, x8, x9], st, a, h) := Rn_ifc c217_4 mc_eq rfl rfl
theorem c217_7 : mcode 217 7 = some (.iload_n 3, 1, 0, 0, 0) := rfl
theorem r217_7 : Rn 217 (7, [x0, x1, x2, some (.int i), x4, x5, x6, x7, x8, x9], st, a, h) = Rn 217 (8, [x0, x1, x2, some (.int i), x4, x5, x6, x7, x8, x9], .int i :: st, a, h) := Rn_go c217_7 rfl
theorem c217_8 : mcode 217 8 = some (.invokestatic 291, 3, 214, 1, 0) := rfl
theorem r217_8 : Rn 217 (8, [x0, x1, x2, x3, x4, x5, x6, x7, x8, x9], [v0], a, h) = Bk 217 11 [x0, x1, x2, x3, x4, x5, x6, x7, x8, x9] [] (Ec 214 [v0] a h) := Rn_call0 c217_8 (fun z => nomatch z) rfl (Nat.le_of_ble_eq_true rfl) rfl rfl (Nat.le_of_ble_eq_true rfl)
theorem c217_11 : mcode 217 11 = some (.ifCond .ne 10, 3, 0, 0, 0) := rfl
theorem r217_11 : Rn 217 (11, [x0, x1, x2, x3, x4, x5, x6, x7, x8, x9], .int i :: st, a, h) = if i = 0 then Rn 217 (14, [x0, x1, x2, x3, x4, x5, x6, x7, x8, x9], st, a, h) else Rn 217 (21, [x0, x1, x2, x3, x4, x5, x6, x7, x8, x9], st, a, h) := Rn_ifcn c217_11 mc_ne rfl rfl
theorem c217_14 : mcode 217 14 = some (.aload_n 0, 1, 0, 0, 0) := rfl
theorem r217_14 : Rn 217 (14, [some (.ref q), x1, x2, x3, x4, x5, x6, x7, x8, x9], st, a, h) = Rn 217 (15, [some (.ref q), x1, x2, x3, x4, x5, x6, x7, x8, x9], .ref q :: st, a, h) := Rn_go c217_14 rfl
theorem c217_15 : mcode 217 15 = some (.ldc 37, 2, 0, 0, -1000001) := rfl
theorem r217_15 : Rn 217 (15, [x0, x1, x2, x3, x4, x5, x6, x7, x8, x9], st, a, h) = Rn 217 (17, [x0, x1, x2, x3, x4, x5, x6, x7, x8, x9], .int (-1000001 : Int32) :: st, a, h) := Rn_go c217_15 rfl
theorem c217_17 : mcode 217 17 = some (.invokevirtual 39, 3, 124, 1, 6) := rfl
theorem r217_17 : Rn 217 (17, [x0, x1, x2, x3, x4, x5, x6, x7, x8, x9], [v0, .ref q], a, h) = if mis h q 6 = true then Bk 217 20 [x0, x1, x2, x3, x4, x5, x6, x7, x8, x9] [] (Ec 124 [.ref q, v0] a h) else none := Rn_call1 c217_17 rfl (Nat.le_of_ble_eq_true rfl) rfl rfl (Nat.le_of_ble_eq_true rfl)
theorem c217_20 : mcode 217 20 = some (.ireturn, 1, 0, 0, 0) := rfl
theorem r217_20 : Rn 217 (20, [x0, x1, x2, x3, x4, x5, x6, x7, x8, x9], [.int i], a, h) = some (some (.int i), a, h) := Rn_ireti c217_20
theorem c217_21 : mcode 217 21 = some (.aload_n 0, 1, 0, 0, 0) := rfl
theorem r217_21 : Rn 217 (21, [some (.ref q), x1, x2, x3, x4, x5, x6, x7, x8, x9], st, a, h) = Rn 217 (22, [some (.ref q), x1, x2, x3, x4, x5, x6, x7, x8, x9], .ref q :: st, a, h) := Rn_go c217_21 rfl
theorem c217_22 : mcode 217 22 = some (.getfield 28, 3, 6, 8, 0) := rfl
theorem r217_22 : Rn 217 (22, [x0, x1, x2, x3, x4, x5, x6, x7, x8, x9], .ref q :: st, a, h) = Kv 217 25 [x0, x1, x2, x3, x4, x5, x6, x7, x8, x9] st a h (mgf h q 6 8) := Rn_getf c217_22 rfl
theorem c217_25 : mcode 217 25 = some (.iload_n 1, 1, 0, 0, 0) := rfl
theorem r217_25 : Rn 217 (25, [x0, some (.int i), x2, x3, x4, x5, x6, x7, x8, x9], st, a, h) = Rn 217 (26, [x0, some (.int i), x2, x3, x4, x5, x6, x7, x8, x9], .int i :: st, a, h) := Rn_go c217_25 rfl
theorem c217_26 : mcode 217 26 = some (.iaload, 1, 0, 0, 0) := rfl
theorem r217_26 : Rn 217 (26, [x0, x1, x2, x3, x4, x5, x6, x7, x8, x9], .int i :: .ref q :: st, a, h) = Ki 217 27 [x0, x1, x2, x3, x4, x5, x6, x7, x8, x9] st a h (mld h q i false) := Rn_iald c217_26 rfl
theorem c217_27 : mcode 217 27 = some (.ifCond .lt 12, 3, 0, 0, 0) := rfl
theorem r217_27 : Rn 217 (27, [x0, x1, x2, x3, x4, x5, x6, x7, x8, x9], .int i :: st, a, h) = if i < 0 then Rn 217 (39, [x0, x1, x2, x3, x4, x5, x6, x7, x8, x9], st, a, h) else Rn 217 (30, [x0, x1, x2, x3, x4, x5, x6, x7, x8, x9], st, a, h) := Rn_ifc c217_27 mc_lt rfl rfl
theorem c217_30 : mcode 217 30 = some (.aload_n 0, 1, 0, 0, 0) := rfl
theorem r217_30 : Rn 217 (30, [some (.ref q), x1, x2, x3, x4, x5, x6, x7, x8, x9], st, a, h) = Rn 217 (31, [some (.ref q), x1, x2, x3, x4, x5, x6, x7, x8, x9], .ref q :: st, a, h) := Rn_go c217_30 rfl
theorem c217_31 : mcode 217 31 = some (.getfield 28, 3, 6, 8, 0) := rfl
theorem r217_31 : Rn 217 (31, [x0, x1, x2, x3, x4, x5, x6, x7, x8, x9], .ref q :: st, a, h) = Kv 217 34 [x0, x1, x2, x3, x4, x5, x6, x7, x8, x9] st a h (mgf h q 6 8) := Rn_getf c217_31 rfl
theorem c217_34 : mcode 217 34 = some (.iload_n 3, 1, 0, 0, 0) := rfl
theorem r217_34 : Rn 217 (34, [x0, x1, x2, some (.int i), x4, x5, x6, x7, x8, x9], st, a, h) = Rn 217 (35, [x0, x1, x2, some (.int i), x4, x5, x6, x7, x8, x9], .int i :: st, a, h) := Rn_go c217_34 rfl
theorem c217_35 : mcode 217 35 = some (.iaload, 1, 0, 0, 0) := rfl
theorem r217_35 : Rn 217 (35, [x0, x1, x2, x3, x4, x5, x6, x7, x8, x9], .int i :: .ref q :: st, a, h) = Ki 217 36 [x0, x1, x2, x3, x4, x5, x6, x7, x8, x9] st a h (mld h q i false) := Rn_iald c217_35 rfl
theorem c217_36 : mcode 217 36 = some (.ifCond .ge 11, 3, 0, 0, 0) := rfl
theorem r217_36 : Rn 217 (36, [x0, x1, x2, x3, x4, x5, x6, x7, x8, x9], .int i :: st, a, h) = if i < 0 then Rn 217 (39, [x0, x1, x2, x3, x4, x5, x6, x7, x8, x9], st, a, h) else Rn 217 (47, [x0, x1, x2, x3, x4, x5, x6, x7, x8, x9], st, a, h) := Rn_ifcn c217_36 mc_ge rfl rfl
theorem c217_39 : mcode 217 39 = some (.aload_n 0, 1, 0, 0, 0) := rfl
theorem r217_39 : Rn 217 (39, [some (.ref q), x1, x2, x3, x4, x5, x6, x7, x8, x9], st, a, h) = Rn 217 (40, [some (.ref q), x1, x2, x3, x4, x5, x6, x7, x8, x9], .ref q :: st, a, h) := Rn_go c217_39 rfl
theorem c217_40 : mcode 217 40 = some (.ldc_w 286, 3, 0, 0, -1000006) := rfl
theorem r217_40 : Rn 217 (40, [x0, x1, x2, x3, x4, x5, x6, x7, x8, x9], st, a, h) = Rn 217 (43, [x0, x1, x2, x3, x4, x5, x6, x7, x8, x9], .int (-1000006 : Int32) :: st, a, h) := Rn_go c217_40 rfl
theorem c217_43 : mcode 217 43 = some (.invokevirtual 39, 3, 124, 1, 6) := rfl
theorem r217_43 : Rn 217 (43, [x0, x1, x2, x3, x4, x5, x6, x7, x8, x9], [v0, .ref q], a, h) = if mis h q 6 = true then Bk 217 46 [x0, x1, x2, x3, x4, x5, x6, x7, x8, x9] [] (Ec 124 [.ref q, v0] a h) else none := Rn_call1 c217_43 rfl (Nat.le_of_ble_eq_true rfl) rfl rfl (Nat.le_of_ble_eq_true rfl)
theorem c217_46 : mcode 217 46 = some (.ireturn, 1, 0, 0, 0) := rfl
theorem r217_46 : Rn 217 (46, [x0, x1, x2, x3, x4, x5, x6, x7, x8, x9], [.int i], a, h) = some (some (.int i), a, h) := Rn_ireti c217_46
theorem c217_47 : mcode 217 47 = some (.aload_n 0, 1, 0, 0, 0) := rfl
theorem r217_47 : Rn 217 (47, [some (.ref q), x1, x2, x3, x4, x5, x6, x7, x8, x9], st, a, h) = Rn 217 (48, [some (.ref q), x1, x2, x3, x4, x5, x6, x7, x8, x9], .ref q :: st, a, h) := Rn_go c217_47 rfl
theorem c217_48 : mcode 217 48 = some (.getfield 28, 3, 6, 8, 0) := rfl
theorem r217_48 : Rn 217 (48, [x0, x1, x2, x3, x4, x5, x6, x7, x8, x9], .ref q :: st, a, h) = Kv 217 51 [x0, x1, x2, x3, x4, x5, x6, x7, x8, x9] st a h (mgf h q 6 8) := Rn_getf c217_48 rfl
theorem c217_51 : mcode 217 51 = some (.iload_n 1, 1, 0, 0, 0) := rfl
theorem r217_51 : Rn 217 (51, [x0, some (.int i), x2, x3, x4, x5, x6, x7, x8, x9], st, a, h) = Rn 217 (52, [x0, some (.int i), x2, x3, x4, x5, x6, x7, x8, x9], .int i :: st, a, h) := Rn_go c217_51 rfl
theorem c217_52 : mcode 217 52 = some (.iaload, 1, 0, 0, 0) := rfl
theorem r217_52 : Rn 217 (52, [x0, x1, x2, x3, x4, x5, x6, x7, x8, x9], .int i :: .ref q :: st, a, h) = Ki 217 53 [x0, x1, x2, x3, x4, x5, x6, x7, x8, x9] st a h (mld h q i false) := Rn_iald c217_52 rfl
theorem c217_53 : mcode 217 53 = some (.aload_n 0, 1, 0, 0, 0) := rfl
theorem r217_53 : Rn 217 (53, [some (.ref q), x1, x2, x3, x4, x5, x6, x7, x8, x9], st, a, h) = Rn 217 (54, [some (.ref q), x1, x2, x3, x4, x5, x6, x7, x8, x9], .ref q :: st, a, h) := Rn_go c217_53 rfl
theorem c217_54 : mcode 217 54 = some (.getfield 28, 3, 6, 8, 0) := rfl
theorem r217_54 : Rn 217 (54, [x0, x1, x2, x3, x4, x5, x6, x7, x8, x9], .ref q :: st, a, h) = Kv 217 57 [x0, x1, x2, x3, x4, x5, x6, x7, x8, x9] st a h (mgf h q 6 8) := Rn_getf c217_54 rfl
theorem c217_57 : mcode 217 57 = some (.iload_n 3, 1, 0, 0, 0) := rfl
theorem r217_57 : Rn 217 (57, [x0, x1, x2, some (.int i), x4, x5, x6, x7, x8, x9], st, a, h) = Rn 217 (58, [x0, x1, x2, some (.int i), x4, x5, x6, x7, x8, x9], .int i :: st, a, h) := Rn_go c217_57 rfl
theorem c217_58 : mcode 217 58 = some (.iaload, 1, 0, 0, 0) := rfl
theorem r217_58 : Rn 217 (58, [x0, x1, x2, x3, x4, x5, x6, x7, x8, x9], .int i :: .ref q :: st, a, h) = Ki 217 59 [x0, x1, x2, x3, x4, x5, x6, x7, x8, x9] st a h (mld h q i false) := Rn_iald c217_58 rfl
theorem c217_59 : mcode 217 59 = some (.if_icmp .eq 11, 3, 0, 0, 0) := rfl
theorem r217_59 : Rn 217 (59, [x0, x1, x2, x3, x4, x5, x6, x7, x8, x9], .int j :: .int i :: st, a, h) = if i = j then Rn 217 (70, [x0, x1, x2, x3, x4, x5, x6, x7, x8, x9], st, a, h) else Rn 217 (62, [x0, x1, x2, x3, x4, x5, x6, x7, x8, x9], st, a, h) := Rn_icmp c217_59 mc_eq rfl rfl
theorem c217_62 : mcode 217 62 = some (.aload_n 0, 1, 0, 0, 0) := rfl
theorem r217_62 : Rn 217 (62, [some (.ref q), x1, x2, x3, x4, x5, x6, x7, x8, x9], st, a, h) = Rn 217 (63, [some (.ref q), x1, x2, x3, x4, x5, x6, x7, x8, x9], .ref q :: st, a, h) := Rn_go c217_62 rfl
theorem c217_63 : mcode 217 63 = some (.ldc_w 290, 3, 0, 0, -1000003) := rfl
theorem r217_63 : Rn 217 (63, [x0, x1, x2, x3, x4, x5, x6, x7, x8, x9], st, a, h) = Rn 217 (66, [x0, x1, x2, x3, x4, x5, x6, x7, x8, x9], .int (-1000003 : Int32) :: st, a, h) := Rn_go c217_63 rfl
theorem c217_66 : mcode 217 66 = some (.invokevirtual 39, 3, 124, 1, 6) := rfl
theorem r217_66 : Rn 217 (66, [x0, x1, x2, x3, x4, x5, x6, x7, x8, x9], [v0, .ref q], a, h) = if mis h q 6 = true then Bk 217 69 [x0, x1, x2, x3, x4, x5, x6, x7, x8, x9] [] (Ec 124 [.ref q, v0] a h) else none := Rn_call1 c217_66 rfl (Nat.le_of_ble_eq_true rfl) rfl rfl (Nat.le_of_ble_eq_true rfl)
theorem c217_69 : mcode 217 69 = some (.ireturn, 1, 0, 0, 0) := rfl
theorem r217_69 : Rn 217 (69, [x0, x1, x2, x3, x4, x5, x6, x7, x8, x9], [.int i], a, h) = some (some (.int i), a, h) := Rn_ireti c217_69
theorem c217_70 : mcode 217 70 = some (.iload_n 2, 1, 0, 0, 0) := rfl
theorem r217_70 : Rn 217 (70, [x0, x1, some (.int i), x3, x4, x5, x6, x7, x8, x9], st, a, h) = Rn 217 (71, [x0, x1, some (.int i), x3, x4, x5, x6, x7, x8, x9], .int i :: st, a, h) := Rn_go c217_70 rfl
theorem c217_71 : mcode 217 71 = some (.ifCond .lt 40, 3, 0, 0, 0) := rfl
theorem r217_71 : Rn 217 (71, [x0, x1, x2, x3, x4, x5, x6, x7, x8, x9], .int i :: st, a, h) = if i < 0 then Rn 217 (111, [x0, x1, x2, x3, x4, x5, x6, x7, x8, x9], st, a, h) else Rn 217 (74, [x0, x1, x2, x3, x4, x5, x6, x7, x8, x9], st, a, h) := Rn_ifc c217_71 mc_lt rfl rfl
theorem c217_74 : mcode 217 74 = some (.iload 4, 2, 0, 0, 0) := rfl
theorem r217_74 : Rn 217 (74, [x0, x1, x2, x3, some (.int i), x5, x6, x7, x8, x9], st, a, h) = Rn 217 (76, [x0, x1, x2, x3, some (.int i), x5, x6, x7, x8, x9], .int i :: st, a, h) := Rn_go c217_74 rfl
theorem c217_76 : mcode 217 76 = some (.ifCond .lt 35, 3, 0, 0, 0) := rfl
theorem r217_76 : Rn 217 (76, [x0, x1, x2, x3, x4, x5, x6, x7, x8, x9], .int i :: st, a, h) = if i < 0 then Rn 217 (111, [x0, x1, x2, x3, x4, x5, x6, x7, x8, x9], st, a, h) else Rn 217 (79, [x0, x1, x2, x3, x4, x5, x6, x7, x8, x9], st, a, h) := Rn_ifc c217_76 mc_lt rfl rfl
theorem c217_79 : mcode 217 79 = some (.iload 5, 2, 0, 0, 0) := rfl
theorem r217_79 : Rn 217 (79, [x0, x1, x2, x3, x4, some (.int i), x6, x7, x8, x9], st, a, h) = Rn 217 (81, [x0, x1, x2, x3, x4, some (.int i), x6, x7, x8, x9], .int i :: st, a, h) := Rn_go c217_79 rfl
theorem c217_81 : mcode 217 81 = some (.ifCond .lt 30, 3, 0, 0, 0) := rfl
theorem r217_81 : Rn 217 (81, [x0, x1, x2, x3, x4, x5, x6, x7, x8, x9], .int i :: st, a, h) = if i < 0 then Rn 217 (111, [x0, x1, x2, x3, x4, x5, x6, x7, x8, x9], st, a, h) else Rn 217 (84, [x0, x1, x2, x3, x4, x5, x6, x7, x8, x9], st, a, h) := Rn_ifc c217_81 mc_lt rfl rfl
theorem c217_84 : mcode 217 84 = some (.iload 5, 2, 0, 0, 0) := rfl
theorem r217_84 : Rn 217 (84, [x0, x1, x2, x3, x4, some (.int i), x6, x7, x8, x9], st, a, h) = Rn 217 (86, [x0, x1, x2, x3, x4, some (.int i), x6, x7, x8, x9], .int i :: st, a, h) := Rn_go c217_84 rfl
theorem c217_86 : mcode 217 86 = some (.aload_n 0, 1, 0, 0, 0) := rfl
theorem r217_86 : Rn 217 (86, [some (.ref q), x1, x2, x3, x4, x5, x6, x7, x8, x9], st, a, h) = Rn 217 (87, [some (.ref q), x1, x2, x3, x4, x5, x6, x7, x8, x9], .ref q :: st, a, h) := Rn_go c217_86 rfl
theorem c217_87 : mcode 217 87 = some (.getfield 31, 3, 6, 9, 0) := rfl
theorem r217_87 : Rn 217 (87, [x0, x1, x2, x3, x4, x5, x6, x7, x8, x9], .ref q :: st, a, h) = Kv 217 90 [x0, x1, x2, x3, x4, x5, x6, x7, x8, x9] st a h (mgf h q 6 9) := Rn_getf c217_87 rfl
theorem c217_90 : mcode 217 90 = some (.iload_n 1, 1, 0, 0, 0) := rfl
theorem r217_90 : Rn 217 (90, [x0, some (.int i), x2, x3, x4, x5, x6, x7, x8, x9], st, a, h) = Rn 217 (91, [x0, some (.int i), x2, x3, x4, x5, x6, x7, x8, x9], .int i :: st, a, h) := Rn_go c217_90 rfl
theorem c217_91 : mcode 217 91 = some (.iaload, 1, 0, 0, 0) := rfl
theorem r217_91 : Rn 217 (91, [x0, x1, x2, x3, x4, x5, x6, x7, x8, x9], .int i :: .ref q :: st, a, h) = Ki 217 92 [x0, x1, x2, x3, x4, x5, x6, x7, x8, x9] st a h (mld h q i false) := Rn_iald c217_91 rfl
theorem c217_92 : mcode 217 92 = some (.iload_n 2, 1, 0, 0, 0) := rfl
theorem r217_92 : Rn 217 (92, [x0, x1, some (.int i), x3, x4, x5, x6, x7, x8, x9], st, a, h) = Rn 217 (93, [x0, x1, some (.int i), x3, x4, x5, x6, x7, x8, x9], .int i :: st, a, h) := Rn_go c217_92 rfl
theorem c217_93 : mcode 217 93 = some (.isub, 1, 0, 0, 0) := rfl
theorem r217_93 : Rn 217 (93, [x0, x1, x2, x3, x4, x5, x6, x7, x8, x9], .int j :: .int i :: st, a, h) = Rn 217 (94, [x0, x1, x2, x3, x4, x5, x6, x7, x8, x9], .int (i - j) :: st, a, h) := Rn_go c217_93 rfl
theorem c217_94 : mcode 217 94 = some (.if_icmp .gt 17, 3, 0, 0, 0) := rfl
theorem r217_94 : Rn 217 (94, [x0, x1, x2, x3, x4, x5, x6, x7, x8, x9], .int j :: .int i :: st, a, h) = if j < i then Rn 217 (111, [x0, x1, x2, x3, x4, x5, x6, x7, x8, x9], st, a, h) else Rn 217 (97, [x0, x1, x2, x3, x4, x5, x6, x7, x8, x9], st, a, h) := Rn_icmp c217_94 mc_gt rfl rfl
theorem c217_97 : mcode 217 97 = some (.iload 5, 2, 0, 0, 0) := rfl
theorem r217_97 : Rn 217 (97, [x0, x1, x2, x3, x4, some (.int i), x6, x7, x8, x9], st, a, h) = Rn 217 (99, [x0, x1, x2, x3, x4, some (.int i), x6, x7, x8, x9], .int i :: st, a, h) := Rn_go c217_97 rfl
theorem c217_99 : mcode 217 99 = some (.aload_n 0, 1, 0, 0, 0) := rfl
theorem r217_99 : Rn 217 (99, [some (.ref q), x1, x2, x3, x4, x5, x6, x7, x8, x9], st, a, h) = Rn 217 (100, [some (.ref q), x1, x2, x3, x4, x5, x6, x7, x8, x9], .ref q :: st, a, h) := Rn_go c217_99 rfl
theorem c217_100 : mcode 217 100 = some (.getfield 31, 3, 6, 9, 0) := rfl
theorem r217_100 : Rn 217 (100, [x0, x1, x2, x3, x4, x5, x6, x7, x8, x9], .ref q :: st, a, h) = Kv 217 103 [x0, x1, x2, x3, x4, x5, x6, x7, x8, x9] st a h (mgf h q 6 9) := Rn_getf c217_100 rfl
theorem c217_103 : mcode 217 103 = some (.iload_n 3, 1, 0, 0, 0) := rfl
theorem r217_103 : Rn 217 (103, [x0, x1, x2, some (.int i), x4, x5, x6, x7, x8, x9], st, a, h) = Rn 217 (104, [x0, x1, x2, some (.int i), x4, x5, x6, x7, x8, x9], .int i :: st, a, h) := Rn_go c217_103 rfl
theorem c217_104 : mcode 217 104 = some (.iaload, 1, 0, 0, 0) := rfl
theorem r217_104 : Rn 217 (104, [x0, x1, x2, x3, x4, x5, x6, x7, x8, x9], .int i :: .ref q :: st, a, h) = Ki 217 105 [x0, x1, x2, x3, x4, x5, x6, x7, x8, x9] st a h (mld h q i false) := Rn_iald c217_104 rfl
theorem c217_105 : mcode 217 105 = some (.iload 4, 2, 0, 0, 0) := rfl
theorem r217_105 : Rn 217 (105, [x0, x1, x2, x3, some (.int i), x5, x6, x7, x8, x9], st, a, h) = Rn 217 (107, [x0, x1, x2, x3, some (.int i), x5, x6, x7, x8, x9], .int i :: st, a, h) := Rn_go c217_105 rfl
theorem c217_107 : mcode 217 107 = some (.isub, 1, 0, 0, 0) := rfl
theorem r217_107 : Rn 217 (107, [x0, x1, x2, x3, x4, x5, x6, x7, x8, x9], .int j :: .int i :: st, a, h) = Rn 217 (108, [x0, x1, x2, x3, x4, x5, x6, x7, x8, x9], .int (i - j) :: st, a, h) := Rn_go c217_107 rfl
theorem c217_108 : mcode 217 108 = some (.if_icmp .le 10, 3, 0, 0, 0) := rfl
theorem r217_108 : Rn 217 (108, [x0, x1, x2, x3, x4, x5, x6, x7, x8, x9], .int j :: .int i :: st, a, h) = if j < i then Rn 217 (111, [x0, x1, x2, x3, x4, x5, x6, x7, x8, x9], st, a, h) else Rn 217 (118, [x0, x1, x2, x3, x4, x5, x6, x7, x8, x9], st, a, h) := Rn_icmpn c217_108 mc_le rfl rfl
theorem c217_111 : mcode 217 111 = some (.aload_n 0, 1, 0, 0, 0) := rfl
theorem r217_111 : Rn 217 (111, [some (.ref q), x1, x2, x3, x4, x5, x6, x7, x8, x9], st, a, h) = Rn 217 (112, [some (.ref q), x1, x2, x3, x4, x5, x6, x7, x8, x9], .ref q :: st, a, h) := Rn_go c217_111 rfl
theorem c217_112 : mcode 217 112 = some (.ldc 37, 2, 0, 0, -1000001) := rfl
theorem r217_112 : Rn 217 (112, [x0, x1, x2, x3, x4, x5, x6, x7, x8, x9], st, a, h) = Rn 217 (114, [x0, x1, x2, x3, x4, x5, x6, x7, x8, x9], .int (-1000001 : Int32) :: st, a, h) := Rn_go c217_112 rfl
theorem c217_114 : mcode 217 114 = some (.invokevirtual 39, 3, 124, 1, 6) := rfl
theorem r217_114 : Rn 217 (114, [x0, x1, x2, x3, x4, x5, x6, x7, x8, x9], [v0, .ref q], a, h) = if mis h q 6 = true then Bk 217 117 [x0, x1, x2, x3, x4, x5, x6, x7, x8, x9] [] (Ec 124 [.ref q, v0] a h) else none := Rn_call1 c217_114 rfl (Nat.le_of_ble_eq_true rfl) rfl rfl (Nat.le_of_ble_eq_true rfl)
theorem c217_117 : mcode 217 117 = some (.ireturn, 1, 0, 0, 0) := rfl
theorem r217_117 : Rn 217 (117, [x0, x1, x2, x3, x4, x5, x6, x7, x8, x9], [.int i], a, h) = some (some (.int i), a, h) := Rn_ireti c217_117
theorem c217_118 : mcode 217 118 = some (.bipush 40, 2, 0, 0, 0) := rfl
theorem r217_118 : Rn 217 (118, [x0, x1, x2, x3, x4, x5, x6, x7, x8, x9], st, a, h) = Rn 217 (120, [x0, x1, x2, x3, x4, x5, x6, x7, x8, x9], .int (40 : Int32) :: st, a, h) := Rn_go c217_118 rfl
theorem c217_120 : mcode 217 120 = some (.iload_n 1, 1, 0, 0, 0) := rfl
theorem r217_120 : Rn 217 (120, [x0, some (.int i), x2, x3, x4, x5, x6, x7, x8, x9], st, a, h) = Rn 217 (121, [x0, some (.int i), x2, x3, x4, x5, x6, x7, x8, x9], .int i :: st, a, h) := Rn_go c217_120 rfl
theorem c217_121 : mcode 217 121 = some (.imul, 1, 0, 0, 0) := rfl
theorem r217_121 : Rn 217 (121, [x0, x1, x2, x3, x4, x5, x6, x7, x8, x9], .int j :: .int i :: st, a, h) = Rn 217 (122, [x0, x1, x2, x3, x4, x5, x6, x7, x8, x9], .int (i * j) :: st, a, h) := Rn_go c217_121 rfl
theorem c217_122 : mcode 217 122 = some (.iload_n 2, 1, 0, 0, 0) := rfl
theorem r217_122 : Rn 217 (122, [x0, x1, some (.int i), x3, x4, x5, x6, x7, x8, x9], st, a, h) = Rn 217 (123, [x0, x1, some (.int i), x3, x4, x5, x6, x7, x8, x9], .int i :: st, a, h) := Rn_go c217_122 rfl
theorem c217_123 : mcode 217 123 = some (.iadd, 1, 0, 0, 0) := rfl
theorem r217_123 : Rn 217 (123, [x0, x1, x2, x3, x4, x5, x6, x7, x8, x9], .int j :: .int i :: st, a, h) = Rn 217 (124, [x0, x1, x2, x3, x4, x5, x6, x7, x8, x9], .int (i + j) :: st, a, h) := Rn_go c217_123 rfl
theorem c217_124 : mcode 217 124 = some (.istore 6, 2, 0, 0, 0) := rfl
theorem r217_124 : Rn 217 (124, [x0, x1, x2, x3, x4, x5, x6, x7, x8, x9], .int i :: st, a, h) = Nl x5 (Rn 217 (126, [x0, x1, x2, x3, x4, x5, some (.int i), x7, x8, x9], st, a, h)) := Rn_st1 (k := 6) (v := .int i) x5 c217_124 rfl rfl rfl rfl
theorem c217_126 : mcode 217 126 = some (.bipush 40, 2, 0, 0, 0) := rfl
theorem r217_126 : Rn 217 (126, [x0, x1, x2, x3, x4, x5, x6, x7, x8, x9], st, a, h) = Rn 217 (128, [x0, x1, x2, x3, x4, x5, x6, x7, x8, x9], .int (40 : Int32) :: st, a, h) := Rn_go c217_126 rfl
theorem c217_128 : mcode 217 128 = some (.iload_n 3, 1, 0, 0, 0) := rfl
theorem r217_128 : Rn 217 (128, [x0, x1, x2, some (.int i), x4, x5, x6, x7, x8, x9], st, a, h) = Rn 217 (129, [x0, x1, x2, some (.int i), x4, x5, x6, x7, x8, x9], .int i :: st, a, h) := Rn_go c217_128 rfl
theorem c217_129 : mcode 217 129 = some (.imul, 1, 0, 0, 0) := rfl
theorem r217_129 : Rn 217 (129, [x0, x1, x2, x3, x4, x5, x6, x7, x8, x9], .int j :: .int i :: st, a, h) = Rn 217 (130, [x0, x1, x2, x3, x4, x5, x6, x7, x8, x9], .int (i * j) :: st, a, h) := Rn_go c217_129 rfl
theorem c217_130 : mcode 217 130 = some (.iload 4, 2, 0, 0, 0) := rfl
theorem r217_130 : Rn 217 (130, [x0, x1, x2, x3, some (.int i), x5, x6, x7, x8, x9], st, a, h) = Rn 217 (132, [x0, x1, x2, x3, some (.int i), x5, x6, x7, x8, x9], .int i :: st, a, h) := Rn_go c217_130 rfl
theorem c217_132 : mcode 217 132 = some (.iadd, 1, 0, 0, 0) := rfl
theorem r217_132 : Rn 217 (132, [x0, x1, x2, x3, x4, x5, x6, x7, x8, x9], .int j :: .int i :: st, a, h) = Rn 217 (133, [x0, x1, x2, x3, x4, x5, x6, x7, x8, x9], .int (i + j) :: st, a, h) := Rn_go c217_132 rfl
theorem c217_133 : mcode 217 133 = some (.istore 7, 2, 0, 0, 0) := rfl
theorem r217_133 : Rn 217 (133, [x0, x1, x2, x3, x4, x5, x6, x7, x8, x9], .int i :: st, a, h) = Nl x6 (Rn 217 (135, [x0, x1, x2, x3, x4, x5, x6, some (.int i), x8, x9], st, a, h)) := Rn_st1 (k := 7) (v := .int i) x6 c217_133 rfl rfl rfl rfl
theorem c217_135 : mcode 217 135 = some (.iconst 0, 1, 0, 0, 0) := rfl
theorem r217_135 : Rn 217 (135, [x0, x1, x2, x3, x4, x5, x6, x7, x8, x9], st, a, h) = Rn 217 (136, [x0, x1, x2, x3, x4, x5, x6, x7, x8, x9], .int (0 : Int32) :: st, a, h) := Rn_go c217_135 rfl
theorem c217_136 : mcode 217 136 = some (.istore 8, 2, 0, 0, 0) := rfl
theorem r217_136 : Rn 217 (136, [x0, x1, x2, x3, x4, x5, x6, x7, x8, x9], .int i :: st, a, h) = Nl x7 (Rn 217 (138, [x0, x1, x2, x3, x4, x5, x6, x7, some (.int i), x9], st, a, h)) := Rn_st1 (k := 8) (v := .int i) x7 c217_136 rfl rfl rfl rfl
theorem c217_138 : mcode 217 138 = some (.iload 8, 2, 0, 0, 0) := rfl
theorem r217_138 : Rn 217 (138, [x0, x1, x2, x3, x4, x5, x6, x7, some (.int i), x9], st, a, h) = Rn 217 (140, [x0, x1, x2, x3, x4, x5, x6, x7, some (.int i), x9], .int i :: st, a, h) := Rn_go c217_138 rfl
theorem c217_140 : mcode 217 140 = some (.iload 5, 2, 0, 0, 0) := rfl
theorem r217_140 : Rn 217 (140, [x0, x1, x2, x3, x4, some (.int i), x6, x7, x8, x9], st, a, h) = Rn 217 (142, [x0, x1, x2, x3, x4, some (.int i), x6, x7, x8, x9], .int i :: st, a, h) := Rn_go c217_140 rfl
theorem c217_142 : mcode 217 142 = some (.if_icmp .ge 50, 3, 0, 0, 0) := rfl
theorem r217_142 : Rn 217 (142, [x0, x1, x2, x3, x4, x5, x6, x7, x8, x9], .int j :: .int i :: st, a, h) = if i < j then Rn 217 (145, [x0, x1, x2, x3, x4, x5, x6, x7, x8, x9], st, a, h) else Rn 217 (192, [x0, x1, x2, x3, x4, x5, x6, x7, x8, x9], st, a, h) := Rn_icmpn c217_142 mc_ge rfl rfl
theorem c217_145 : mcode 217 145 = some (.iload 6, 2, 0, 0, 0) := rfl
theorem r217_145 : Rn 217 (145, [x0, x1, x2, x3, x4, x5, some (.int i), x7, x8, x9], st, a, h) = Rn 217 (147, [x0, x1, x2, x3, x4, x5, some (.int i), x7, x8, x9], .int i :: st, a, h) := Rn_go c217_145 rfl
theorem c217_147 : mcode 217 147 = some (.iload 7, 2, 0, 0, 0) := rfl
theorem r217_147 : Rn 217 (147, [x0, x1, x2, x3, x4, x5, x6, some (.int i), x8, x9], st, a, h) = Rn 217 (149, [x0, x1, x2, x3, x4, x5, x6, some (.int i), x8, x9], .int i :: st, a, h) := Rn_go c217_147 rfl
theorem c217_149 : mcode 217 149 = some (.if_icmp .ge 13, 3, 0, 0, 0) := rfl
theorem r217_149 : Rn 217 (149, [x0, x1, x2, x3, x4, x5, x6, x7, x8, x9], .int j :: .int i :: st, a, h) = if i < j then Rn 217 (152, [x0, x1, x2, x3, x4, x5, x6, x7, x8, x9], st, a, h) else Rn 217 (162, [x0, x1, x2, x3, x4, x5, x6, x7, x8, x9], st, a, h) := Rn_icmpn c217_149 mc_ge rfl rfl
theorem c217_152 : mcode 217 152 = some (.iload 5, 2, 0, 0, 0) := rfl
theorem r217_152 : Rn 217 (152, [x0, x1, x2, x3, x4, some (.int i), x6, x7, x8, x9], st, a, h) = Rn 217 (154, [x0, x1, x2, x3, x4, some (.int i), x6, x7, x8, x9], .int i :: st, a, h) := Rn_go c217_152 rfl
theorem c217_154 : mcode 217 154 = some (.iconst 1, 1, 0, 0, 0) := rfl
theorem r217_154 : Rn 217 (154, [x0, x1, x2, x3, x4, x5, x6, x7, x8, x9], st, a, h) = Rn 217 (155, [x0, x1, x2, x3, x4, x5, x6, x7, x8, x9], .int (1 : Int32) :: st, a, h) := Rn_go c217_154 rfl
theorem c217_155 : mcode 217 155 = some (.isub, 1, 0, 0, 0) := rfl
theorem r217_155 : Rn 217 (155, [x0, x1, x2, x3, x4, x5, x6, x7, x8, x9], .int j :: .int i :: st, a, h) = Rn 217 (156, [x0, x1, x2, x3, x4, x5, x6, x7, x8, x9], .int (i - j) :: st, a, h) := Rn_go c217_155 rfl
theorem c217_156 : mcode 217 156 = some (.iload 8, 2, 0, 0, 0) := rfl
theorem r217_156 : Rn 217 (156, [x0, x1, x2, x3, x4, x5, x6, x7, some (.int i), x9], st, a, h) = Rn 217 (158, [x0, x1, x2, x3, x4, x5, x6, x7, some (.int i), x9], .int i :: st, a, h) := Rn_go c217_156 rfl
theorem c217_158 : mcode 217 158 = some (.isub, 1, 0, 0, 0) := rfl
theorem r217_158 : Rn 217 (158, [x0, x1, x2, x3, x4, x5, x6, x7, x8, x9], .int j :: .int i :: st, a, h) = Rn 217 (159, [x0, x1, x2, x3, x4, x5, x6, x7, x8, x9], .int (i - j) :: st, a, h) := Rn_go c217_158 rfl
theorem c217_159 : mcode 217 159 = some (.goto 5, 3, 0, 0, 0) := rfl
theorem r217_159 : Rn 217 (159, [x0, x1, x2, x3, x4, x5, x6, x7, x8, x9], st, a, h) = Rn 217 (164, [x0, x1, x2, x3, x4, x5, x6, x7, x8, x9], st, a, h) := Rn_goto c217_159 rfl
theorem c217_162 : mcode 217 162 = some (.iload 8, 2, 0, 0, 0) := rfl
theorem r217_162 : Rn 217 (162, [x0, x1, x2, x3, x4, x5, x6, x7, some (.int i), x9], st, a, h) = Rn 217 (164, [x0, x1, x2, x3, x4, x5, x6, x7, some (.int i), x9], .int i :: st, a, h) := Rn_go c217_162 rfl
theorem c217_164 : mcode 217 164 = some (.istore 9, 2, 0, 0, 0) := rfl
theorem r217_164 : Rn 217 (164, [x0, x1, x2, x3, x4, x5, x6, x7, x8, x9], .int i :: st, a, h) = Nl x8 (Rn 217 (166, [x0, x1, x2, x3, x4, x5, x6, x7, x8, some (.int i)], st, a, h)) := Rn_st1 (k := 9) (v := .int i) x8 c217_164 rfl rfl rfl rfl
theorem c217_166 : mcode 217 166 = some (.aload_n 0, 1, 0, 0, 0) := rfl
theorem r217_166 : Rn 217 (166, [some (.ref q), x1, x2, x3, x4, x5, x6, x7, x8, x9], st, a, h) = Rn 217 (167, [some (.ref q), x1, x2, x3, x4, x5, x6, x7, x8, x9], .ref q :: st, a, h) := Rn_go c217_166 rfl
theorem c217_167 : mcode 217 167 = some (.getfield 34, 3, 6, 10, 0) := rfl
theorem r217_167 : Rn 217 (167, [x0, x1, x2, x3, x4, x5, x6, x7, x8, x9], .ref q :: st, a, h) = Kv 217 170 [x0, x1, x2, x3, x4, x5, x6, x7, x8, x9] st a h (mgf h q 6 10) := Rn_getf c217_167 rfl
theorem c217_170 : mcode 217 170 = some (.iload 7, 2, 0, 0, 0) := rfl
theorem r217_170 : Rn 217 (170, [x0, x1, x2, x3, x4, x5, x6, some (.int i), x8, x9], st, a, h) = Rn 217 (172, [x0, x1, x2, x3, x4, x5, x6, some (.int i), x8, x9], .int i :: st, a, h) := Rn_go c217_170 rfl
theorem c217_172 : mcode 217 172 = some (.iload 9, 2, 0, 0, 0) := rfl
theorem r217_172 : Rn 217 (172, [x0, x1, x2, x3, x4, x5, x6, x7, x8, some (.int i)], st, a, h) = Rn 217 (174, [x0, x1, x2, x3, x4, x5, x6, x7, x8, some (.int i)], .int i :: st, a, h) := Rn_go c217_172 rfl
theorem c217_174 : mcode 217 174 = some (.iadd, 1, 0, 0, 0) := rfl
theorem r217_174 : Rn 217 (174, [x0, x1, x2, x3, x4, x5, x6, x7, x8, x9], .int j :: .int i :: st, a, h) = Rn 217 (175, [x0, x1, x2, x3, x4, x5, x6, x7, x8, x9], .int (i + j) :: st, a, h) := Rn_go c217_174 rfl
theorem c217_175 : mcode 217 175 = some (.aload_n 0, 1, 0, 0, 0) := rfl
theorem r217_175 : Rn 217 (175, [some (.ref q), x1, x2, x3, x4, x5, x6, x7, x8, x9], st, a, h) = Rn 217 (176, [some (.ref q), x1, x2, x3, x4, x5, x6, x7, x8, x9], .ref q :: st, a, h) := Rn_go c217_175 rfl
theorem c217_176 : mcode 217 176 = some (.getfield 34, 3, 6, 10, 0) := rfl
theorem r217_176 : Rn 217 (176, [x0, x1, x2, x3, x4, x5, x6, x7, x8, x9], .ref q :: st, a, h) = Kv 217 179 [x0, x1, x2, x3, x4, x5, x6, x7, x8, x9] st a h (mgf h q 6 10) := Rn_getf c217_176 rfl
theorem c217_179 : mcode 217 179 = some (.iload 6, 2, 0, 0, 0) := rfl
theorem r217_179 : Rn 217 (179, [x0, x1, x2, x3, x4, x5, some (.int i), x7, x8, x9], st, a, h) = Rn 217 (181, [x0, x1, x2, x3, x4, x5, some (.int i), x7, x8, x9], .int i :: st, a, h) := Rn_go c217_179 rfl
theorem c217_181 : mcode 217 181 = some (.iload 9, 2, 0, 0, 0) := rfl
theorem r217_181 : Rn 217 (181, [x0, x1, x2, x3, x4, x5, x6, x7, x8, some (.int i)], st, a, h) = Rn 217 (183, [x0, x1, x2, x3, x4, x5, x6, x7, x8, some (.int i)], .int i :: st, a, h) := Rn_go c217_181 rfl
theorem c217_183 : mcode 217 183 = some (.iadd, 1, 0, 0, 0) := rfl
theorem r217_183 : Rn 217 (183, [x0, x1, x2, x3, x4, x5, x6, x7, x8, x9], .int j :: .int i :: st, a, h) = Rn 217 (184, [x0, x1, x2, x3, x4, x5, x6, x7, x8, x9], .int (i + j) :: st, a, h) := Rn_go c217_183 rfl
theorem c217_184 : mcode 217 184 = some (.iaload, 1, 0, 0, 0) := rfl
theorem r217_184 : Rn 217 (184, [x0, x1, x2, x3, x4, x5, x6, x7, x8, x9], .int i :: .ref q :: st, a, h) = Ki 217 185 [x0, x1, x2, x3, x4, x5, x6, x7, x8, x9] st a h (mld h q i false) := Rn_iald c217_184 rfl
theorem c217_185 : mcode 217 185 = some (.iastore, 1, 0, 0, 0) := rfl
theorem r217_185 : Rn 217 (185, [x0, x1, x2, x3, x4, x5, x6, x7, x8, x9], .int j :: .int i :: .ref q :: st, a, h) = Kh 217 186 [x0, x1, x2, x3, x4, x5, x6, x7, x8, x9] st a (mias h q i j) := Rn_iast c217_185 rfl
theorem c217_186 : mcode 217 186 = some (.iinc 8 1, 3, 0, 0, 0) := rfl
theorem r217_186 : Rn 217 (186, [x0, x1, x2, x3, x4, x5, x6, x7, some (.int i), x9], st, a, h) = Nl x7 (Rn 217 (189, [x0, x1, x2, x3, x4, x5, x6, x7, some (.int (i + (1 : Int32))), x9], st, a, h)) := Rn_st1 (k := 8) (v := .int (i + (1 : Int32))) x7 c217_186 rfl rfl rfl rfl
theorem c217_189 : mcode 217 189 = some (.goto (-51), 3, 0, 0, 0) := rfl
theorem r217_189 : Rn 217 (189, [x0, x1, x2, x3, x4, x5, x6, x7, x8, x9], st, a, h) = Rn 217 (138, [x0, x1, x2, x3, x4, x5, x6, x7, x8, x9], st, a, h) := Rn_goto c217_189 rfl
theorem c217_192 : mcode 217 192 = some (.iload 5, 2, 0, 0, 0) := rfl
theorem r217_192 : Rn 217 (192, [x0, x1, x2, x3, x4, some (.int i), x6, x7, x8, x9], st, a, h) = Rn 217 (194, [x0, x1, x2, x3, x4, some (.int i), x6, x7, x8, x9], .int i :: st, a, h) := Rn_go c217_192 rfl
theorem c217_194 : mcode 217 194 = some (.ireturn, 1, 0, 0, 0) := rfl
theorem r217_194 : Rn 217 (194, [x0, x1, x2, x3, x4, x5, x6, x7, x8, x9], [.int i], a, h) = some (some (.int i), a, h) := Rn_ireti c217_194
theorem c218_0 : mcode 218 0 = some (.iload_n 1, 1, 0, 0, 0) := rfl
theorem r218_0 : Rn 218 (0, [x0, some (.int i)], st, a, h) = Rn 218 (1, [x0, some (.int i)], .int i :: st, a, h) := Rn_go c218_0 rfl
theorem c218_1 : mcode 218 1 = some (.invokestatic 291, 3, 214, 1, 0) := rfl
theorem r218_1 : Rn 218 (1, [x0, x1], [v0], a, h) = Bk 218 4 [x0, x1] [] (Ec 214 [v0] a h) := Rn_call0 c218_1 (fun z => nomatch z) rfl (Nat.le_of_ble_eq_true rfl) rfl rfl (Nat.le_of_ble_eq_true rfl)
theorem c218_4 : mcode 218 4 = some (.ifCond .ne 8, 3, 0, 0, 0) := rfl
theorem r218_4 : Rn 218 (4, [x0, x1], .int i :: st, a, h) = if i = 0 then Rn 218 (7, [x0, x1], st, a, h) else Rn 218 (12, [x0, x1], st, a, h) := Rn_ifcn c218_4 mc_ne rfl rfl
theorem c218_7 : mcode 218 7 = some (.ldc 37, 2, 0, 0, -1000001) := rfl
theorem r218_7 : Rn 218 (7, [x0, x1], st, a, h) = Rn 218 (9, [x0, x1], .int (-1000001 : Int32) :: st, a, h) := Rn_go c218_7 rfl
theorem c218_9 : mcode 218 9 = some (.goto 19, 3, 0, 0, 0) := rfl
theorem r218_9 : Rn 218 (9, [x0, x1], st, a, h) = Rn 218 (28, [x0, x1], st, a, h) := Rn_goto c218_9 rfl
theorem c218_12 : mcode 218 12 = some (.aload_n 0, 1, 0, 0, 0) := rfl
theorem r218_12 : Rn 218 (12, [some (.ref q), x1], st, a, h) = Rn 218 (13, [some (.ref q), x1], .ref q :: st, a, h) := Rn_go c218_12 rfl
theorem c218_13 : mcode 218 13 = some (.getfield 28, 3, 6, 8, 0) := rfl
theorem r218_13 : Rn 218 (13, [x0, x1], .ref q :: st, a, h) = Kv 218 16 [x0, x1] st a h (mgf h q 6 8) := Rn_getf c218_13 rfl
theorem c218_16 : mcode 218 16 = some (.iload_n 1, 1, 0, 0, 0) := rfl
theorem r218_16 : Rn 218 (16, [x0, some (.int i)], st, a, h) = Rn 218 (17, [x0, some (.int i)], .int i :: st, a, h) := Rn_go c218_16 rfl
theorem c218_17 : mcode 218 17 = some (.iaload, 1, 0, 0, 0) := rfl
theorem r218_17 : Rn 218 (17, [x0, x1], .int i :: .ref q :: st, a, h) = Ki 218 18 [x0, x1] st a h (mld h q i false) := Rn_iald c218_17 rfl
theorem c218_18 : mcode 218 18 = some (.ifCond .ge 9, 3, 0, 0, 0) := rfl
theorem r218_18 : Rn 218 (18, [x0, x1], .int i :: st, a, h) = if i < 0 then Rn 218 (21, [x0, x1], st, a, h) else Rn 218 (27, [x0, x1], st, a, h) := Rn_ifcn c218_18 mc_ge rfl rfl
theorem c218_21 : mcode 218 21 = some (.ldc_w 286, 3, 0, 0, -1000006) := rfl
theorem r218_21 : Rn 218 (21, [x0, x1], st, a, h) = Rn 218 (24, [x0, x1], .int (-1000006 : Int32) :: st, a, h) := Rn_go c218_21 rfl
theorem c218_24 : mcode 218 24 = some (.goto 4, 3, 0, 0, 0) := rfl
theorem r218_24 : Rn 218 (24, [x0, x1], st, a, h) = Rn 218 (28, [x0, x1], st, a, h) := Rn_goto c218_24 rfl
theorem c218_27 : mcode 218 27 = some (.iconst 0, 1, 0, 0, 0) := rfl
theorem r218_27 : Rn 218 (27, [x0, x1], st, a, h) = Rn 218 (28, [x0, x1], .int (0 : Int32) :: st, a, h) := Rn_go c218_27 rfl
theorem c218_28 : mcode 218 28 = some (.ireturn, 1, 0, 0, 0) := rfl
theorem r218_28 : Rn 218 (28, [x0, x1], [.int i], a, h) = some (some (.int i), a, h) := Rn_ireti c218_28
theorem c219_0 : mcode 219 0 = some (.aload_n 0, 1, 0, 0, 0) := rfl
theorem r219_0 : Rn 219 (0, [some (.ref q), x1, x2], st, a, h) = Rn 219 (1, [some (.ref q), x1, x2], .ref q :: st, a, h) := Rn_go c219_0 rfl
theorem c219_1 : mcode 219 1 = some (.iload_n 1, 1, 0, 0, 0) := rfl
theorem r219_1 : Rn 219 (1, [x0, some (.int i), x2], st, a, h) = Rn 219 (2, [x0, some (.int i), x2], .int i :: st, a, h) := Rn_go c219_1 rfl
theorem c219_2 : mcode 219 2 = some (.invokevirtual 194, 3, 218, 1, 6) := rfl
theorem r219_2 : Rn 219 (2, [x0, x1, x2], [v0, .ref q], a, h) = if mis h q 6 = true then Bk 219 5 [x0, x1, x2] [] (Ec 218 [.ref q, v0] a h) else none := Rn_call1 c219_2 rfl (Nat.le_of_ble_eq_true rfl) rfl rfl (Nat.le_of_ble_eq_true rfl)
theorem c219_5 : mcode 219 5 = some (.ifCond .eq 13, 3, 0, 0, 0) := rfl
theorem r219_5 : Rn 219 (5, [x0, x1, x2], .int i :: st, a, h) = if i = 0 then Rn 219 (18, [x0, x1, x2], st, a, h) else Rn 219 (8, [x0, x1, x2], st, a, h) := Rn_ifc c219_5 mc_eq rfl rfl
theorem c219_8 : mcode 219 8 = some (.aload_n 0, 1, 0, 0, 0) := rfl
theorem r219_8 : Rn 219 (8, [some (.ref q), x1, x2], st, a, h) = Rn 219 (9, [some (.ref q), x1, x2], .ref q :: st, a, h) := Rn_go c219_8 rfl
theorem c219_9 : mcode 219 9 = some (.aload_n 0, 1, 0, 0, 0) := rfl
theorem r219_9 : Rn 219 (9, [some (.ref q), x1, x2], st, a, h) = Rn 219 (10, [some (.ref q), x1, x2], .ref q :: st, a, h) := Rn_go c219_9 rfl
theorem c219_10 : mcode 219 10 = some (.iload_n 1, 1, 0, 0, 0) := rfl
theorem r219_10 : Rn 219 (10, [x0, some (.int i), x2], st, a, h) = Rn 219 (11, [x0, some (.int i), x2], .int i :: st, a, h) := Rn_go c219_10 rfl
theorem c219_11 : mcode 219 11 = some (.invokevirtual 194, 3, 218, 1, 6) := rfl
theorem r219_11 : Rn 219 (11, [x0, x1, x2], [v0, .ref q, .ref q0], a, h) = if mis h q 6 = true then Bk 219 14 [x0, x1, x2] [.ref q0] (Ec 218 [.ref q, v0] a h) else none := Rn_call1 c219_11 rfl (Nat.le_of_ble_eq_true rfl) rfl rfl (Nat.le_of_ble_eq_true rfl)
theorem c219_14 : mcode 219 14 = some (.invokevirtual 39, 3, 124, 1, 6) := rfl
theorem r219_14 : Rn 219 (14, [x0, x1, x2], [v0, .ref q], a, h) = if mis h q 6 = true then Bk 219 17 [x0, x1, x2] [] (Ec 124 [.ref q, v0] a h) else none := Rn_call1 c219_14 rfl (Nat.le_of_ble_eq_true rfl) rfl rfl (Nat.le_of_ble_eq_true rfl)
theorem c219_17 : mcode 219 17 = some (.ireturn, 1, 0, 0, 0) := rfl
theorem r219_17 : Rn 219 (17, [x0, x1, x2], [.int i], a, h) = some (some (.int i), a, h) := Rn_ireti c219_17
theorem c219_18 : mcode 219 18 = some (.iconst 0, 1, 0, 0, 0) := rfl
theorem r219_18 : Rn 219 (18, [x0, x1, x2], st, a, h) = Rn 219 (19, [x0, x1, x2], .int (0 : Int32) :: st, a, h) := Rn_go c219_18 rfl
theorem c219_19 : mcode 219 19 = some (.istore_n 2, 1, 0, 0, 0) := rfl
theorem r219_19 : Rn 219 (19, [x0, x1, x2], .int i :: st, a, h) = Nl x1 (Rn 219 (20, [x0, x1, some (.int i)], st, a, h)) := Rn_st1 (k := 2) (v := .int i) x1 c219_19 rfl rfl rfl rfl
theorem c219_20 : mcode 219 20 = some (.iload_n 2, 1, 0, 0, 0) := rfl
theorem r219_20 : Rn 219 (20, [x0, x1, some (.int i)], st, a, h) = Rn 219 (21, [x0, x1, some (.int i)], .int i :: st, a, h) := Rn_go c219_20 rfl
theorem c219_21 : mcode 219 21 = some (.aload_n 0, 1, 0, 0, 0) := rfl
theorem r219_21 : Rn 219 (21, [some (.ref q), x1, x2], st, a, h) = Rn 219 (22, [some (.ref q), x1, x2], .ref q :: st, a, h) := Rn_go c219_21 rfl
theorem c219_22 : mcode 219 22 = some (.getfield 31, 3, 6, 9, 0) := rfl
theorem r219_22 : Rn 219 (22, [x0, x1, x2], .ref q :: st, a, h) = Kv 219 25 [x0, x1, x2] st a h (mgf h q 6 9) := Rn_getf c219_22 rfl
theorem c219_25 : mcode 219 25 = some (.iload_n 1, 1, 0, 0, 0) := rfl
theorem r219_25 : Rn 219 (25, [x0, some (.int i), x2], st, a, h) = Rn 219 (26, [x0, some (.int i), x2], .int i :: st, a, h) := Rn_go c219_25 rfl
theorem c219_26 : mcode 219 26 = some (.iaload, 1, 0, 0, 0) := rfl
theorem r219_26 : Rn 219 (26, [x0, x1, x2], .int i :: .ref q :: st, a, h) = Ki 219 27 [x0, x1, x2] st a h (mld h q i false) := Rn_iald c219_26 rfl
theorem c219_27 : mcode 219 27 = some (.if_icmp .ge 60, 3, 0, 0, 0) := rfl
theorem r219_27 : Rn 219 (27, [x0, x1, x2], .int j :: .int i :: st, a, h) = if i < j then Rn 219 (30, [x0, x1, x2], st, a, h) else Rn 219 (87, [x0, x1, x2], st, a, h) := Rn_icmpn c219_27 mc_ge rfl rfl
theorem c219_30 : mcode 219 30 = some (.aload_n 0, 1, 0, 0, 0) := rfl
theorem r219_30 : Rn 219 (30, [some (.ref q), x1, x2], st, a, h) = Rn 219 (31, [some (.ref q), x1, x2], .ref q :: st, a, h) := Rn_go c219_30 rfl
theorem c219_31 : mcode 219 31 = some (.iload_n 2, 1, 0, 0, 0) := rfl
theorem r219_31 : Rn 219 (31, [x0, x1, some (.int i)], st, a, h) = Rn 219 (32, [x0, x1, some (.int i)], .int i :: st, a, h) := Rn_go c219_31 rfl
theorem c219_32 : mcode 219 32 = some (.invokevirtual 98, 3, 129, 1, 6) := rfl
theorem r219_32 : Rn 219 (32, [x0, x1, x2], [v0, .ref q], a, h) = if mis h q 6 = true then Bk 219 35 [x0, x1, x2] [] (Ec 129 [.ref q, v0] a h) else none := Rn_call1 c219_32 rfl (Nat.le_of_ble_eq_true rfl) rfl rfl (Nat.le_of_ble_eq_true rfl)
theorem c219_35 : mcode 219 35 = some (.ifCond .eq 52, 3, 0, 0, 0) := rfl
theorem r219_35 : Rn 219 (35, [x0, x1, x2], .int i :: st, a, h) = if i = 0 then Rn 219 (87, [x0, x1, x2], st, a, h) else Rn 219 (38, [x0, x1, x2], st, a, h) := Rn_ifc c219_35 mc_eq rfl rfl
theorem c219_38 : mcode 219 38 = some (.aload_n 0, 1, 0, 0, 0) := rfl
theorem r219_38 : Rn 219 (38, [some (.ref q), x1, x2], st, a, h) = Rn 219 (39, [some (.ref q), x1, x2], .ref q :: st, a, h) := Rn_go c219_38 rfl
theorem c219_39 : mcode 219 39 = some (.getfield 34, 3, 6, 10, 0) := rfl
theorem r219_39 : Rn 219 (39, [x0, x1, x2], .ref q :: st, a, h) = Kv 219 42 [x0, x1, x2] st a h (mgf h q 6 10) := Rn_getf c219_39 rfl
theorem c219_42 : mcode 219 42 = some (.bipush 40, 2, 0, 0, 0) := rfl
theorem r219_42 : Rn 219 (42, [x0, x1, x2], st, a, h) = Rn 219 (44, [x0, x1, x2], .int (40 : Int32) :: st, a, h) := Rn_go c219_42 rfl
theorem c219_44 : mcode 219 44 = some (.iload_n 1, 1, 0, 0, 0) := rfl
theorem r219_44 : Rn 219 (44, [x0, some (.int i), x2], st, a, h) = Rn 219 (45, [x0, some (.int i), x2], .int i :: st, a, h) := Rn_go c219_44 rfl
theorem c219_45 : mcode 219 45 = some (.imul, 1, 0, 0, 0) := rfl
theorem r219_45 : Rn 219 (45, [x0, x1, x2], .int j :: .int i :: st, a, h) = Rn 219 (46, [x0, x1, x2], .int (i * j) :: st, a, h) := Rn_go c219_45 rfl
theorem c219_46 : mcode 219 46 = some (.iload_n 2, 1, 0, 0, 0) := rfl
theorem r219_46 : Rn 219 (46, [x0, x1, some (.int i)], st, a, h) = Rn 219 (47, [x0, x1, some (.int i)], .int i :: st, a, h) := Rn_go c219_46 rfl
theorem c219_47 : mcode 219 47 = some (.iadd, 1, 0, 0, 0) := rfl
theorem r219_47 : Rn 219 (47, [x0, x1, x2], .int j :: .int i :: st, a, h) = Rn 219 (48, [x0, x1, x2], .int (i + j) :: st, a, h) := Rn_go c219_47 rfl
theorem c219_48 : mcode 219 48 = some (.iaload, 1, 0, 0, 0) := rfl
theorem r219_48 : Rn 219 (48, [x0, x1, x2], .int i :: .ref q :: st, a, h) = Ki 219 49 [x0, x1, x2] st a h (mld h q i false) := Rn_iald c219_48 rfl
theorem c219_49 : mcode 219 49 = some (.i2l, 1, 0, 0, 0) := rfl
theorem r219_49 : Rn 219 (49, [x0, x1, x2], .int i :: st, a, h) = Rn 219 (50, [x0, x1, x2], .long i.toInt64 :: st, a, h) := Rn_go c219_49 rfl
theorem c219_50 : mcode 219 50 = some (.lconst 0, 1, 0, 0, 0) := rfl
theorem r219_50 : Rn 219 (50, [x0, x1, x2], st, a, h) = Rn 219 (51, [x0, x1, x2], .long (0 : Int64) :: st, a, h) := Rn_go c219_50 rfl
theorem c219_51 : mcode 219 51 = some (.ldc2_w 50, 3, 0, 0, 999) := rfl
theorem r219_51 : Rn 219 (51, [x0, x1, x2], st, a, h) = Rn 219 (54, [x0, x1, x2], .long (999 : Int64) :: st, a, h) := Rn_go c219_51 rfl
theorem c219_54 : mcode 219 54 = some (.invokestatic 52, 3, 123, 3, 0) := rfl
theorem r219_54 : Rn 219 (54, [x0, x1, x2], [v2, v1, v0], a, h) = Bk 219 57 [x0, x1, x2] [] (Ec 123 [v0, v1, v2] a h) := Rn_call0 c219_54 (fun z => nomatch z) rfl (Nat.le_of_ble_eq_true rfl) rfl rfl (Nat.le_of_ble_eq_true rfl)
theorem c219_57 : mcode 219 57 = some (.ifCond .eq 30, 3, 0, 0, 0) := rfl
theorem r219_57 : Rn 219 (57, [x0, x1, x2], .int i :: st, a, h) = if i = 0 then Rn 219 (87, [x0, x1, x2], st, a, h) else Rn 219 (60, [x0, x1, x2], st, a, h) := Rn_ifc c219_57 mc_eq rfl rfl
theorem c219_60 : mcode 219 60 = some (.aload_n 0, 1, 0, 0, 0) := rfl
theorem r219_60 : Rn 219 (60, [some (.ref q), x1, x2], st, a, h) = Rn 219 (61, [some (.ref q), x1, x2], .ref q :: st, a, h) := Rn_go c219_60 rfl
theorem c219_61 : mcode 219 61 = some (.getfield 7, 3, 6, 0, 0) := rfl
theorem r219_61 : Rn 219 (61, [x0, x1, x2], .ref q :: st, a, h) = Kv 219 64 [x0, x1, x2] st a h (mgf h q 6 0) := Rn_getf c219_61 rfl
theorem c219_64 : mcode 219 64 = some (.iload_n 2, 1, 0, 0, 0) := rfl
theorem r219_64 : Rn 219 (64, [x0, x1, some (.int i)], st, a, h) = Rn 219 (65, [x0, x1, some (.int i)], .int i :: st, a, h) := Rn_go c219_64 rfl
theorem c219_65 : mcode 219 65 = some (.iconst 3, 1, 0, 0, 0) := rfl
theorem r219_65 : Rn 219 (65, [x0, x1, x2], st, a, h) = Rn 219 (66, [x0, x1, x2], .int (3 : Int32) :: st, a, h) := Rn_go c219_65 rfl
theorem c219_66 : mcode 219 66 = some (.invokestatic 79, 3, 130, 2, 0) := rfl
theorem r219_66 : Rn 219 (66, [x0, x1, x2], [v1, v0, .ref q0], a, h) = Bk 219 69 [x0, x1, x2] [.ref q0] (Ec 130 [v0, v1] a h) := Rn_call0 c219_66 (fun z => nomatch z) rfl (Nat.le_of_ble_eq_true rfl) rfl rfl (Nat.le_of_ble_eq_true rfl)
theorem c219_69 : mcode 219 69 = some (.aload_n 0, 1, 0, 0, 0) := rfl
theorem r219_69 : Rn 219 (69, [some (.ref q), x1, x2], st, a, h) = Rn 219 (70, [some (.ref q), x1, x2], .ref q :: st, a, h) := Rn_go c219_69 rfl
theorem c219_70 : mcode 219 70 = some (.getfield 34, 3, 6, 10, 0) := rfl
theorem r219_70 : Rn 219 (70, [x0, x1, x2], .ref q :: st, a, h) = Kv 219 73 [x0, x1, x2] st a h (mgf h q 6 10) := Rn_getf c219_70 rfl
theorem c219_73 : mcode 219 73 = some (.bipush 40, 2, 0, 0, 0) := rfl
theorem r219_73 : Rn 219 (73, [x0, x1, x2], st, a, h) = Rn 219 (75, [x0, x1, x2], .int (40 : Int32) :: st, a, h) := Rn_go c219_73 rfl
theorem c219_75 : mcode 219 75 = some (.iload_n 1, 1, 0, 0, 0) := rfl
theorem r219_75 : Rn 219 (75, [x0, some (.int i), x2], st, a, h) = Rn 219 (76, [x0, some (.int i), x2], .int i :: st, a, h) := Rn_go c219_75 rfl
theorem c219_76 : mcode 219 76 = some (.imul, 1, 0, 0, 0) := rfl
theorem r219_76 : Rn 219 (76, [x0, x1, x2], .int j :: .int i :: st, a, h) = Rn 219 (77, [x0, x1, x2], .int (i * j) :: st, a, h) := Rn_go c219_76 rfl
theorem c219_77 : mcode 219 77 = some (.iload_n 2, 1, 0, 0, 0) := rfl
theorem r219_77 : Rn 219 (77, [x0, x1, some (.int i)], st, a, h) = Rn 219 (78, [x0, x1, some (.int i)], .int i :: st, a, h) := Rn_go c219_77 rfl
theorem c219_78 : mcode 219 78 = some (.iadd, 1, 0, 0, 0) := rfl
theorem r219_78 : Rn 219 (78, [x0, x1, x2], .int j :: .int i :: st, a, h) = Rn 219 (79, [x0, x1, x2], .int (i + j) :: st, a, h) := Rn_go c219_78 rfl
theorem c219_79 : mcode 219 79 = some (.iaload, 1, 0, 0, 0) := rfl
theorem r219_79 : Rn 219 (79, [x0, x1, x2], .int i :: .ref q :: st, a, h) = Ki 219 80 [x0, x1, x2] st a h (mld h q i false) := Rn_iald c219_79 rfl
theorem c219_80 : mcode 219 80 = some (.iastore, 1, 0, 0, 0) := rfl
theorem r219_80 : Rn 219 (80, [x0, x1, x2], .int j :: .int i :: .ref q :: st, a, h) = Kh 219 81 [x0, x1, x2] st a (mias h q i j) := Rn_iast c219_80 rfl
theorem c219_81 : mcode 219 81 = some (.iinc 2 1, 3, 0, 0, 0) := rfl
theorem r219_81 : Rn 219 (81, [x0, x1, some (.int i)], st, a, h) = Nl x1 (Rn 219 (84, [x0, x1, some (.int (i + (1 : Int32)))], st, a, h)) := Rn_st1 (k := 2) (v := .int (i + (1 : Int32))) x1 c219_81 rfl rfl rfl rfl
theorem c219_84 : mcode 219 84 = some (.goto (-64), 3, 0, 0, 0) := rfl
theorem r219_84 : Rn 219 (84, [x0, x1, x2], st, a, h) = Rn 219 (20, [x0, x1, x2], st, a, h) := Rn_goto c219_84 rfl
theorem c219_87 : mcode 219 87 = some (.iload_n 2, 1, 0, 0, 0) := rfl
theorem r219_87 : Rn 219 (87, [x0, x1, some (.int i)], st, a, h) = Rn 219 (88, [x0, x1, some (.int i)], .int i :: st, a, h) := Rn_go c219_87 rfl
theorem c219_88 : mcode 219 88 = some (.ireturn, 1, 0, 0, 0) := rfl
theorem r219_88 : Rn 219 (88, [x0, x1, x2], [.int i], a, h) = some (some (.int i), a, h) := Rn_ireti c219_88
theorem c220_0 : mcode 220 0 = some (.aload_n 0, 1, 0, 0, 0) := rfl
theorem r220_0 : Rn 220 (0, [some (.ref q), x1, x2], st, a, h) = Rn 220 (1, [some (.ref q), x1, x2], .ref q :: st, a, h) := Rn_go c220_0 rfl
theorem c220_1 : mcode 220 1 = some (.iload_n 1, 1, 0, 0, 0) := rfl
theorem r220_1 : Rn 220 (1, [x0, some (.int i), x2], st, a, h) = Rn 220 (2, [x0, some (.int i), x2], .int i :: st, a, h) := Rn_go c220_1 rfl
theorem c220_2 : mcode 220 2 = some (.invokevirtual 194, 3, 218, 1, 6) := rfl
theorem r220_2 : Rn 220 (2, [x0, x1, x2], [v0, .ref q], a, h) = if mis h q 6 = true then Bk 220 5 [x0, x1, x2] [] (Ec 218 [.ref q, v0] a h) else none := Rn_call1 c220_2 rfl (Nat.le_of_ble_eq_true rfl) rfl rfl (Nat.le_of_ble_eq_true rfl)
theorem c220_5 : mcode 220 5 = some (.ifCond .eq 13, 3, 0, 0, 0) := rfl
theorem r220_5 : Rn 220 (5, [x0, x1, x2], .int i :: st, a, h) = if i = 0 then Rn 220 (18, [x0, x1, x2], st, a, h) else Rn 220 (8, [x0, x1, x2], st, a, h) := Rn_ifc c220_5 mc_eq rfl rfl
theorem c220_8 : mcode 220 8 = some (.aload_n 0, 1, 0, 0, 0) := rfl
theorem r220_8 : Rn 220 (8, [some (.ref q), x1, x2], st, a, h) = Rn 220 (9, [some (.ref q), x1, x2], .ref q :: st, a, h) := Rn_go c220_8 rfl
theorem c220_9 : mcode 220 9 = some (.aload_n 0, 1, 0, 0, 0) := rfl
theorem r220_9 : Rn 220 (9, [some (.ref q), x1, x2], st, a, h) = Rn 220 (10, [some (.ref q), x1, x2], .ref q :: st, a, h) := Rn_go c220_9 rfl
theorem c220_10 : mcode 220 10 = some (.iload_n 1, 1, 0, 0, 0) := rfl
theorem r220_10 : Rn 220 (10, [x0, some (.int i), x2], st, a, h) = Rn 220 (11, [x0, some (.int i), x2], .int i :: st, a, h) := Rn_go c220_10 rfl
theorem c220_11 : mcode 220 11 = some (.invokevirtual 194, 3, 218, 1, 6) := rfl
theorem r220_11 : Rn 220 (11, [x0, x1, x2], [v0, .ref q, .ref q0], a, h) = if mis h q 6 = true then Bk 220 14 [x0, x1, x2] [.ref q0] (Ec 218 [.ref q, v0] a h) else none := Rn_call1 c220_11 rfl (Nat.le_of_ble_eq_true rfl) rfl rfl (Nat.le_of_ble_eq_true rfl)
theorem c220_14 : mcode 220 14 = some (.invokevirtual 39, 3, 124, 1, 6) := rfl
theorem r220_14 : Rn 220 (14, [x0, x1, x2], [v0, .ref q], a, h) = if mis h q 6 = true then Bk 220 17 [x0, x1, x2] [] (Ec 124 [.ref q, v0] a h) else none := Rn_call1 c220_14 rfl (Nat.le_of_ble_eq_true rfl) rfl rfl (Nat.le_of_ble_eq_true rfl)
theorem c220_17 : mcode 220 17 = some (.ireturn, 1, 0, 0, 0) := rfl
theorem r220_17 : Rn 220 (17, [x0, x1, x2], [.int i], a, h) = some (some (.int i), a, h) := Rn_ireti c220_17
theorem c220_18 : mcode 220 18 = some (.iconst 0, 1, 0, 0, 0) := rfl
theorem r220_18 : Rn 220 (18, [x0, x1, x2], st, a, h) = Rn 220 (19, [x0, x1, x2], .int (0 : Int32) :: st, a, h) := Rn_go c220_18 rfl
theorem c220_19 : mcode 220 19 = some (.istore_n 2, 1, 0, 0, 0) := rfl
theorem r220_19 : Rn 220 (19, [x0, x1, x2], .int i :: st, a, h) = Nl x1 (Rn 220 (20, [x0, x1, some (.int i)], st, a, h)) := Rn_st1 (k := 2) (v := .int i) x1 c220_19 rfl rfl rfl rfl
theorem c220_20 : mcode 220 20 = some (.iload_n 2, 1, 0, 0, 0) := rfl
theorem r220_20 : Rn 220 (20, [x0, x1, some (.int i)], st, a, h) = Rn 220 (21, [x0, x1, some (.int i)], .int i :: st, a, h) := Rn_go c220_20 rfl
theorem c220_21 : mcode 220 21 = some (.aload_n 0, 1, 0, 0, 0) := rfl
theorem r220_21 : Rn 220 (21, [some (.ref q), x1, x2], st, a, h) = Rn 220 (22, [some (.ref q), x1, x2], .ref q :: st, a, h) := Rn_go c220_21 rfl
theorem c220_22 : mcode 220 22 = some (.getfield 31, 3, 6, 9, 0) := rfl
theorem r220_22 : Rn 220 (22, [x0, x1, x2], .ref q :: st, a, h) = Kv 220 25 [x0, x1, x2] st a h (mgf h q 6 9) := Rn_getf c220_22 rfl
theorem c220_25 : mcode 220 25 = some (.iload_n 1, 1, 0, 0, 0) := rfl
theorem r220_25 : Rn 220 (25, [x0, some (.int i), x2], st, a, h) = Rn 220 (26, [x0, some (.int i), x2], .int i :: st, a, h) := Rn_go c220_25 rfl
theorem c220_26 : mcode 220 26 = some (.iaload, 1, 0, 0, 0) := rfl
theorem r220_26 : Rn 220 (26, [x0, x1, x2], .int i :: .ref q :: st, a, h) = Ki 220 27 [x0, x1, x2] st a h (mld h q i false) := Rn_iald c220_26 rfl
theorem c220_27 : mcode 220 27 = some (.if_icmp .ge 34, 3, 0, 0, 0) := rfl
theorem r220_27 : Rn 220 (27, [x0, x1, x2], .int j :: .int i :: st, a, h) = if i < j then Rn 220 (30, [x0, x1, x2], st, a, h) else Rn 220 (61, [x0, x1, x2], st, a, h) := Rn_icmpn c220_27 mc_ge rfl rfl
theorem c220_30 : mcode 220 30 = some (.iload_n 2, 1, 0, 0, 0) := rfl
theorem r220_30 : Rn 220 (30, [x0, x1, some (.int i)], st, a, h) = Rn 220 (31, [x0, x1, some (.int i)], .int i :: st, a, h) := Rn_go c220_30 rfl
theorem c220_31 : mcode 220 31 = some (.bipush 8, 2, 0, 0, 0) := rfl
theorem r220_31 : Rn 220 (31, [x0, x1, x2], st, a, h) = Rn 220 (33, [x0, x1, x2], .int (8 : Int32) :: st, a, h) := Rn_go c220_31 rfl
theorem c220_33 : mcode 220 33 = some (.if_icmp .ge 28, 3, 0, 0, 0) := rfl
theorem r220_33 : Rn 220 (33, [x0, x1, x2], .int j :: .int i :: st, a, h) = if i < j then Rn 220 (36, [x0, x1, x2], st, a, h) else Rn 220 (61, [x0, x1, x2], st, a, h) := Rn_icmpn c220_33 mc_ge rfl rfl
theorem c220_36 : mcode 220 36 = some (.aload_n 0, 1, 0, 0, 0) := rfl
theorem r220_36 : Rn 220 (36, [some (.ref q), x1, x2], st, a, h) = Rn 220 (37, [some (.ref q), x1, x2], .ref q :: st, a, h) := Rn_go c220_36 rfl
theorem c220_37 : mcode 220 37 = some (.getfield 34, 3, 6, 10, 0) := rfl
theorem r220_37 : Rn 220 (37, [x0, x1, x2], .ref q :: st, a, h) = Kv 220 40 [x0, x1, x2] st a h (mgf h q 6 10) := Rn_getf c220_37 rfl
theorem c220_40 : mcode 220 40 = some (.bipush 40, 2, 0, 0, 0) := rfl
theorem r220_40 : Rn 220 (40, [x0, x1, x2], st, a, h) = Rn 220 (42, [x0, x1, x2], .int (40 : Int32) :: st, a, h) := Rn_go c220_40 rfl
theorem c220_42 : mcode 220 42 = some (.iload_n 1, 1, 0, 0, 0) := rfl
theorem r220_42 : Rn 220 (42, [x0, some (.int i), x2], st, a, h) = Rn 220 (43, [x0, some (.int i), x2], .int i :: st, a, h) := Rn_go c220_42 rfl
theorem c220_43 : mcode 220 43 = some (.imul, 1, 0, 0, 0) := rfl
theorem r220_43 : Rn 220 (43, [x0, x1, x2], .int j :: .int i :: st, a, h) = Rn 220 (44, [x0, x1, x2], .int (i * j) :: st, a, h) := Rn_go c220_43 rfl
theorem c220_44 : mcode 220 44 = some (.iload_n 2, 1, 0, 0, 0) := rfl
theorem r220_44 : Rn 220 (44, [x0, x1, some (.int i)], st, a, h) = Rn 220 (45, [x0, x1, some (.int i)], .int i :: st, a, h) := Rn_go c220_44 rfl
theorem c220_45 : mcode 220 45 = some (.iadd, 1, 0, 0, 0) := rfl
theorem r220_45 : Rn 220 (45, [x0, x1, x2], .int j :: .int i :: st, a, h) = Rn 220 (46, [x0, x1, x2], .int (i + j) :: st, a, h) := Rn_go c220_45 rfl
theorem c220_46 : mcode 220 46 = some (.iaload, 1, 0, 0, 0) := rfl
theorem r220_46 : Rn 220 (46, [x0, x1, x2], .int i :: .ref q :: st, a, h) = Ki 220 47 [x0, x1, x2] st a h (mld h q i false) := Rn_iald c220_46 rfl
theorem c220_47 : mcode 220 47 = some (.aload_n 0, 1, 0, 0, 0) := rfl
theorem r220_47 : Rn 220 (47, [some (.ref q), x1, x2], st, a, h) = Rn 220 (48, [some (.ref q), x1, x2], .ref q :: st, a, h) := Rn_go c220_47 rfl
theorem c220_48 : mcode 220 48 = some (.iload_n 2, 1, 0, 0, 0) := rfl
theorem r220_48 : Rn 220 (48, [x0, x1, some (.int i)], st, a, h) = Rn 220 (49, [x0, x1, some (.int i)], .int i :: st, a, h) := Rn_go c220_48 rfl
theorem c220_49 : mcode 220 49 = some (.invokevirtual 68, 3, 138, 1, 6) := rfl
theorem r220_49 : Rn 220 (49, [x0, x1, x2], [v0, .ref q, .int i0], a, h) = if mis h q 6 = true then Bk 220 52 [x0, x1, x2] [.int i0] (Ec 138 [.ref q, v0] a h) else none := Rn_call1 c220_49 rfl (Nat.le_of_ble_eq_true rfl) rfl rfl (Nat.le_of_ble_eq_true rfl)
theorem c220_52 : mcode 220 52 = some (.if_icmp .ne 9, 3, 0, 0, 0) := rfl
theorem r220_52 : Rn 220 (52, [x0, x1, x2], .int j :: .int i :: st, a, h) = if i = j then Rn 220 (55, [x0, x1, x2], st, a, h) else Rn 220 (61, [x0, x1, x2], st, a, h) := Rn_icmpn c220_52 mc_ne rfl rfl
theorem c220_55 : mcode 220 55 = some (.iinc 2 1, 3, 0, 0, 0) := rfl
theorem r220_55 : Rn 220 (55, [x0, x1, some (.int i)], st, a, h) = Nl x1 (Rn 220 (58, [x0, x1, some (.int (i + (1 : Int32)))], st, a, h)) := Rn_st1 (k := 2) (v := .int (i + (1 : Int32))) x1 c220_55 rfl rfl rfl rfl
theorem c220_58 : mcode 220 58 = some (.goto (-38), 3, 0, 0, 0) := rfl
theorem r220_58 : Rn 220 (58, [x0, x1, x2], st, a, h) = Rn 220 (20, [x0, x1, x2], st, a, h) := Rn_goto c220_58 rfl
theorem c220_61 : mcode 220 61 = some (.iload_n 2, 1, 0, 0, 0) := rfl
theorem r220_61 : Rn 220 (61, [x0, x1, some (.int i)], st, a, h) = Rn 220 (62, [x0, x1, some (.int i)], .int i :: st, a, h) := Rn_go c220_61 rfl
theorem c220_62 : mcode 220 62 = some (.aload_n 0, 1, 0, 0, 0) := rfl
theorem r220_62 : Rn 220 (62, [some (.ref q), x1, x2], st, a, h) = Rn 220 (63, [some (.ref q), x1, x2], .ref q :: st, a, h) := Rn_go c220_62 rfl
theorem c220_63 : mcode 220 63 = some (.getfield 31, 3, 6, 9, 0) := rfl
theorem r220_63 : Rn 220 (63, [x0, x1, x2], .ref q :: st, a, h) = Kv 220 66 [x0, x1, x2] st a h (mgf h q 6 9) := Rn_getf c220_63 rfl
theorem c220_66 : mcode 220 66 = some (.iload_n 1, 1, 0, 0, 0) := rfl
theorem r220_66 : Rn 220 (66, [x0, some (.int i), x2], st, a, h) = Rn 220 (67, [x0, some (.int i), x2], .int i :: st, a, h) := Rn_go c220_66 rfl
theorem c220_67 : mcode 220 67 = some (.iaload, 1, 0, 0, 0) := rfl
theorem r220_67 : Rn 220 (67, [x0, x1, x2], .int i :: .ref q :: st, a, h) = Ki 220 68 [x0, x1, x2] st a h (mld h q i false) := Rn_iald c220_67 rfl
theorem c220_68 : mcode 220 68 = some (.if_icmp .ge 9, 3, 0, 0, 0) := rfl
theorem r220_68 : Rn 220 (68, [x0, x1, x2], .int j :: .int i :: st, a, h) = if i < j then Rn 220 (71, [x0, x1, x2], st, a, h) else Rn 220 (77, [x0, x1, x2], st, a, h) := Rn_icmpn c220_68 mc_ge rfl rfl
theorem c220_71 : mcode 220 71 = some (.iconst 1, 1, 0, 0, 0) := rfl
theorem r220_71 : Rn 220 (71, [x0, x1, x2], st, a, h) = Rn 220 (72, [x0, x1, x2], .int (1 : Int32) :: st, a, h) := Rn_go c220_71 rfl
theorem c220_72 : mcode 220 72 = some (.iload_n 2, 1, 0, 0, 0) := rfl
theorem r220_72 : Rn 220 (72, [x0, x1, some (.int i)], st, a, h) = Rn 220 (73, [x0, x1, some (.int i)], .int i :: st, a, h) := Rn_go c220_72 rfl
theorem c220_73 : mcode 220 73 = some (.iadd, 1, 0, 0, 0) := rfl
theorem r220_73 : Rn 220 (73, [x0, x1, x2], .int j :: .int i :: st, a, h) = Rn 220 (74, [x0, x1, x2], .int (i + j) :: st, a, h) := Rn_go c220_73 rfl
theorem c220_74 : mcode 220 74 = some (.goto 4, 3, 0, 0, 0) := rfl
theorem r220_74 : Rn 220 (74, [x0, x1, x2], st, a, h) = Rn 220 (78, [x0, x1, x2], st, a, h) := Rn_goto c220_74 rfl
theorem c220_77 : mcode 220 77 = some (.iconst 0, 1, 0, 0, 0) := rfl
theorem r220_77 : Rn 220 (77, [x0, x1, x2], st, a, h) = Rn 220 (78, [x0, x1, x2], .int (0 : Int32) :: st, a, h) := Rn_go c220_77 rfl
theorem c220_78 : mcode 220 78 = some (.ireturn, 1, 0, 0, 0) := rfl
theorem r220_78 : Rn 220 (78, [x0, x1, x2], [.int i], a, h) = some (some (.int i), a, h) := Rn_ireti c220_78
theorem c221_0 : mcode 221 0 = some (.aload_n 0, 1, 0, 0, 0) := rfl
theorem r221_0 : Rn 221 (0, [some (.ref q)], st, a, h) = Rn 221 (1, [some (.ref q)], .ref q :: st, a, h) := Rn_go c221_0 rfl
theorem c221_1 : mcode 221 1 = some (.getfield 7, 3, 6, 0, 0) := rfl
theorem r221_1 : Rn 221 (1, [x0], .ref q :: st, a, h) = Kv 221 4 [x0] st a h (mgf h q 6 0) := Rn_getf c221_1 rfl
theorem c221_4 : mcode 221 4 = some (.aload_n 0, 1, 0, 0, 0) := rfl
theorem r221_4 : Rn 221 (4, [some (.ref q)], st, a, h) = Rn 221 (5, [some (.ref q)], .ref q :: st, a, h) := Rn_go c221_4 rfl
theorem c221_5 : mcode 221 5 = some (.getfield 13, 3, 6, 1, 0) := rfl
theorem r221_5 : Rn 221 (5, [x0], .ref q :: st, a, h) = Kv 221 8 [x0] st a h (mgf h q 6 1) := Rn_getf c221_5 rfl
theorem c221_8 : mcode 221 8 = some (.invokestatic 157, 3, 126, 2, 0) := rfl
theorem r221_8 : Rn 221 (8, [x0], [v1, v0], a, h) = Bk 221 11 [x0] [] (Ec 126 [v0, v1] a h) := Rn_call0 c221_8 (fun z => nomatch z) rfl (Nat.le_of_ble_eq_true rfl) rfl rfl (Nat.le_of_ble_eq_true rfl)
theorem c221_11 : mcode 221 11 = some (.aload_n 0, 1, 0, 0, 0) := rfl
theorem r221_11 : Rn 221 (11, [some (.ref q)], st, a, h) = Rn 221 (12, [some (.ref q)], .ref q :: st, a, h) := Rn_go c221_11 rfl
theorem c221_12 : mcode 221 12 = some (.iconst 1, 1, 0, 0, 0) := rfl
theorem r221_12 : Rn 221 (12, [x0], st, a, h) = Rn 221 (13, [x0], .int (1 : Int32) :: st, a, h) := Rn_go c221_12 rfl
theorem c221_13 : mcode 221 13 = some (.putfield 295, 3, 6, 4, 1) := rfl
theorem r221_13 : Rn 221 (13, [x0], .int i :: .ref q :: st, a, h) = if mok 1 (.int i) = true then Kh 221 16 [x0] st a (mpf h q 6 4 (.int i)) else none := Rn_putf c221_13 rfl rfl
theorem c221_16 : mcode 221 16 = some (.iconst 1, 1, 0, 0, 0) := rfl
theorem r221_16 : Rn 221 (16, [x0], st, a, h) = Rn 221 (17, [x0], .int (1 : Int32) :: st, a, h) := Rn_go c221_16 rfl
theorem c221_17 : mcode 221 17 = some (.ireturn, 1, 0, 0, 0) := rfl
theorem r221_17 : Rn 221 (17, [x0], [.int i], a, h) = some (some (.int i), a, h) := Rn_ireti c221_17
theorem c222_0 : mcode 222 0 = some (.aload_n 0, 1, 0, 0, 0) := rfl
theorem r222_0 : Rn 222 (0, [some (.ref q)], st, a, h) = Rn 222 (1, [some (.ref q)], .ref q :: st, a, h) := Rn_go c222_0 rfl
theorem c222_1 : mcode 222 1 = some (.getfield 295, 3, 6, 4, 0) := rfl
theorem r222_1 : Rn 222 (1, [x0], .ref q :: st, a, h) = Kv 222 4 [x0] st a h (mgf h q 6 4) := Rn_getf c222_1 rfl
theorem c222_4 : mcode 222 4 = some (.ifCond .ne 10, 3, 0, 0, 0) := rfl
theorem r222_4 : Rn 222 (4, [x0], .int i :: st, a, h) = if i = 0 then Rn 222 (7, [x0], st, a, h) else Rn 222 (14, [x0], st, a, h) := Rn_ifcn c222_4 mc_ne rfl rfl
theorem c222_7 : mcode 222 7 = some (.aload_n 0, 1, 0, 0, 0) := rfl
theorem r222_7 : Rn 222 (7, [some (.ref q)], st, a, h) = Rn 222 (8, [some (.ref q)], .ref q :: st, a, h) := Rn_go c222_7 rfl
theorem c222_8 : mcode 222 8 = some (.ldc 38, 2, 0, 0, -1000004) := rfl
theorem r222_8 : Rn 222 (8, [x0], st, a, h) = Rn 222 (10, [x0], .int (-1000004 : Int32) :: st, a, h) := Rn_go c222_8 rfl
theorem c222_10 : mcode 222 10 = some (.invokevirtual 39, 3, 124, 1, 6) := rfl
theorem r222_10 : Rn 222 (10, [x0], [v0, .ref q], a, h) = if mis h q 6 = true then Bk 222 13 [x0] [] (Ec 124 [.ref q, v0] a h) else none := Rn_call1 c222_10 rfl (Nat.le_of_ble_eq_true rfl) rfl rfl (Nat.le_of_ble_eq_true rfl)
theorem c222_13 : mcode 222 13 = some (.ireturn, 1, 0, 0, 0) := rfl
theorem r222_13 : Rn 222 (13, [x0], [.int i], a, h) = some (some (.int i), a, h) := Rn_ireti c222_13
theorem c222_14 : mcode 222 14 = some (.aload_n 0, 1, 0, 0, 0) := rfl
theorem r222_14 : Rn 222 (14, [some (.ref q)], st, a, h) = Rn 222 (15, [some (.ref q)], .ref q :: st, a, h) := Rn_go c222_14 rfl
theorem c222_15 : mcode 222 15 = some (.getfield 13, 3, 6, 1, 0) := rfl
theorem r222_15 : Rn 222 (15, [x0], .ref q :: st, a, h) = Kv 222 18 [x0] st a h (mgf h q 6 1) := Rn_getf c222_15 rfl
theorem c222_18 : mcode 222 18 = some (.aload_n 0, 1, 0, 0, 0) := rfl
theorem r222_18 : Rn 222 (18, [some (.ref q)], st, a, h) = Rn 222 (19, [some (.ref q)], .ref q :: st, a, h) := Rn_go c222_18 rfl
theorem c222_19 : mcode 222 19 = some (.getfield 7, 3, 6, 0, 0) := rfl
theorem r222_19 : Rn 222 (19, [x0], .ref q :: st, a, h) = Kv 222 22 [x0] st a h (mgf h q 6 0) := Rn_getf c222_19 rfl
theorem c222_22 : mcode 222 22 = some (.invokestatic 157, 3, 126, 2, 0) := rfl
theorem r222_22 : Rn 222 (22, [x0], [v1, v0], a, h) = Bk 222 25 [x0] [] (Ec 126 [v0, v1] a h) := Rn_call0 c222_22 (fun z => nomatch z) rfl (Nat.le_of_ble_eq_true rfl) rfl rfl (Nat.le_of_ble_eq_true rfl)
theorem c222_25 : mcode 222 25 = some (.aload_n 0, 1, 0, 0, 0) := rfl
theorem r222_25 : Rn 222 (25, [some (.ref q)], st, a, h) = Rn 222 (26, [some (.ref q)], .ref q :: st, a, h) := Rn_go c222_25 rfl
theorem c222_26 : mcode 222 26 = some (.getfield 7, 3, 6, 0, 0) := rfl
theorem r222_26 : Rn 222 (26, [x0], .ref q :: st, a, h) = Kv 222 29 [x0] st a h (mgf h q 6 0) := Rn_getf c222_26 rfl
theorem c222_29 : mcode 222 29 = some (.iconst 1, 1, 0, 0, 0) := rfl
theorem r222_29 : Rn 222 (29, [x0], st, a, h) = Rn 222 (30, [x0], .int (1 : Int32) :: st, a, h) := Rn_go c222_29 rfl
theorem c222_30 : mcode 222 30 = some (.iaload, 1, 0, 0, 0) := rfl
theorem r222_30 : Rn 222 (30, [x0], .int i :: .ref q :: st, a, h) = Ki 222 31 [x0] st a h (mld h q i false) := Rn_iald c222_30 rfl
theorem c222_31 : mcode 222 31 = some (.ireturn, 1, 0, 0, 0) := rfl
theorem r222_31 : Rn 222 (31, [x0], [.int i], a, h) = some (some (.int i), a, h) := Rn_ireti c222_31
theorem c223_0 : mcode 223 0 = some (.aload_n 0, 1, 0, 0, 0) := rfl
theorem r223_0 : Rn 223 (0, [some (.ref q), x1], st, a, h) = Rn 223 (1, [some (.ref q), x1], .ref q :: st, a, h) := Rn_go c223_0 rfl
theorem c223_1 : mcode 223 1 = some (.getfield 295, 3, 6, 4, 0) := rfl
theorem r223_1 : Rn 223 (1, [x0, x1], .ref q :: st, a, h) = Kv 223 4 [x0, x1] st a h (mgf h q 6 4) := Rn_getf c223_1 rfl
theorem c223_4 : mcode 223 4 = some (.istore_n 1, 1, 0, 0, 0) := rfl
theorem r223_4 : Rn 223 (4, [x0, x1], .int i :: st, a, h) = Nl x0 (Rn 223 (5, [x0, some (.int i)], st, a, h)) := Rn_st1 (k := 1) (v := .int i) x0 c223_4 rfl rfl rfl rfl
theorem c223_5 : mcode 223 5 = some (.aload_n 0, 1, 0, 0, 0) := rfl
theorem r223_5 : Rn 223 (5, [some (.ref q), x1], st, a, h) = Rn 223 (6, [some (.ref q), x1], .ref q :: st, a, h) := Rn_go c223_5 rfl
theorem c223_6 : mcode 223 6 = some (.iconst 0, 1, 0, 0, 0) := rfl
theorem r223_6 : Rn 223 (6, [x0, x1], st, a, h) = Rn 223 (7, [x0, x1], .int (0 : Int32) :: st, a, h) := Rn_go c223_6 rfl
theorem c223_7 : mcode 223 7 = some (.putfield 295, 3, 6, 4, 1) := rfl
theorem r223_7 : Rn 223 (7, [x0, x1], .int i :: .ref q :: st, a, h) = if mok 1 (.int i) = true then Kh 223 10 [x0, x1] st a (mpf h q 6 4 (.int i)) else none := Rn_putf c223_7 rfl rfl
theorem c223_10 : mcode 223 10 = some (.iload_n 1, 1, 0, 0, 0) := rfl
theorem r223_10 : Rn 223 (10, [x0, some (.int i)], st, a, h) = Rn 223 (11, [x0, some (.int i)], .int i :: st, a, h) := Rn_go c223_10 rfl
theorem c223_11 : mcode 223 11 = some (.ifCond .eq 7, 3, 0, 0, 0) := rfl
theorem r223_11 : Rn 223 (11, [x0, x1], .int i :: st, a, h) = if i = 0 then Rn 223 (18, [x0, x1], st, a, h) else Rn 223 (14, [x0, x1], st, a, h) := Rn_ifc c223_11 mc_eq rfl rfl
theorem c223_14 : mcode 223 14 = some (.iconst 1, 1, 0, 0, 0) := rfl
theorem r223_14 : Rn 223 (14, [x0, x1], st, a, h) = Rn 223 (15, [x0, x1], .int (1 : Int32) :: st, a, h) := Rn_go c223_14 rfl
theorem c223_15 : mcode 223 15 = some (.goto 4, 3, 0, 0, 0) := rfl
theorem r223_15 : Rn 223 (15, [x0, x1], st, a, h) = Rn 223 (19, [x0, x1], st, a, h) := Rn_goto c223_15 rfl
theorem c223_18 : mcode 223 18 = some (.iconst 0, 1, 0, 0, 0) := rfl
theorem r223_18 : Rn 223 (18, [x0, x1], st, a, h) = Rn 223 (19, [x0, x1], .int (0 : Int32) :: st, a, h) := Rn_go c223_18 rfl
theorem c223_19 : mcode 223 19 = some (.ireturn, 1, 0, 0, 0) := rfl
theorem r223_19 : Rn 223 (19, [x0, x1], [.int i], a, h) = some (some (.int i), a, h) := Rn_ireti c223_19
theorem c224_0 : mcode 224 0 = some (.iconst 0, 1, 0, 0, 0) := rfl
theorem r224_0 : Rn 224 (0, [x0, x1, x2, x3], st, a, h) = Rn 224 (1, [x0, x1, x2, x3], .int (0 : Int32) :: st, a, h) := Rn_go c224_0 rfl
theorem c224_1 : mcode 224 1 = some (.istore_n 2, 1, 0, 0, 0) := rfl
theorem r224_1 : Rn 224 (1, [x0, x1, x2, x3], .int i :: st, a, h) = Nl x1 (Rn 224 (2, [x0, x1, some (.int i), x3], st, a, h)) := Rn_st1 (k := 2) (v := .int i) x1 c224_1 rfl rfl rfl rfl
theorem c224_2 : mcode 224 2 = some (.iload_n 1, 1, 0, 0, 0) := rfl
theorem r224_2 : Rn 224 (2, [x0, some (.int i), x2, x3], st, a, h) = Rn 224 (3, [x0, some (.int i), x2, x3], .int i :: st, a, h) := Rn_go c224_2 rfl
theorem c224_3 : mcode 224 3 = some (.tableswitch 124 0 7 #[45, 52, 59, 65, 71, 76, 81, 88], 45, 0, 0, 0) := rfl
theorem r224_3_0 : Rn 224 (3, [x0, x1, x2, x3], .int (0 : Int32) :: st, a, h) = Rn 224 (48, [x0, x1, x2, x3], st, a, h) := Rn_swAt c224_3 rfl rfl
theorem r224_3_1 : Rn 224 (3, [x0, x1, x2, x3], .int (1 : Int32) :: st, a, h) = Rn 224 (55, [x0, x1, x2, x3], st, a, h) := Rn_swAt c224_3 rfl rfl
theorem r224_3_2 : Rn 224 (3, [x0, x1, x2, x3], .int (2 : Int32) :: st, a, h) = Rn 224 (62, [x0, x1, x2, x3], st, a, h) := Rn_swAt c224_3 rfl rfl
theorem r224_3_3 : Rn 224 (3, [x0, x1, x2, x3], .int (3 : Int32) :: st, a, h) = Rn 224 (68, [x0, x1, x2, x3], st, a, h) := Rn_swAt c224_3 rfl rfl
theorem r224_3_4 : Rn 224 (3, [x0, x1, x2, x3], .int (4 : Int32) :: st, a, h) = Rn 224 (74, [x0, x1, x2, x3], st, a, h) := Rn_swAt c224_3 rfl rfl
theorem r224_3_5 : Rn 224 (3, [x0, x1, x2, x3], .int (5 : Int32) :: st, a, h) = Rn 224 (79, [x0, x1, x2, x3], st, a, h) := Rn_swAt c224_3 rfl rfl
theorem r224_3_6 : Rn 224 (3, [x0, x1, x2, x3], .int (6 : Int32) :: st, a, h) = Rn 224 (84, [x0, x1, x2, x3], st, a, h) := Rn_swAt c224_3 rfl rfl
theorem r224_3_7 : Rn 224 (3, [x0, x1, x2, x3], .int (7 : Int32) :: st, a, h) = Rn 224 (91, [x0, x1, x2, x3], st, a, h) := Rn_swAt c224_3 rfl rfl
theorem r224_3_d (hi : i.toInt < 0 ∨ 7 < i.toInt) : Rn 224 (3, [x0, x1, x2, x3], .int i :: st, a, h) = Rn 224 (127, [x0, x1, x2, x3], st, a, h) := Rn_swAt c224_3 (if_pos hi) rfl
theorem c224_48 : mcode 224 48 = some (.aload_n 0, 1, 0, 0, 0) := rfl
theorem r224_48 : Rn 224 (48, [some (.ref q), x1, x2, x3], st, a, h) = Rn 224 (49, [some (.ref q), x1, x2, x3], .ref q :: st, a, h) := Rn_go c224_48 rfl
theorem c224_49 : mcode 224 49 = some (.getfield 7, 3, 6, 0, 0) := rfl
theorem r224_49 : Rn 224 (49, [x0, x1, x2, x3], .ref q :: st, a, h) = Kv 224 52 [x0, x1, x2, x3] st a h (mgf h q 6 0) := Rn_getf c224_49 rfl
theorem c224_52 : mcode 224 52 = some (.iconst 1, 1, 0, 0, 0) := rfl
theorem r224_52 : Rn 224 (52, [x0, x1, x2, x3], st, a, h) = Rn 224 (53, [x0, x1, x2, x3], .int (1 : Int32) :: st, a, h) := Rn_go c224_52 rfl
theorem c224_53 : mcode 224 53 = some (.iaload, 1, 0, 0, 0) := rfl
theorem r224_53 : Rn 224 (53, [x0, x1, x2, x3], .int i :: .ref q :: st, a, h) = Ki 224 54 [x0, x1, x2, x3] st a h (mld h q i false) := Rn_iald c224_53 rfl
theorem c224_54 : mcode 224 54 = some (.ireturn, 1, 0, 0, 0) := rfl
theorem r224_54 : Rn 224 (54, [x0, x1, x2, x3], [.int i], a, h) = some (some (.int i), a, h) := Rn_ireti c224_54
theorem c224_55 : mcode 224 55 = some (.aload_n 0, 1, 0, 0, 0) := rfl
theorem r224_55 : Rn 224 (55, [some (.ref q), x1, x2, x3], st, a, h) = Rn 224 (56, [some (.ref q), x1, x2, x3], .ref q :: st, a, h) := Rn_go c224_55 rfl
theorem c224_56 : mcode 224 56 = some (.getfield 7, 3, 6, 0, 0) := rfl
theorem r224_56 : Rn 224 (56, [x0, x1, x2, x3], .ref q :: st, a, h) = Kv 224 59 [x0, x1, x2, x3] st a h (mgf h q 6 0) := Rn_getf c224_56 rfl
theorem c224_59 : mcode 224 59 = some (.iconst 0, 1, 0, 0, 0) := rfl
theorem r224_59 : Rn 224 (59, [x0, x1, x2, x3], st, a, h) = Rn 224 (60, [x0, x1, x2, x3], .int (0 : Int32) :: st, a, h) := Rn_go c224_59 rfl
theorem c224_60 : mcode 224 60 = some (.iaload, 1, 0, 0, 0) := rfl
theorem r224_60 : Rn 224 (60, [x0, x1, x2, x3], .int i :: .ref q :: st, a, h) = Ki 224 61 [x0, x1, x2, x3] st a h (mld h q i false) := Rn_iald c224_60 rfl
theorem c224_61 : mcode 224 61 = some (.ireturn, 1, 0, 0, 0) := rfl
theorem r224_61 : Rn 224 (61, [x0, x1, x2, x3], [.int i], a, h) = some (some (.int i), a, h) := Rn_ireti c224_61
theorem c224_62 : mcode 224 62 = some (.aload_n 0, 1, 0, 0, 0) := rfl
theorem r224_62 : Rn 224 (62, [some (.ref q), x1, x2, x3], st, a, h) = Rn 224 (63, [some (.ref q), x1, x2, x3], .ref q :: st, a, h) := Rn_go c224_62 rfl
theorem c224_63 : mcode 224 63 = some (.iconst 3, 1, 0, 0, 0) := rfl
theorem r224_63 : Rn 224 (63, [x0, x1, x2, x3], st, a, h) = Rn 224 (64, [x0, x1, x2, x3], .int (3 : Int32) :: st, a, h) := Rn_go c224_63 rfl
theorem c224_64 : mcode 224 64 = some (.invokevirtual 148, 3, 160, 1, 6) := rfl
theorem r224_64 : Rn 224 (64, [x0, x1, x2, x3], [v0, .ref q], a, h) = if mis h q 6 = true then Bk 224 67 [x0, x1, x2, x3] [] (Ec 160 [.ref q, v0] a h) else none := Rn_call1 c224_64 rfl (Nat.le_of_ble_eq_true rfl) rfl rfl (Nat.le_of_ble_eq_true rfl)
theorem c224_67 : mcode 224 67 = some (.ireturn, 1, 0, 0, 0) := rfl
theorem r224_67 : Rn 224 (67, [x0, x1, x2, x3], [.int i], a, h) = some (some (.int i), a, h) := Rn_ireti c224_67
theorem c224_68 : mcode 224 68 = some (.aload_n 0, 1, 0, 0, 0) := rfl
theorem r224_68 : Rn 224 (68, [some (.ref q), x1, x2, x3], st, a, h) = Rn 224 (69, [some (.ref q), x1, x2, x3], .ref q :: st, a, h) := Rn_go c224_68 rfl
theorem c224_69 : mcode 224 69 = some (.iconst 5, 1, 0, 0, 0) := rfl
theorem r224_69 : Rn 224 (69, [x0, x1, x2, x3], st, a, h) = Rn 224 (70, [x0, x1, x2, x3], .int (5 : Int32) :: st, a, h) := Rn_go c224_69 rfl
theorem c224_70 : mcode 224 70 = some (.invokevirtual 148, 3, 160, 1, 6) := rfl
theorem r224_70 : Rn 224 (70, [x0, x1, x2, x3], [v0, .ref q], a, h) = if mis h q 6 = true then Bk 224 73 [x0, x1, x2, x3] [] (Ec 160 [.ref q, v0] a h) else none := Rn_call1 c224_70 rfl (Nat.le_of_ble_eq_true rfl) rfl rfl (Nat.le_of_ble_eq_true rfl)
theorem c224_73 : mcode 224 73 = some (.ireturn, 1, 0, 0, 0) := rfl
theorem r224_73 : Rn 224 (73, [x0, x1, x2, x3], [.int i], a, h) = some (some (.int i), a, h) := Rn_ireti c224_73
theorem c224_74 : mcode 224 74 = some (.aload_n 0, 1, 0, 0, 0) := rfl
theorem r224_74 : Rn 224 (74, [some (.ref q), x1, x2, x3], st, a, h) = Rn 224 (75, [some (.ref q), x1, x2, x3], .ref q :: st, a, h) := Rn_go c224_74 rfl
theorem c224_75 : mcode 224 75 = some (.invokevirtual 141, 3, 159, 0, 6) := rfl
theorem r224_75 : Rn 224 (75, [x0, x1, x2, x3], [.ref q], a, h) = if mis h q 6 = true then Bk 224 78 [x0, x1, x2, x3] [] (Ec 159 [.ref q] a h) else none := Rn_call1 c224_75 rfl (Nat.le_of_ble_eq_true rfl) rfl rfl (Nat.le_of_ble_eq_true rfl)
theorem c224_78 : mcode 224 78 = some (.ireturn, 1, 0, 0, 0) := rfl
theorem r224_78 : Rn 224 (78, [x0, x1, x2, x3], [.int i], a, h) = some (some (.int i), a, h) := Rn_ireti c224_78
theorem c224_79 : mcode 224 79 = some (.aload_n 0, 1, 0, 0, 0) := rfl
theorem r224_79 : Rn 224 (79, [some (.ref q), x1, x2, x3], st, a, h) = Rn 224 (80, [some (.ref q), x1, x2, x3], .ref q :: st, a, h) := Rn_go c224_79 rfl
theorem c224_80 : mcode 224 80 = some (.getfield 213, 3, 6, 7, 0) := rfl
theorem r224_80 : Rn 224 (80, [x0, x1, x2, x3], .ref q :: st, a, h) = Kv 224 83 [x0, x1, x2, x3] st a h (mgf h q 6 7) := Rn_getf c224_80 rfl
theorem c224_83 : mcode 224 83 = some (.ireturn, 1, 0, 0, 0) := rfl
theorem r224_83 : Rn 224 (83, [x0, x1, x2, x3], [.int i], a, h) = some (some (.int i), a, h) := Rn_ireti c224_83
theorem c224_84 : mcode 224 84 = some (.aload_n 0, 1, 0, 0, 0) := rfl
theorem r224_84 : Rn 224 (84, [some (.ref q), x1, x2, x3], st, a, h) = Rn 224 (85, [some (.ref q), x1, x2, x3], .ref q :: st, a, h) := Rn_go c224_84 rfl
theorem c224_85 : mcode 224 85 = some (.getfield 7, 3, 6, 0, 0) := rfl
theorem r224_85 : Rn 224 (85, [x0, x1, x2, x3], .ref q :: st, a, h) = Kv 224 88 [x0, x1, x2, x3] st a h (mgf h q 6 0) := Rn_getf c224_85 rfl
theorem c224_88 : mcode 224 88 = some (.iconst 2, 1, 0, 0, 0) := rfl
theorem r224_88 : Rn 224 (88, [x0, x1, x2, x3], st, a, h) = Rn 224 (89, [x0, x1, x2, x3], .int (2 : Int32) :: st, a, h) := Rn_go c224_88 rfl
theorem c224_89 : mcode 224 89 = some (.iaload, 1, 0, 0, 0) := rfl
theorem r224_89 : Rn 224 (89, [x0, x1, x2, x3], .int i :: .ref q :: st, a, h) = Ki 224 90 [x0, x1, x2, x3] st a h (mld h q i false) := Rn_iald c224_89 rfl
theorem c224_90 : mcode 224 90 = some (.ireturn, 1, 0, 0, 0) := rfl
theorem r224_90 : Rn 224 (90, [x0, x1, x2, x3], [.int i], a, h) = some (some (.int i), a, h) := Rn_ireti c224_90
theorem c224_91 : mcode 224 91 = some (.iconst 0, 1, 0, 0, 0) := rfl
theorem r224_91 : Rn 224 (91, [x0, x1, x2, x3], st, a, h) = Rn 224 (92, [x0, x1, x2, x3], .int (0 : Int32) :: st, a, h) := Rn_go c224_91 rfl
theorem c224_92 : mcode 224 92 = some (.istore_n 3, 1, 0, 0, 0) := rfl
theorem r224_92 : Rn 224 (92, [x0, x1, x2, x3], .int i :: st, a, h) = Nl x2 (Rn 224 (93, [x0, x1, x2, some (.int i)], st, a, h)) := Rn_st1 (k := 3) (v := .int i) x2 c224_92 rfl rfl rfl rfl
theorem c224_93 : mcode 224 93 = some (.iload_n 3, 1, 0, 0, 0) := rfl
theorem r224_93 : Rn 224 (93, [x0, x1, x2, some (.int i)], st, a, h) = Rn 224 (94, [x0, x1, x2, some (.int i)], .int i :: st, a, h) := Rn_go c224_93 rfl
theorem c224_94 : mcode 224 94 = some (.bipush 10, 2, 0, 0, 0) := rfl
theorem r224_94 : Rn 224 (94, [x0, x1, x2, x3], st, a, h) = Rn 224 (96, [x0, x1, x2, x3], .int (10 : Int32) :: st, a, h) := Rn_go c224_94 rfl
theorem c224_96 : mcode 224 96 = some (.if_icmp .ge 29, 3, 0, 0, 0) := rfl
theorem r224_96 : Rn 224 (96, [x0, x1, x2, x3], .int j :: .int i :: st, a, h) = if i < j then Rn 224 (99, [x0, x1, x2, x3], st, a, h) else Rn 224 (125, [x0, x1, x2, x3], st, a, h) := Rn_icmpn c224_96 mc_ge rfl rfl
theorem c224_99 : mcode 224 99 = some (.iload_n 2, 1, 0, 0, 0) := rfl
theorem r224_99 : Rn 224 (99, [x0, x1, some (.int i), x3], st, a, h) = Rn 224 (100, [x0, x1, some (.int i), x3], .int i :: st, a, h) := Rn_go c224_99 rfl
theorem c224_100 : mcode 224 100 = some (.aload_n 0, 1, 0, 0, 0) := rfl
theorem r224_100 : Rn 224 (100, [some (.ref q), x1, x2, x3], st, a, h) = Rn 224 (101, [some (.ref q), x1, x2, x3], .ref q :: st, a, h) := Rn_go c224_100 rfl
theorem c224_101 : mcode 224 101 = some (.getfield 7, 3, 6, 0, 0) := rfl
theorem r224_101 : Rn 224 (101, [x0, x1, x2, x3], .ref q :: st, a, h) = Kv 224 104 [x0, x1, x2, x3] st a h (mgf h q 6 0) := Rn_getf c224_101 rfl
theorem c224_104 : mcode 224 104 = some (.bipush 76, 2, 0, 0, 0) := rfl
theorem r224_104 : Rn 224 (104, [x0, x1, x2, x3], st, a, h) = Rn 224 (106, [x0, x1, x2, x3], .int (76 : Int32) :: st, a, h) := Rn_go c224_104 rfl
theorem c224_106 : mcode 224 106 = some (.iload_n 3, 1, 0, 0, 0) := rfl
theorem r224_106 : Rn 224 (106, [x0, x1, x2, some (.int i)], st, a, h) = Rn 224 (107, [x0, x1, x2, some (.int i)], .int i :: st, a, h) := Rn_go c224_106 rfl
theorem c224_107 : mcode 224 107 = some (.iadd, 1, 0, 0, 0) := rfl
theorem r224_107 : Rn 224 (107, [x0, x1, x2, x3], .int j :: .int i :: st, a, h) = Rn 224 (108, [x0, x1, x2, x3], .int (i + j) :: st, a, h) := Rn_go c224_107 rfl
theorem c224_108 : mcode 224 108 = some (.iaload, 1, 0, 0, 0) := rfl
theorem r224_108 : Rn 224 (108, [x0, x1, x2, x3], .int i :: .ref q :: st, a, h) = Ki 224 109 [x0, x1, x2, x3] st a h (mld h q i false) := Rn_iald c224_108 rfl
theorem c224_109 : mcode 224 109 = some (.ifCond .ge 7, 3, 0, 0, 0) := rfl
theorem r224_109 : Rn 224 (109, [x0, x1, x2, x3], .int i :: st, a, h) = if i < 0 then Rn 224 (112, [x0, x1, x2, x3], st, a, h) else Rn 224 (116, [x0, x1, x2, x3], st, a, h) := Rn_ifcn c224_109 mc_ge rfl rfl
theorem c224_112 : mcode 224 112 = some (.iconst 0, 1, 0, 0, 0) := rfl
theorem r224_112 : Rn 224 (112, [x0, x1, x2, x3], st, a, h) = Rn 224 (113, [x0, x1, x2, x3], .int (0 : Int32) :: st, a, h) := Rn_go c224_112 rfl
theorem c224_113 : mcode 224 113 = some (.goto 4, 3, 0, 0, 0) := rfl
theorem r224_113 : Rn 224 (113, [x0, x1, x2, x3], st, a, h) = Rn 224 (117, [x0, x1, x2, x3], st, a, h) := Rn_goto c224_113 rfl
theorem c224_116 : mcode 224 116 = some (.iconst 1, 1, 0, 0, 0) := rfl
theorem r224_116 : Rn 224 (116, [x0, x1, x2, x3], st, a, h) = Rn 224 (117, [x0, x1, x2, x3], .int (1 : Int32) :: st, a, h) := Rn_go c224_116 rfl
theorem c224_117 : mcode 224 117 = some (.iadd, 1, 0, 0, 0) := rfl
theorem r224_117 : Rn 224 (117, [x0, x1, x2, x3], .int j :: .int i :: st, a, h) = Rn 224 (118, [x0, x1, x2, x3], .int (i + j) :: st, a, h) := Rn_go c224_117 rfl
theorem c224_118 : mcode 224 118 = some (.istore_n 2, 1, 0, 0, 0) := rfl
theorem r224_118 : Rn 224 (118, [x0, x1, x2, x3], .int i :: st, a, h) = Nl x1 (Rn 224 (119, [x0, x1, some (.int i), x3], st, a, h)) := Rn_st1 (k := 2) (v := .int i) x1 c224_118 rfl rfl rfl rfl
theorem c224_119 : mcode 224 119 = some (.iinc 3 1, 3, 0, 0, 0) := rfl
theorem r224_119 : Rn 224 (119, [x0, x1, x2, some (.int i)], st, a, h) = Nl x2 (Rn 224 (122, [x0, x1, x2, some (.int (i + (1 : Int32)))], st, a, h)) := Rn_st1 (k := 3) (v := .int (i + (1 : Int32))) x2 c224_119 rfl rfl rfl rfl
theorem c224_122 : mcode 224 122 = some (.goto (-29), 3, 0, 0, 0) := rfl
theorem r224_122 : Rn 224 (122, [x0, x1, x2, x3], st, a, h) = Rn 224 (93, [x0, x1, x2, x3], st, a, h) := Rn_goto c224_122 rfl
theorem c224_125 : mcode 224 125 = some (.iload_n 2, 1, 0, 0, 0) := rfl
theorem r224_125 : Rn 224 (125, [x0, x1, some (.int i), x3], st, a, h) = Rn 224 (126, [x0, x1, some (.int i), x3], .int i :: st, a, h) := Rn_go c224_125 rfl
theorem c224_126 : mcode 224 126 = some (.ireturn, 1, 0, 0, 0) := rfl
theorem r224_126 : Rn 224 (126, [x0, x1, x2, x3], [.int i], a, h) = some (some (.int i), a, h) := Rn_ireti c224_126
theorem c224_127 : mcode 224 127 = some (.aload_n 0, 1, 0, 0, 0) := rfl
theorem r224_127 : Rn 224 (127, [some (.ref q), x1, x2, x3], st, a, h) = Rn 224 (128, [some (.ref q), x1, x2, x3], .ref q :: st, a, h) := Rn_go c224_127 rfl
theorem c224_128 : mcode 224 128 = some (.ldc 37, 2, 0, 0, -1000001) := rfl
theorem r224_128 : Rn 224 (128, [x0, x1, x2, x3], st, a, h) = Rn 224 (130, [x0, x1, x2, x3], .int (-1000001 : Int32) :: st, a, h) := Rn_go c224_128 rfl
theorem c224_130 : mcode 224 130 = some (.invokevirtual 39, 3, 124, 1, 6) := rfl
theorem r224_130 : Rn 224 (130, [x0, x1, x2, x3], [v0, .ref q], a, h) = if mis h q 6 = true then Bk 224 133 [x0, x1, x2, x3] [] (Ec 124 [.ref q, v0] a h) else none := Rn_call1 c224_130 rfl (Nat.le_of_ble_eq_true rfl) rfl rfl (Nat.le_of_ble_eq_true rfl)
theorem c224_133 : mcode 224 133 = some (.ireturn, 1, 0, 0, 0) := rfl
theorem r224_133 : Rn 224 (133, [x0, x1, x2, x3], [.int i], a, h) = some (some (.int i), a, h) := Rn_ireti c224_133
theorem c225_0 : mcode 225 0 = some (.iload_n 1, 1, 0, 0, 0) := rfl
theorem r225_0 : Rn 225 (0, [x0, some (.int i)], st, a, h) = Rn 225 (1, [x0, some (.int i)], .int i :: st, a, h) := Rn_go c225_0 rfl
theorem c225_1 : mcode 225 1 = some (.i2l, 1, 0, 0, 0) := rfl
theorem r225_1 : Rn 225 (1, [x0, x1], .int i :: st, a, h) = Rn 225 (2, [x0, x1], .long i.toInt64 :: st, a, h) := Rn_go c225_1 rfl
theorem c225_2 : mcode 225 2 = some (.ldc2_w 299, 3, 0, 0, -1) := rfl
theorem r225_2 : Rn 225 (2, [x0, x1], st, a, h) = Rn 225 (5, [x0, x1], .long (-1 : Int64) :: st, a, h) := Rn_go c225_2 rfl
theorem c225_5 : mcode 225 5 = some (.ldc2_w 89, 3, 0, 0, 6) := rfl
theorem r225_5 : Rn 225 (5, [x0, x1], st, a, h) = Rn 225 (8, [x0, x1], .long (6 : Int64) :: st, a, h) := Rn_go c225_5 rfl
theorem c225_8 : mcode 225 8 = some (.invokestatic 52, 3, 123, 3, 0) := rfl
theorem r225_8 : Rn 225 (8, [x0, x1], [v2, v1, v0], a, h) = Bk 225 11 [x0, x1] [] (Ec 123 [v0, v1, v2] a h) := Rn_call0 c225_8 (fun z => nomatch z) rfl (Nat.le_of_ble_eq_true rfl) rfl rfl (Nat.le_of_ble_eq_true rfl)
theorem c225_11 : mcode 225 11 = some (.ifCond .eq 14, 3, 0, 0, 0) := rfl
theorem r225_11 : Rn 225 (11, [x0, x1], .int i :: st, a, h) = if i = 0 then Rn 225 (25, [x0, x1], st, a, h) else Rn 225 (14, [x0, x1], st, a, h) := Rn_ifc c225_11 mc_eq rfl rfl
theorem c225_14 : mcode 225 14 = some (.aload_n 0, 1, 0, 0, 0) := rfl
theorem r225_14 : Rn 225 (14, [some (.ref q), x1], st, a, h) = Rn 225 (15, [some (.ref q), x1], .ref q :: st, a, h) := Rn_go c225_14 rfl
theorem c225_15 : mcode 225 15 = some (.getfield 22, 3, 6, 5, 0) := rfl
theorem r225_15 : Rn 225 (15, [x0, x1], .ref q :: st, a, h) = Kv 225 18 [x0, x1] st a h (mgf h q 6 5) := Rn_getf c225_15 rfl
theorem c225_18 : mcode 225 18 = some (.iload_n 1, 1, 0, 0, 0) := rfl
theorem r225_18 : Rn 225 (18, [x0, some (.int i)], st, a, h) = Rn 225 (19, [x0, some (.int i)], .int i :: st, a, h) := Rn_go c225_18 rfl
theorem c225_19 : mcode 225 19 = some (.iconst 1, 1, 0, 0, 0) := rfl
theorem r225_19 : Rn 225 (19, [x0, x1], st, a, h) = Rn 225 (20, [x0, x1], .int (1 : Int32) :: st, a, h) := Rn_go c225_19 rfl
theorem c225_20 : mcode 225 20 = some (.iadd, 1, 0, 0, 0) := rfl
theorem r225_20 : Rn 225 (20, [x0, x1], .int j :: .int i :: st, a, h) = Rn 225 (21, [x0, x1], .int (i + j) :: st, a, h) := Rn_go c225_20 rfl
theorem c225_21 : mcode 225 21 = some (.iaload, 1, 0, 0, 0) := rfl
theorem r225_21 : Rn 225 (21, [x0, x1], .int i :: .ref q :: st, a, h) = Ki 225 22 [x0, x1] st a h (mld h q i false) := Rn_iald c225_21 rfl
theorem c225_22 : mcode 225 22 = some (.goto 9, 3, 0, 0, 0) := rfl
theorem r225_22 : Rn 225 (22, [x0, x1], st, a, h) = Rn 225 (31, [x0, x1], st, a, h) := Rn_goto c225_22 rfl
theorem c225_25 : mcode 225 25 = some (.aload_n 0, 1, 0, 0, 0) := rfl
theorem r225_25 : Rn 225 (25, [some (.ref q), x1], st, a, h) = Rn 225 (26, [some (.ref q), x1], .ref q :: st, a, h) := Rn_go c225_25 rfl
theorem c225_26 : mcode 225 26 = some (.ldc 37, 2, 0, 0, -1000001) := rfl
theorem r225_26 : Rn 225 (26, [x0, x1], st, a, h) = Rn 225 (28, [x0, x1], .int (-1000001 : Int32) :: st, a, h) := Rn_go c225_26 rfl
theorem c225_28 : mcode 225 28 = some (.invokevirtual 39, 3, 124, 1, 6) := rfl
theorem r225_28 : Rn 225 (28, [x0, x1], [v0, .ref q], a, h) = if mis h q 6 = true then Bk 225 31 [x0, x1] [] (Ec 124 [.ref q, v0] a h) else none := Rn_call1 c225_28 rfl (Nat.le_of_ble_eq_true rfl) rfl rfl (Nat.le_of_ble_eq_true rfl)
theorem c225_31 : mcode 225 31 = some (.ireturn, 1, 0, 0, 0) := rfl
theorem r225_31 : Rn 225 (31, [x0, x1], [.int i], a, h) = some (some (.int i), a, h) := Rn_ireti c225_31
end
