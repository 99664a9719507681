section
variable {x0 x1 x2 x3 x4 x5 x6 x7 x8 x9 : Option Value} {i j k i0 i1 i2 i3 i4 i5 i6 : Int32} {p q q0 q1 q2 q3 q4 q5 : Nat} {l m l0 l1 l2 : Int64} {u v w v0 v1 v2 v3 v4 v5 : Value} {st : List Value} {a : MA} {h : MH}
theorem c123_0 : mcode 123 0 = some (.aload_n 0, 1, 0, 0, 0) := rfl
theorem r123_0 : Rn 123 (0, [some (.ref q), x1], st, a, h) = Rn 123 (1, [some (.ref q), x1], .ref q :: st, a, h) := Rn_go c123_0 rfl
theorem c123_1 : mcode 123 1 = some (.invokespecial 1, 3, 9999, 0, 0) := rfl
theorem r123_1 : Rn 123 (1, [x0, x1], [.ref q], a, h) = Rn 123 (4, [x0, x1], [], a, h) := Rn_go c123_1 rfl
theorem c123_4 : mcode 123 4 = some (.aload_n 0, 1, 0, 0, 0) := rfl
theorem r123_4 : Rn 123 (4, [some (.ref q), x1], st, a, h) = Rn 123 (5, [some (.ref q), x1], .ref q :: st, a, h) := Rn_go c123_4 rfl
theorem c123_5 : mcode 123 5 = some (.bipush 86, 2, 0, 0, 0) := rfl
theorem r123_5 : Rn 123 (5, [x0, x1], st, a, h) = Rn 123 (7, [x0, x1], .int (86 : Int32) :: st, a, h) := Rn_go c123_5 rfl
theorem c123_7 : mcode 123 7 = some (.newarray .int, 2, 0, 0, 0) := rfl
theorem r123_7 {b c d : Nat} (hi : ¬ i < 0) (hj : i.toNatClampNeg ≤ 65536) (hb : b < 999) : Rn 123 (7, [x0, x1], .int i :: st, (b, c, d), h) = Rn 123 (9, [x0, x1], .ref b :: st, (b + 1, c + 1, d + i.toNatClampNeg), mup h b (.inl (i.toNatClampNeg, fun _ => 0))) := Rn_newarray c123_7 rfl hi hj hb
theorem c123_9 : mcode 123 9 = some (.putfield 7, 3, 6, 0, 2) := rfl
theorem r123_9 : Rn 123 (9, [x0, x1], .ref p :: .ref q :: st, a, h) = Kh 123 12 [x0, x1] st a (mpf h q 6 0 (.ref p)) := Rn_putfr c123_9 rfl rfl
theorem c123_12 : mcode 123 12 = some (.aload_n 0, 1, 0, 0, 0) := rfl
theorem r123_12 : Rn 123 (12, [some (.ref q), x1], st, a, h) = Rn 123 (13, [some (.ref q), x1], .ref q :: st, a, h) := Rn_go c123_12 rfl
theorem c123_13 : mcode 123 13 = some (.bipush 86, 2, 0, 0, 0) := rfl
theorem r123_13 : Rn 123 (13, [x0, x1], st, a, h) = Rn 123 (15, [x0, x1], .int (86 : Int32) :: st, a, h) := Rn_go c123_13 rfl
theorem c123_15 : mcode 123 15 = some (.newarray .int, 2, 0, 0, 0) := rfl
theorem r123_15 {b c d : Nat} (hi : ¬ i < 0) (hj : i.toNatClampNeg ≤ 65536) (hb : b < 999) : Rn 123 (15, [x0, x1], .int i :: st, (b, c, d), h) = Rn 123 (17, [x0, x1], .ref b :: st, (b + 1, c + 1, d + i.toNatClampNeg), mup h b (.inl (i.toNatClampNeg, fun _ => 0))) := Rn_newarray c123_15 rfl hi hj hb
theorem c123_17 : mcode 123 17 = some (.putfield 13, 3, 6, 1, 2) := rfl
theorem r123_17 : Rn 123 (17, [x0, x1], .ref p :: .ref q :: st, a, h) = Kh 123 20 [x0, x1] st a (mpf h q 6 1 (.ref p)) := Rn_putfr c123_17 rfl rfl
theorem c123_20 : mcode 123 20 = some (.aload_n 0, 1, 0, 0, 0) := rfl
theorem r123_20 : Rn 123 (20, [some (.ref q), x1], st, a, h) = Rn 123 (21, [some (.ref q), x1], .ref q :: st, a, h) := Rn_go c123_20 rfl
theorem c123_21 : mcode 123 21 = some (.bipush 86, 2, 0, 0, 0) := rfl
theorem r123_21 : Rn 123 (21, [x0, x1], st, a, h) = Rn 123 (23, [x0, x1], .int (86 : Int32) :: st, a, h) := Rn_go c123_21 rfl
theorem c123_23 : mcode 123 23 = some (.newarray .int, 2, 0, 0, 0) := rfl
theorem r123_23 {b c d : Nat} (hi : ¬ i < 0) (hj : i.toNatClampNeg ≤ 65536) (hb : b < 999) : Rn 123 (23, [x0, x1], .int i :: st, (b, c, d), h) = Rn 123 (25, [x0, x1], .ref b :: st, (b + 1, c + 1, d + i.toNatClampNeg), mup h b (.inl (i.toNatClampNeg, fun _ => 0))) := Rn_newarray c123_23 rfl hi hj hb
theorem c123_25 : mcode 123 25 = some (.putfield 16, 3, 6, 2, 2) := rfl
theorem r123_25 : Rn 123 (25, [x0, x1], .ref p :: .ref q :: st, a, h) = Kh 123 28 [x0, x1] st a (mpf h q 6 2 (.ref p)) := Rn_putfr c123_25 rfl rfl
theorem c123_28 : mcode 123 28 = some (.aload_n 0, 1, 0, 0, 0) := rfl
theorem r123_28 : Rn 123 (28, [some (.ref q), x1], st, a, h) = Rn 123 (29, [some (.ref q), x1], .ref q :: st, a, h) := Rn_go c123_28 rfl
theorem c123_29 : mcode 123 29 = some (.bipush 86, 2, 0, 0, 0) := rfl
theorem r123_29 : Rn 123 (29, [x0, x1], st, a, h) = Rn 123 (31, [x0, x1], .int (86 : Int32) :: st, a, h) := Rn_go c123_29 rfl
theorem c123_31 : mcode 123 31 = some (.newarray .int, 2, 0, 0, 0) := rfl
theorem r123_31 {b c d : Nat} (hi : ¬ i < 0) (hj : i.toNatClampNeg ≤ 65536) (hb : b < 999) : Rn 123 (31, [x0, x1], .int i :: st, (b, c, d), h) = Rn 123 (33, [x0, x1], .ref b :: st, (b + 1, c + 1, d + i.toNatClampNeg), mup h b (.inl (i.toNatClampNeg, fun _ => 0))) := Rn_newarray c123_31 rfl hi hj hb
theorem c123_33 : mcode 123 33 = some (.putfield 19, 3, 6, 3, 2) := rfl
theorem r123_33 : Rn 123 (33, [x0, x1], .ref p :: .ref q :: st, a, h) = Kh 123 36 [x0, x1] st a (mpf h q 6 3 (.ref p)) := Rn_putfr c123_33 rfl rfl
theorem c123_36 : mcode 123 36 = some (.aload_n 0, 1, 0, 0, 0) := rfl
theorem r123_36 : Rn 123 (36, [some (.ref q), x1], st, a, h) = Rn 123 (37, [some (.ref q), x1], .ref q :: st, a, h) := Rn_go c123_36 rfl
theorem c123_37 : mcode 123 37 = some (.bipush 8, 2, 0, 0, 0) := rfl
theorem r123_37 : Rn 123 (37, [x0, x1], st, a, h) = Rn 123 (39, [x0, x1], .int (8 : Int32) :: st, a, h) := Rn_go c123_37 rfl
theorem c123_39 : mcode 123 39 = some (.newarray .int, 2, 0, 0, 0) := rfl
theorem r123_39 {b c d : Nat} (hi : ¬ i < 0) (hj : i.toNatClampNeg ≤ 65536) (hb : b < 999) : Rn 123 (39, [x0, x1], .int i :: st, (b, c, d), h) = Rn 123 (41, [x0, x1], .ref b :: st, (b + 1, c + 1, d + i.toNatClampNeg), mup h b (.inl (i.toNatClampNeg, fun _ => 0))) := Rn_newarray c123_39 rfl hi hj hb
theorem c123_41 : mcode 123 41 = some (.putfield 22, 3, 6, 5, 2) := rfl
theorem r123_41 : Rn 123 (41, [x0, x1], .ref p :: .ref q :: st, a, h) = Kh 123 44 [x0, x1] st a (mpf h q 6 5 (.ref p)) := Rn_putfr c123_41 rfl rfl
theorem c123_44 : mcode 123 44 = some (.aload_n 0, 1, 0, 0, 0) := rfl
theorem r123_44 : Rn 123 (44, [some (.ref q), x1], st, a, h) = Rn 123 (45, [some (.ref q), x1], .ref q :: st, a, h) := Rn_go c123_44 rfl
theorem c123_45 : mcode 123 45 = some (.bipush 120, 2, 0, 0, 0) := rfl
theorem r123_45 : Rn 123 (45, [x0, x1], st, a, h) = Rn 123 (47, [x0, x1], .int (120 : Int32) :: st, a, h) := Rn_go c123_45 rfl
theorem c123_47 : mcode 123 47 = some (.newarray .int, 2, 0, 0, 0) := rfl
theorem r123_47 {b c d : Nat} (hi : ¬ i < 0) (hj : i.toNatClampNeg ≤ 65536) (hb : b < 999) : Rn 123 (47, [x0, x1], .int i :: st, (b, c, d), h) = Rn 123 (49, [x0, x1], .ref b :: st, (b + 1, c + 1, d + i.toNatClampNeg), mup h b (.inl (i.toNatClampNeg, fun _ => 0))) := Rn_newarray c123_47 rfl hi hj hb
theorem c123_49 : mcode 123 49 = some (.putfield 25, 3, 6, 6, 2) := rfl
theorem r123_49 : Rn 123 (49, [x0, x1], .ref p :: .ref q :: st, a, h) = Kh 123 52 [x0, x1] st a (mpf h q 6 6 (.ref p)) := Rn_putfr c123_49 rfl rfl
theorem c123_52 : mcode 123 52 = some (.aload_n 0, 1, 0, 0, 0) := rfl
theorem r123_52 : Rn 123 (52, [some (.ref q), x1], st, a, h) = Rn 123 (53, [some (.ref q), x1], .ref q :: st, a, h) := Rn_go c123_52 rfl
theorem c123_53 : mcode 123 53 = some (.iconst 4, 1, 0, 0, 0) := rfl
theorem r123_53 : Rn 123 (53, [x0, x1], st, a, h) = Rn 123 (54, [x0, x1], .int (4 : Int32) :: st, a, h) := Rn_go c123_53 rfl
theorem c123_54 : mcode 123 54 = some (.newarray .int, 2, 0, 0, 0) := rfl
theorem r123_54 {b c d : Nat} (hi : ¬ i < 0) (hj : i.toNatClampNeg ≤ 65536) (hb : b < 999) : Rn 123 (54, [x0, x1], .int i :: st, (b, c, d), h) = Rn 123 (56, [x0, x1], .ref b :: st, (b + 1, c + 1, d + i.toNatClampNeg), mup h b (.inl (i.toNatClampNeg, fun _ => 0))) := Rn_newarray c123_54 rfl hi hj hb
theorem c123_56 : mcode 123 56 = some (.dup, 1, 0, 0, 0) := rfl
theorem r123_56 : Rn 123 (56, [x0, x1], .ref q :: st, a, h) = Rn 123 (57, [x0, x1], .ref q :: .ref q :: st, a, h) := Rn_go c123_56 rfl
theorem c123_57 : mcode 123 57 = some (.iconst 0, 1, 0, 0, 0) := rfl
theorem r123_57 : Rn 123 (57, [x0, x1], st, a, h) = Rn 123 (58, [x0, x1], .int (0 : Int32) :: st, a, h) := Rn_go c123_57 rfl
theorem c123_58 : mcode 123 58 = some (.iconst (-1), 1, 0, 0, 0) := rfl
theorem r123_58 : Rn 123 (58, [x0, x1], st, a, h) = Rn 123 (59, [x0, x1], .int (-1 : Int32) :: st, a, h) := Rn_go c123_58 rfl
theorem c123_59 : mcode 123 59 = some (.iastore, 1, 0, 0, 0) := rfl
theorem r123_59 : Rn 123 (59, [x0, x1], .int j :: .int i :: .ref q :: st, a, h) = Kh 123 60 [x0, x1] st a (mias h q i j) := Rn_iast c123_59 rfl
theorem c123_60 : mcode 123 60 = some (.dup, 1, 0, 0, 0) := rfl
theorem r123_60 : Rn 123 (60, [x0, x1], .ref q :: st, a, h) = Rn 123 (61, [x0, x1], .ref q :: .ref q :: st, a, h) := Rn_go c123_60 rfl
theorem c123_61 : mcode 123 61 = some (.iconst 1, 1, 0, 0, 0) := rfl
theorem r123_61 : Rn 123 (61, [x0, x1], st, a, h) = Rn 123 (62, [x0, x1], .int (1 : Int32) :: st, a, h) := Rn_go c123_61 rfl
theorem c123_62 : mcode 123 62 = some (.iconst (-1), 1, 0, 0, 0) := rfl
theorem r123_62 : Rn 123 (62, [x0, x1], st, a, h) = Rn 123 (63, [x0, x1], .int (-1 : Int32) :: st, a, h) := Rn_go c123_62 rfl
theorem c123_63 : mcode 123 63 = some (.iastore, 1, 0, 0, 0) := rfl
theorem r123_63 : Rn 123 (63, [x0, x1], .int j :: .int i :: .ref q :: st, a, h) = Kh 123 64 [x0, x1] st a (mias h q i j) := Rn_iast c123_63 rfl
theorem c123_64 : mcode 123 64 = some (.dup, 1, 0, 0, 0) := rfl
theorem r123_64 : Rn 123 (64, [x0, x1], .ref q :: st, a, h) = Rn 123 (65, [x0, x1], .ref q :: .ref q :: st, a, h) := Rn_go c123_64 rfl
theorem c123_65 : mcode 123 65 = some (.iconst 2, 1, 0, 0, 0) := rfl
theorem r123_65 : Rn 123 (65, [x0, x1], st, a, h) = Rn 123 (66, [x0, x1], .int (2 : Int32) :: st, a, h) := Rn_go c123_65 rfl
theorem c123_66 : mcode 123 66 = some (.iconst (-1), 1, 0, 0, 0) := rfl
theorem r123_66 : Rn 123 (66, [x0, x1], st, a, h) = Rn 123 (67, [x0, x1], .int (-1 : Int32) :: st, a, h) := Rn_go c123_66 rfl
theorem c123_67 : mcode 123 67 = some (.iastore, 1, 0, 0, 0) := rfl
theorem r123_67 : Rn 123 (67, [x0, x1], .int j :: .int i :: .ref q :: st, a, h) = Kh 123 68 [x0, x1] st a (mias h q i j) := Rn_iast c123_67 rfl
theorem c123_68 : mcode 123 68 = some (.dup, 1, 0, 0, 0) := rfl
theorem r123_68 : Rn 123 (68, [x0, x1], .ref q :: st, a, h) = Rn 123 (69, [x0, x1], .ref q :: .ref q :: st, a, h) := Rn_go c123_68 rfl
theorem c123_69 : mcode 123 69 = some (.iconst 3, 1, 0, 0, 0) := rfl
theorem r123_69 : Rn 123 (69, [x0, x1], st, a, h) = Rn 123 (70, [x0, x1], .int (3 : Int32) :: st, a, h) := Rn_go c123_69 rfl
theorem c123_70 : mcode 123 70 = some (.iconst (-1), 1, 0, 0, 0) := rfl
theorem r123_70 : Rn 123 (70, [x0, x1], st, a, h) = Rn 123 (71, [x0, x1], .int (-1 : Int32) :: st, a, h) := Rn_go c123_70 rfl
theorem c123_71 : mcode 123 71 = some (.iastore, 1, 0, 0, 0) := rfl
theorem r123_71 : Rn 123 (71, [x0, x1], .int j :: .int i :: .ref q :: st, a, h) = Kh 123 72 [x0, x1] st a (mias h q i j) := Rn_iast c123_71 rfl
theorem c123_72 : mcode 123 72 = some (.putfield 28, 3, 6, 8, 2) := rfl
theorem r123_72 : Rn 123 (72, [x0, x1], .ref p :: .ref q :: st, a, h) = Kh 123 75 [x0, x1] st a (mpf h q 6 8 (.ref p)) := Rn_putfr c123_72 rfl rfl
theorem c123_75 : mcode 123 75 = some (.aload_n 0, 1, 0, 0, 0) := rfl
theorem r123_75 : Rn 123 (75, [some (.ref q), x1], st, a, h) = Rn 123 (76, [some (.ref q), x1], .ref q :: st, a, h) := Rn_go c123_75 rfl
theorem c123_76 : mcode 123 76 = some (.iconst 4, 1, 0, 0, 0) := rfl
theorem r123_76 : Rn 123 (76, [x0, x1], st, a, h) = Rn 123 (77, [x0, x1], .int (4 : Int32) :: st, a, h) := Rn_go c123_76 rfl
theorem c123_77 : mcode 123 77 = some (.newarray .int, 2, 0, 0, 0) := rfl
theorem r123_77 {b c d : Nat} (hi : ¬ i < 0) (hj : i.toNatClampNeg ≤ 65536) (hb : b < 999) : Rn 123 (77, [x0, x1], .int i :: st, (b, c, d), h) = Rn 123 (79, [x0, x1], .ref b :: st, (b + 1, c + 1, d + i.toNatClampNeg), mup h b (.inl (i.toNatClampNeg, fun _ => 0))) := Rn_newarray c123_77 rfl hi hj hb
theorem c123_79 : mcode 123 79 = some (.putfield 31, 3, 6, 9, 2) := rfl
theorem r123_79 : Rn 123 (79, [x0, x1], .ref p :: .ref q :: st, a, h) = Kh 123 82 [x0, x1] st a (mpf h q 6 9 (.ref p)) := Rn_putfr c123_79 rfl rfl
theorem c123_82 : mcode 123 82 = some (.aload_n 0, 1, 0, 0, 0) := rfl
theorem r123_82 : Rn 123 (82, [some (.ref q), x1], st, a, h) = Rn 123 (83, [some (.ref q), x1], .ref q :: st, a, h) := Rn_go c123_82 rfl
theorem c123_83 : mcode 123 83 = some (.sipush 160, 3, 0, 0, 0) := rfl
theorem r123_83 : Rn 123 (83, [x0, x1], st, a, h) = Rn 123 (86, [x0, x1], .int (160 : Int32) :: st, a, h) := Rn_go c123_83 rfl
theorem c123_86 : mcode 123 86 = some (.newarray .int, 2, 0, 0, 0) := rfl
theorem r123_86 {b c d : Nat} (hi : ¬ i < 0) (hj : i.toNatClampNeg ≤ 65536) (hb : b < 999) : Rn 123 (86, [x0, x1], .int i :: st, (b, c, d), h) = Rn 123 (88, [x0, x1], .ref b :: st, (b + 1, c + 1, d + i.toNatClampNeg), mup h b (.inl (i.toNatClampNeg, fun _ => 0))) := Rn_newarray c123_86 rfl hi hj hb
theorem c123_88 : mcode 123 88 = some (.putfield 34, 3, 6, 10, 2) := rfl
theorem r123_88 : Rn 123 (88, [x0, x1], .ref p :: .ref q :: st, a, h) = Kh 123 91 [x0, x1] st a (mpf h q 6 10 (.ref p)) := Rn_putfr c123_88 rfl rfl
theorem c123_91 : mcode 123 91 = some (.aload_n 0, 1, 0, 0, 0) := rfl
theorem r123_91 : Rn 123 (91, [some (.ref q), x1], st, a, h) = Rn 123 (92, [some (.ref q), x1], .ref q :: st, a, h) := Rn_go c123_91 rfl
theorem c123_92 : mcode 123 92 = some (.getfield 7, 3, 6, 0, 0) := rfl
theorem r123_92 : Rn 123 (92, [x0, x1], .ref q :: st, a, h) = Kv 123 95 [x0, x1] st a h (mgf h q 6 0) := Rn_getf c123_92 rfl
theorem c123_95 : mcode 123 95 = some (.iconst 2, 1, 0, 0, 0) := rfl
theorem r123_95 : Rn 123 (95, [x0, x1], st, a, h) = Rn 123 (96, [x0, x1], .int (2 : Int32) :: st, a, h) := Rn_go c123_95 rfl
theorem c123_96 : mcode 123 96 = some (.iconst 1, 1, 0, 0, 0) := rfl
theorem r123_96 : Rn 123 (96, [x0, x1], st, a, h) = Rn 123 (97, [x0, x1], .int (1 : Int32) :: st, a, h) := Rn_go c123_96 rfl
theorem c123_97 : mcode 123 97 = some (.iastore, 1, 0, 0, 0) := rfl
theorem r123_97 : Rn 123 (97, [x0, x1], .int j :: .int i :: .ref q :: st, a, h) = Kh 123 98 [x0, x1] st a (mias h q i j) := Rn_iast c123_97 rfl
theorem c123_98 : mcode 123 98 = some (.aload_n 0, 1, 0, 0, 0) := rfl
theorem r123_98 : Rn 123 (98, [some (.ref q), x1], st, a, h) = Rn 123 (99, [some (.ref q), x1], .ref q :: st, a, h) := Rn_go c123_98 rfl
theorem c123_99 : mcode 123 99 = some (.getfield 7, 3, 6, 0, 0) := rfl
theorem r123_99 : Rn 123 (99, [x0, x1], .ref q :: st, a, h) = Kv 123 102 [x0, x1] st a h (mgf h q 6 0) := Rn_getf c123_99 rfl
theorem c123_102 : mcode 123 102 = some (.iconst 3, 1, 0, 0, 0) := rfl
theorem r123_102 : Rn 123 (102, [x0, x1], st, a, h) = Rn 123 (103, [x0, x1], .int (3 : Int32) :: st, a, h) := Rn_go c123_102 rfl
theorem c123_103 : mcode 123 103 = some (.iconst 1, 1, 0, 0, 0) := rfl
theorem r123_103 : Rn 123 (103, [x0, x1], st, a, h) = Rn 123 (104, [x0, x1], .int (1 : Int32) :: st, a, h) := Rn_go c123_103 rfl
theorem c123_104 : mcode 123 104 = some (.iastore, 1, 0, 0, 0) := rfl
theorem r123_104 : Rn 123 (104, [x0, x1], .int j :: .int i :: .ref q :: st, a, h) = Kh 123 105 [x0, x1] st a (mias h q i j) := Rn_iast c123_104 rfl
theorem c123_105 : mcode 123 105 = some (.iconst 0, 1, 0, 0, 0) := rfl
theorem r123_105 : Rn 123 (105, [x0, x1], st, a, h) = Rn 123 (106, [x0, x1], .int (0 : Int32) :: st, a, h) := Rn_go c123_105 rfl
theorem c123_106 : mcode 123 106 = some (.istore_n 1, 1, 0, 0, 0) := rfl
theorem r123_106 : Rn 123 (106, [x0, x1], .int i :: st, a, h) = Nl x0 (Rn 123 (107, [x0, some (.int i)], st, a, h)) := Rn_st1 (k := 1) (v := .int i) x0 c123_106 rfl rfl rfl rfl
theorem c123_107 : mcode 123 107 = some (.iload_n 1, 1, 0, 0, 0) := rfl
theorem r123_107 : Rn 123 (107, [x0, some (.int i)], st, a, h) = Rn 123 (108, [x0, some (.int i)], .int i :: st, a, h) := Rn_go c123_107 rfl
theorem c123_108 : mcode 123 108 = some (.bipush 10, 2, 0, 0, 0) := rfl
theorem r123_108 : Rn 123 (108, [x0, x1], st, a, h) = Rn 123 (110, [x0, x1], .int (10 : Int32) :: st, a, h) := Rn_go c123_108 rfl
theorem c123_110 : mcode 123 110 = some (.if_icmp .ge 19, 3, 0, 0, 0) := rfl
theorem r123_110 : Rn 123 (110, [x0, x1], .int j :: .int i :: st, a, h) = if i < j then Rn 123 (113, [x0, x1], st, a, h) else Rn 123 (129, [x0, x1], st, a, h) := Rn_icmpn c123_110 mc_ge rfl rfl
theorem c123_113 : mcode 123 113 = some (.aload_n 0, 1, 0, 0, 0) := rfl
theorem r123_113 : Rn 123 (113, [some (.ref q), x1], st, a, h) = Rn 123 (114, [some (.ref q), x1], .ref q :: st, a, h) := Rn_go c123_113 rfl
theorem c123_114 : mcode 123 114 = some (.getfield 7, 3, 6, 0, 0) := rfl
theorem r123_114 : Rn 123 (114, [x0, x1], .ref q :: st, a, h) = Kv 123 117 [x0, x1] st a h (mgf h q 6 0) := Rn_getf c123_114 rfl
theorem c123_117 : mcode 123 117 = some (.bipush 76, 2, 0, 0, 0) := rfl
theorem r123_117 : Rn 123 (117, [x0, x1], st, a, h) = Rn 123 (119, [x0, x1], .int (76 : Int32) :: st, a, h) := Rn_go c123_117 rfl
theorem c123_119 : mcode 123 119 = some (.iload_n 1, 1, 0, 0, 0) := rfl
theorem r123_119 : Rn 123 (119, [x0, some (.int i)], st, a, h) = Rn 123 (120, [x0, some (.int i)], .int i :: st, a, h) := Rn_go c123_119 rfl
theorem c123_120 : mcode 123 120 = some (.iadd, 1, 0, 0, 0) := rfl
theorem r123_120 : Rn 123 (120, [x0, x1], .int j :: .int i :: st, a, h) = Rn 123 (121, [x0, x1], .int (i + j) :: st, a, h) := Rn_go c123_120 rfl
theorem c123_121 : mcode 123 121 = some (.iconst (-1), 1, 0, 0, 0) := rfl
theorem r123_121 : Rn 123 (121, [x0, x1], st, a, h) = Rn 123 (122, [x0, x1], .int (-1 : Int32) :: st, a, h) := Rn_go c123_121 rfl
theorem c123_122 : mcode 123 122 = some (.iastore, 1, 0, 0, 0) := rfl
theorem r123_122 : Rn 123 (122, [x0, x1], .int j :: .int i :: .ref q :: st, a, h) = Kh 123 123 [x0, x1] st a (mias h q i j) := Rn_iast c123_122 rfl
theorem c123_123 : mcode 123 123 = some (.iinc 1 1, 3, 0, 0, 0) := rfl
theorem r123_123 : Rn 123 (123, [x0, some (.int i)], st, a, h) = Nl x0 (Rn 123 (126, [x0, some (.int (i + (1 : Int32)))], st, a, h)) := Rn_st1 (k := 1) (v := .int (i + (1 : Int32))) x0 c123_123 rfl rfl rfl rfl
theorem c123_126 : mcode 123 126 = some (.goto (-19), 3, 0, 0, 0) := rfl
theorem r123_126 : Rn 123 (126, [x0, x1], st, a, h) = Rn 123 (107, [x0, x1], st, a, h) := Rn_goto c123_126 rfl
theorem c123_129 : mcode 123 129 = some (.return_, 1, 0, 0, 0) := rfl
theorem r123_129 : Rn 123 (129, [x0, x1], [], a, h) = some (none, a, h) := Rn_act c123_129
theorem c124_0 : mcode 124 0 = some (.lload_n 0, 1, 0, 0, 0) := rfl
theorem r124_0 : Rn 124 (0, [some (.long l), x1, x2, x3, x4, x5], st, a, h) = Rn 124 (1, [some (.long l), x1, x2, x3, x4, x5], .long l :: st, a, h) := Rn_go c124_0 rfl
theorem c124_1 : mcode 124 1 = some (.lload_n 2, 1, 0, 0, 0) := rfl
theorem r124_1 : Rn 124 (1, [x0, x1, some (.long l), x3, x4, x5], st, a, h) = Rn 124 (2, [x0, x1, some (.long l), x3, x4, x5], .long l :: st, a, h) := Rn_go c124_1 rfl
theorem c124_2 : mcode 124 2 = some (.lcmp, 1, 0, 0, 0) := rfl
theorem r124_2 : Rn 124 (2, [x0, x1, x2, x3, x4, x5], .long m :: .long l :: st, a, h) = Rn 124 (3, [x0, x1, x2, x3, x4, x5], .int (if l < m then -1 else if l = m then 0 else 1) :: st, a, h) := Rn_go c124_2 rfl
theorem c124_3 : mcode 124 3 = some (.ifCond .lt 14, 3, 0, 0, 0) := rfl
theorem r124_3 : Rn 124 (3, [x0, x1, x2, x3, x4, x5], .int i :: st, a, h) = if i < 0 then Rn 124 (17, [x0, x1, x2, x3, x4, x5], st, a, h) else Rn 124 (6, [x0, x1, x2, x3, x4, x5], st, a, h) := Rn_ifc c124_3 mc_lt rfl rfl
theorem c124_6 : mcode 124 6 = some (.lload_n 0, 1, 0, 0, 0) := rfl
theorem r124_6 : Rn 124 (6, [some (.long l), x1, x2, x3, x4, x5], st, a, h) = Rn 124 (7, [some (.long l), x1, x2, x3, x4, x5], .long l :: st, a, h) := Rn_go c124_6 rfl
theorem c124_7 : mcode 124 7 = some (.lload 4, 2, 0, 0, 0) := rfl
theorem r124_7 : Rn 124 (7, [x0, x1, x2, x3, some (.long l), x5], st, a, h) = Rn 124 (9, [x0, x1, x2, x3, some (.long l), x5], .long l :: st, a, h) := Rn_go c124_7 rfl
theorem c124_9 : mcode 124 9 = some (.lcmp, 1, 0, 0, 0) := rfl
theorem r124_9 : Rn 124 (9, [x0, x1, x2, x3, x4, x5], .long m :: .long l :: st, a, h) = Rn 124 (10, [x0, x1, x2, x3, x4, x5], .int (if l < m then -1 else if l = m then 0 else 1) :: st, a, h) := Rn_go c124_9 rfl
theorem c124_10 : mcode 124 10 = some (.ifCond .gt 7, 3, 0, 0, 0) := rfl
theorem r124_10 : Rn 124 (10, [x0, x1, x2, x3, x4, x5], .int i :: st, a, h) = if 0 < i then Rn 124 (17, [x0, x1, x2, x3, x4, x5], st, a, h) else Rn 124 (13, [x0, x1, x2, x3, x4, x5], st, a, h) := Rn_ifc c124_10 mc_gt rfl rfl
theorem c124_13 : mcode 124 13 = some (.iconst 1, 1, 0, 0, 0) := rfl
theorem r124_13 : Rn 124 (13, [x0, x1, x2, x3, x4, x5], st, a, h) = Rn 124 (14, [x0, x1, x2, x3, x4, x5], .int (1 : Int32) :: st, a, h) := Rn_go c124_13 rfl
theorem c124_14 : mcode 124 14 = some (.goto 4, 3, 0, 0, 0) := rfl
theorem r124_14 : Rn 124 (14, [x0, x1, x2, x3, x4, x5], st, a, h) = Rn 124 (18, [x0, x1, x2, x3, x4, x5], st, a, h) := Rn_goto c124_14 rfl
theorem c124_17 : mcode 124 17 = some (.iconst 0, 1, 0, 0, 0) := rfl
theorem r124_17 : Rn 124 (17, [x0, x1, x2, x3, x4, x5], st, a, h) = Rn 124 (18, [x0, x1, x2, x3, x4, x5], .int (0 : Int32) :: st, a, h) := Rn_go c124_17 rfl
theorem c124_18 : mcode 124 18 = some (.ireturn, 1, 1, 0, 0) := rfl
theorem r124_18 : Rn 124 (18, [x0, x1, x2, x3, x4, x5], [.int i], a, h) = if mrt 1 i = true then some (some (.int i), a, h) else none := Rn_iretz c124_18
theorem c125_0 : mcode 125 0 = some (.aload_n 0, 1, 0, 0, 0) := rfl
theorem r125_0 : Rn 125 (0, [some (.ref q), x1], st, a, h) = Rn 125 (1, [some (.ref q), x1], .ref q :: st, a, h) := Rn_go c125_0 rfl
theorem c125_1 : mcode 125 1 = some (.getfield 22, 3, 6, 5, 0) := rfl
theorem r125_1 : Rn 125 (1, [x0, x1], .ref q :: st, a, h) = Kv 125 4 [x0, x1] st a h (mgf h q 6 5) := Rn_getf c125_1 rfl
theorem c125_4 : mcode 125 4 = some (.iconst 0, 1, 0, 0, 0) := rfl
theorem r125_4 : Rn 125 (4, [x0, x1], st, a, h) = Rn 125 (5, [x0, x1], .int (0 : Int32) :: st, a, h) := Rn_go c125_4 rfl
theorem c125_5 : mcode 125 5 = some (.dup2, 1, 0, 0, 0) := rfl
theorem r125_5 : Rn 125 (5, [x0, x1], .int i :: .ref p :: st, a, h) = Rn 125 (6, [x0, x1], .int i :: .ref p :: .int i :: .ref p :: st, a, h) := Rn_go c125_5 rfl
theorem c125_6 : mcode 125 6 = some (.iaload, 1, 0, 0, 0) := rfl
theorem r125_6 : Rn 125 (6, [x0, x1], .int i :: .ref q :: st, a, h) = Ki 125 7 [x0, x1] st a h (mld h q i false) := Rn_iald c125_6 rfl
theorem c125_7 : mcode 125 7 = some (.iconst 1, 1, 0, 0, 0) := rfl
theorem r125_7 : Rn 125 (7, [x0, x1], st, a, h) = Rn 125 (8, [x0, x1], .int (1 : Int32) :: st, a, h) := Rn_go c125_7 rfl
theorem c125_8 : mcode 125 8 = some (.iadd, 1, 0, 0, 0) := rfl
theorem r125_8 : Rn 125 (8, [x0, x1], .int j :: .int i :: st, a, h) = Rn 125 (9, [x0, x1], .int (i + j) :: st, a, h) := Rn_go c125_8 rfl
theorem c125_9 : mcode 125 9 = some (.iastore, 1, 0, 0, 0) := rfl
theorem r125_9 : Rn 125 (9, [x0, x1], .int j :: .int i :: .ref q :: st, a, h) = Kh 125 10 [x0, x1] st a (mias h q i j) := Rn_iast c125_9 rfl
theorem c125_10 : mcode 125 10 = some (.aload_n 0, 1, 0, 0, 0) := rfl
theorem r125_10 : Rn 125 (10, [some (.ref q), x1], st, a, h) = Rn 125 (11, [some (.ref q), x1], .ref q :: st, a, h) := Rn_go c125_10 rfl
theorem c125_11 : mcode 125 11 = some (.getfield 22, 3, 6, 5, 0) := rfl
theorem r125_11 : Rn 125 (11, [x0, x1], .ref q :: st, a, h) = Kv 125 14 [x0, x1] st a h (mgf h q 6 5) := Rn_getf c125_11 rfl
theorem c125_14 : mcode 125 14 = some (.ldc 37, 2, 0, 0, -1000001) := rfl
theorem r125_14 : Rn 125 (14, [x0, x1], st, a, h) = Rn 125 (16, [x0, x1], .int (-1000001 : Int32) :: st, a, h) := Rn_go c125_14 rfl
theorem c125_16 : mcode 125 16 = some (.iload_n 1, 1, 0, 0, 0) := rfl
theorem r125_16 : Rn 125 (16, [x0, some (.int i)], st, a, h) = Rn 125 (17, [x0, some (.int i)], .int i :: st, a, h) := Rn_go c125_16 rfl
theorem c125_17 : mcode 125 17 = some (.isub, 1, 0, 0, 0) := rfl
theorem r125_17 : Rn 125 (17, [x0, x1], .int j :: .int i :: st, a, h) = Rn 125 (18, [x0, x1], .int (i - j) :: st, a, h) := Rn_go c125_17 rfl
theorem c125_18 : mcode 125 18 = some (.iconst 1, 1, 0, 0, 0) := rfl
theorem r125_18 : Rn 125 (18, [x0, x1], st, a, h) = Rn 125 (19, [x0, x1], .int (1 : Int32) :: st, a, h) := Rn_go c125_18 rfl
theorem c125_19 : mcode 125 19 = some (.iadd, 1, 0, 0, 0) := rfl
theorem r125_19 : Rn 125 (19, [x0, x1], .int j :: .int i :: st, a, h) = Rn 125 (20, [x0, x1], .int (i + j) :: st, a, h) := Rn_go c125_19 rfl
theorem c125_20 : mcode 125 20 = some (.dup2, 1, 0, 0, 0) := rfl
theorem r125_20 : Rn 125 (20, [x0, x1], .int i :: .ref p :: st, a, h) = Rn 125 (21, [x0, x1], .int i :: .ref p :: .int i :: .ref p :: st, a, h) := Rn_go c125_20 rfl
theorem c125_21 : mcode 125 21 = some (.iaload, 1, 0, 0, 0) := rfl
theorem r125_21 : Rn 125 (21, [x0, x1], .int i :: .ref q :: st, a, h) = Ki 125 22 [x0, x1] st a h (mld h q i false) := Rn_iald c125_21 rfl
theorem c125_22 : mcode 125 22 = some (.iconst 1, 1, 0, 0, 0) := rfl
theorem r125_22 : Rn 125 (22, [x0, x1], st, a, h) = Rn 125 (23, [x0, x1], .int (1 : Int32) :: st, a, h) := Rn_go c125_22 rfl
theorem c125_23 : mcode 125 23 = some (.iadd, 1, 0, 0, 0) := rfl
theorem r125_23 : Rn 125 (23, [x0, x1], .int j :: .int i :: st, a, h) = Rn 125 (24, [x0, x1], .int (i + j) :: st, a, h) := Rn_go c125_23 rfl
theorem c125_24 : mcode 125 24 = some (.iastore, 1, 0, 0, 0) := rfl
theorem r125_24 : Rn 125 (24, [x0, x1], .int j :: .int i :: .ref q :: st, a, h) = Kh 125 25 [x0, x1] st a (mias h q i j) := Rn_iast c125_24 rfl
theorem c125_25 : mcode 125 25 = some (.iload_n 1, 1, 0, 0, 0) := rfl
theorem r125_25 : Rn 125 (25, [x0, some (.int i)], st, a, h) = Rn 125 (26, [x0, some (.int i)], .int i :: st, a, h) := Rn_go c125_25 rfl
theorem c125_26 : mcode 125 26 = some (.ireturn, 1, 0, 0, 0) := rfl
theorem r125_26 : Rn 125 (26, [x0, x1], [.int i], a, h) = some (some (.int i), a, h) := Rn_ireti c125_26
theorem c126_0 : mcode 126 0 = some (.aload_n 0, 1, 0, 0, 0) := rfl
theorem r126_0 : Rn 126 (0, [some (.ref q), x1, x2, x3], st, a, h) = Rn 126 (1, [some (.ref q), x1, x2, x3], .ref q :: st, a, h) := Rn_go c126_0 rfl
theorem c126_1 : mcode 126 1 = some (.getfield 7, 3, 6, 0, 0) := rfl
theorem r126_1 : Rn 126 (1, [x0, x1, x2, x3], .ref q :: st, a, h) = Kv 126 4 [x0, x1, x2, x3] st a h (mgf h q 6 0) := Rn_getf c126_1 rfl
theorem c126_4 : mcode 126 4 = some (.iload_n 1, 1, 0, 0, 0) := rfl
theorem r126_4 : Rn 126 (4, [x0, some (.int i), x2, x3], st, a, h) = Rn 126 (5, [x0, some (.int i), x2, x3], .int i :: st, a, h) := Rn_go c126_4 rfl
theorem c126_5 : mcode 126 5 = some (.iaload, 1, 0, 0, 0) := rfl
theorem r126_5 : Rn 126 (5, [x0, x1, x2, x3], .int i :: .ref q :: st, a, h) = Ki 126 6 [x0, x1, x2, x3] st a h (mld h q i false) := Rn_iald c126_5 rfl
theorem c126_6 : mcode 126 6 = some (.istore_n 3, 1, 0, 0, 0) := rfl
theorem r126_6 : Rn 126 (6, [x0, x1, x2, x3], .int i :: st, a, h) = Nl x2 (Rn 126 (7, [x0, x1, x2, some (.int i)], st, a, h)) := Rn_st1 (k := 3) (v := .int i) x2 c126_6 rfl rfl rfl rfl
theorem c126_7 : mcode 126 7 = some (.aload_n 0, 1, 0, 0, 0) := rfl
theorem r126_7 : Rn 126 (7, [some (.ref q), x1, x2, x3], st, a, h) = Rn 126 (8, [some (.ref q), x1, x2, x3], .ref q :: st, a, h) := Rn_go c126_7 rfl
theorem c126_8 : mcode 126 8 = some (.getfield 7, 3, 6, 0, 0) := rfl
theorem r126_8 : Rn 126 (8, [x0, x1, x2, x3], .ref q :: st, a, h) = Kv 126 11 [x0, x1, x2, x3] st a h (mgf h q 6 0) := Rn_getf c126_8 rfl
theorem c126_11 : mcode 126 11 = some (.iload_n 1, 1, 0, 0, 0) := rfl
theorem r126_11 : Rn 126 (11, [x0, some (.int i), x2, x3], st, a, h) = Rn 126 (12, [x0, some (.int i), x2, x3], .int i :: st, a, h) := Rn_go c126_11 rfl
theorem c126_12 : mcode 126 12 = some (.iload_n 2, 1, 0, 0, 0) := rfl
theorem r126_12 : Rn 126 (12, [x0, x1, some (.int i), x3], st, a, h) = Rn 126 (13, [x0, x1, some (.int i), x3], .int i :: st, a, h) := Rn_go c126_12 rfl
theorem c126_13 : mcode 126 13 = some (.iastore, 1, 0, 0, 0) := rfl
theorem r126_13 : Rn 126 (13, [x0, x1, x2, x3], .int j :: .int i :: .ref q :: st, a, h) = Kh 126 14 [x0, x1, x2, x3] st a (mias h q i j) := Rn_iast c126_13 rfl
theorem c126_14 : mcode 126 14 = some (.iload_n 3, 1, 0, 0, 0) := rfl
theorem r126_14 : Rn 126 (14, [x0, x1, x2, some (.int i)], st, a, h) = Rn 126 (15, [x0, x1, x2, some (.int i)], .int i :: st, a, h) := Rn_go c126_14 rfl
theorem c126_15 : mcode 126 15 = some (.ireturn, 1, 0, 0, 0) := rfl
theorem r126_15 : Rn 126 (15, [x0, x1, x2, x3], [.int i], a, h) = some (some (.int i), a, h) := Rn_ireti c126_15
theorem c127_0 : mcode 127 0 = some (.iconst 0, 1, 0, 0, 0) := rfl
theorem r127_0 : Rn 127 (0, [x0, x1, x2], st, a, h) = Rn 127 (1, [x0, x1, x2], .int (0 : Int32) :: st, a, h) := Rn_go c127_0 rfl
theorem c127_1 : mcode 127 1 = some (.istore_n 2, 1, 0, 0, 0) := rfl
theorem r127_1 : Rn 127 (1, [x0, x1, x2], .int i :: st, a, h) = Nl x1 (Rn 127 (2, [x0, x1, some (.int i)], st, a, h)) := Rn_st1 (k := 2) (v := .int i) x1 c127_1 rfl rfl rfl rfl
theorem c127_2 : mcode 127 2 = some (.iload_n 2, 1, 0, 0, 0) := rfl
theorem r127_2 : Rn 127 (2, [x0, x1, some (.int i)], st, a, h) = Rn 127 (3, [x0, x1, some (.int i)], .int i :: st, a, h) := Rn_go c127_2 rfl
theorem c127_3 : mcode 127 3 = some (.bipush 86, 2, 0, 0, 0) := rfl
theorem r127_3 : Rn 127 (3, [x0, x1, x2], st, a, h) = Rn 127 (5, [x0, x1, x2], .int (86 : Int32) :: st, a, h) := Rn_go c127_3 rfl
theorem c127_5 : mcode 127 5 = some (.if_icmp .ge 15, 3, 0, 0, 0) := rfl
theorem r127_5 : Rn 127 (5, [x0, x1, x2], .int j :: .int i :: st, a, h) = if i < j then Rn 127 (8, [x0, x1, x2], st, a, h) else Rn 127 (20, [x0, x1, x2], st, a, h) := Rn_icmpn c127_5 mc_ge rfl rfl
theorem c127_8 : mcode 127 8 = some (.aload_n 1, 1, 0, 0, 0) := rfl
theorem r127_8 : Rn 127 (8, [x0, some (.ref q), x2], st, a, h) = Rn 127 (9, [x0, some (.ref q), x2], .ref q :: st, a, h) := Rn_go c127_8 rfl
theorem c127_9 : mcode 127 9 = some (.iload_n 2, 1, 0, 0, 0) := rfl
theorem r127_9 : Rn 127 (9, [x0, x1, some (.int i)], st, a, h) = Rn 127 (10, [x0, x1, some (.int i)], .int i :: st, a, h) := Rn_go c127_9 rfl
theorem c127_10 : mcode 127 10 = some (.aload_n 0, 1, 0, 0, 0) := rfl
theorem r127_10 : Rn 127 (10, [some (.ref q), x1, x2], st, a, h) = Rn 127 (11, [some (.ref q), x1, x2], .ref q :: st, a, h) := Rn_go c127_10 rfl
theorem c127_11 : mcode 127 11 = some (.iload_n 2, 1, 0, 0, 0) := rfl
theorem r127_11 : Rn 127 (11, [x0, x1, some (.int i)], st, a, h) = Rn 127 (12, [x0, x1, some (.int i)], .int i :: st, a, h) := Rn_go c127_11 rfl
theorem c127_12 : mcode 127 12 = some (.iaload, 1, 0, 0, 0) := rfl
theorem r127_12 : Rn 127 (12, [x0, x1, x2], .int i :: .ref q :: st, a, h) = Ki 127 13 [x0, x1, x2] st a h (mld h q i false) := Rn_iald c127_12 rfl
theorem c127_13 : mcode 127 13 = some (.iastore, 1, 0, 0, 0) := rfl
theorem r127_13 : Rn 127 (13, [x0, x1, x2], .int j :: .int i :: .ref q :: st, a, h) = Kh 127 14 [x0, x1, x2] st a (mias h q i j) := Rn_iast c127_13 rfl
theorem c127_14 : mcode 127 14 = some (.iinc 2 1, 3, 0, 0, 0) := rfl
theorem r127_14 : Rn 127 (14, [x0, x1, some (.int i)], st, a, h) = Nl x1 (Rn 127 (17, [x0, x1, some (.int (i + (1 : Int32)))], st, a, h)) := Rn_st1 (k := 2) (v := .int (i + (1 : Int32))) x1 c127_14 rfl rfl rfl rfl
theorem c127_17 : mcode 127 17 = some (.goto (-15), 3, 0, 0, 0) := rfl
theorem r127_17 : Rn 127 (17, [x0, x1, x2], st, a, h) = Rn 127 (2, [x0, x1, x2], st, a, h) := Rn_goto c127_17 rfl
theorem c127_20 : mcode 127 20 = some (.return_, 1, 0, 0, 0) := rfl
theorem r127_20 : Rn 127 (20, [x0, x1, x2], [], a, h) = some (none, a, h) := Rn_act c127_20
theorem c128_0 : mcode 128 0 = some (.iload_n 0, 1, 0, 0, 0) := rfl
theorem r128_0 : Rn 128 (0, [some (.int i)], st, a, h) = Rn 128 (1, [some (.int i)], .int i :: st, a, h) := Rn_go c128_0 rfl
theorem c128_1 : mcode 128 1 = some (.ifCond .lt 13, 3, 0, 0, 0) := rfl
theorem r128_1 : Rn 128 (1, [x0], .int i :: st, a, h) = if i < 0 then Rn 128 (14, [x0], st, a, h) else Rn 128 (4, [x0], st, a, h) := Rn_ifc c128_1 mc_lt rfl rfl
theorem c128_4 : mcode 128 4 = some (.iload_n 0, 1, 0, 0, 0) := rfl
theorem r128_4 : Rn 128 (4, [some (.int i)], st, a, h) = Rn 128 (5, [some (.int i)], .int i :: st, a, h) := Rn_go c128_4 rfl
theorem c128_5 : mcode 128 5 = some (.bipush 8, 2, 0, 0, 0) := rfl
theorem r128_5 : Rn 128 (5, [x0], st, a, h) = Rn 128 (7, [x0], .int (8 : Int32) :: st, a, h) := Rn_go c128_5 rfl
theorem c128_7 : mcode 128 7 = some (.if_icmp .ge 7, 3, 0, 0, 0) := rfl
theorem r128_7 : Rn 128 (7, [x0], .int j :: .int i :: st, a, h) = if i < j then Rn 128 (10, [x0], st, a, h) else Rn 128 (14, [x0], st, a, h) := Rn_icmpn c128_7 mc_ge rfl rfl
theorem c128_10 : mcode 128 10 = some (.iconst 1, 1, 0, 0, 0) := rfl
theorem r128_10 : Rn 128 (10, [x0], st, a, h) = Rn 128 (11, [x0], .int (1 : Int32) :: st, a, h) := Rn_go c128_10 rfl
theorem c128_11 : mcode 128 11 = some (.goto 4, 3, 0, 0, 0) := rfl
theorem r128_11 : Rn 128 (11, [x0], st, a, h) = Rn 128 (15, [x0], st, a, h) := Rn_goto c128_11 rfl
theorem c128_14 : mcode 128 14 = some (.iconst 0, 1, 0, 0, 0) := rfl
theorem r128_14 : Rn 128 (14, [x0], st, a, h) = Rn 128 (15, [x0], .int (0 : Int32) :: st, a, h) := Rn_go c128_14 rfl
theorem c128_15 : mcode 128 15 = some (.ireturn, 1, 1, 0, 0) := rfl
theorem r128_15 : Rn 128 (15, [x0], [.int i], a, h) = if mrt 1 i = true then some (some (.int i), a, h) else none := Rn_iretz c128_15
theorem c129_0 : mcode 129 0 = some (.iload_n 0, 1, 0, 0, 0) := rfl
theorem r129_0 : Rn 129 (0, [some (.int i)], st, a, h) = Rn 129 (1, [some (.int i)], .int i :: st, a, h) := Rn_go c129_0 rfl
theorem c129_1 : mcode 129 1 = some (.ifCond .lt 12, 3, 0, 0, 0) := rfl
theorem r129_1 : Rn 129 (1, [x0], .int i :: st, a, h) = if i < 0 then Rn 129 (13, [x0], st, a, h) else Rn 129 (4, [x0], st, a, h) := Rn_ifc c129_1 mc_lt rfl rfl
theorem c129_4 : mcode 129 4 = some (.iload_n 0, 1, 0, 0, 0) := rfl
theorem r129_4 : Rn 129 (4, [some (.int i)], st, a, h) = Rn 129 (5, [some (.int i)], .int i :: st, a, h) := Rn_go c129_4 rfl
theorem c129_5 : mcode 129 5 = some (.iconst 3, 1, 0, 0, 0) := rfl
theorem r129_5 : Rn 129 (5, [x0], st, a, h) = Rn 129 (6, [x0], .int (3 : Int32) :: st, a, h) := Rn_go c129_5 rfl
theorem c129_6 : mcode 129 6 = some (.if_icmp .ge 7, 3, 0, 0, 0) := rfl
theorem r129_6 : Rn 129 (6, [x0], .int j :: .int i :: st, a, h) = if i < j then Rn 129 (9, [x0], st, a, h) else Rn 129 (13, [x0], st, a, h) := Rn_icmpn c129_6 mc_ge rfl rfl
theorem c129_9 : mcode 129 9 = some (.iconst 1, 1, 0, 0, 0) := rfl
theorem r129_9 : Rn 129 (9, [x0], st, a, h) = Rn 129 (10, [x0], .int (1 : Int32) :: st, a, h) := Rn_go c129_9 rfl
theorem c129_10 : mcode 129 10 = some (.goto 4, 3, 0, 0, 0) := rfl
theorem r129_10 : Rn 129 (10, [x0], st, a, h) = Rn 129 (14, [x0], st, a, h) := Rn_goto c129_10 rfl
theorem c129_13 : mcode 129 13 = some (.iconst 0, 1, 0, 0, 0) := rfl
theorem r129_13 : Rn 129 (13, [x0], st, a, h) = Rn 129 (14, [x0], .int (0 : Int32) :: st, a, h) := Rn_go c129_13 rfl
theorem c129_14 : mcode 129 14 = some (.ireturn, 1, 1, 0, 0) := rfl
theorem r129_14 : Rn 129 (14, [x0], [.int i], a, h) = if mrt 1 i = true then some (some (.int i), a, h) else none := Rn_iretz c129_14
theorem c130_0 : mcode 130 0 = some (.iload_n 1, 1, 0, 0, 0) := rfl
theorem r130_0 : Rn 130 (0, [x0, some (.int i)], st, a, h) = Rn 130 (1, [x0, some (.int i)], .int i :: st, a, h) := Rn_go c130_0 rfl
theorem c130_1 : mcode 130 1 = some (.ifCond .lt 17, 3, 0, 0, 0) := rfl
theorem r130_1 : Rn 130 (1, [x0, x1], .int i :: st, a, h) = if i < 0 then Rn 130 (18, [x0, x1], st, a, h) else Rn 130 (4, [x0, x1], st, a, h) := Rn_ifc c130_1 mc_lt rfl rfl
theorem c130_4 : mcode 130 4 = some (.iload_n 1, 1, 0, 0, 0) := rfl
theorem r130_4 : Rn 130 (4, [x0, some (.int i)], st, a, h) = Rn 130 (5, [x0, some (.int i)], .int i :: st, a, h) := Rn_go c130_4 rfl
theorem c130_5 : mcode 130 5 = some (.aload_n 0, 1, 0, 0, 0) := rfl
theorem r130_5 : Rn 130 (5, [some (.ref q), x1], st, a, h) = Rn 130 (6, [some (.ref q), x1], .ref q :: st, a, h) := Rn_go c130_5 rfl
theorem c130_6 : mcode 130 6 = some (.getfield 7, 3, 6, 0, 0) := rfl
theorem r130_6 : Rn 130 (6, [x0, x1], .ref q :: st, a, h) = Kv 130 9 [x0, x1] st a h (mgf h q 6 0) := Rn_getf c130_6 rfl
theorem c130_9 : mcode 130 9 = some (.iconst 0, 1, 0, 0, 0) := rfl
theorem r130_9 : Rn 130 (9, [x0, x1], st, a, h) = Rn 130 (10, [x0, x1], .int (0 : Int32) :: st, a, h) := Rn_go c130_9 rfl
theorem c130_10 : mcode 130 10 = some (.iaload, 1, 0, 0, 0) := rfl
theorem r130_10 : Rn 130 (10, [x0, x1], .int i :: .ref q :: st, a, h) = Ki 130 11 [x0, x1] st a h (mld h q i false) := Rn_iald c130_10 rfl
theorem c130_11 : mcode 130 11 = some (.if_icmp .ge 7, 3, 0, 0, 0) := rfl
theorem r130_11 : Rn 130 (11, [x0, x1], .int j :: .int i :: st, a, h) = if i < j then Rn 130 (14, [x0, x1], st, a, h) else Rn 130 (18, [x0, x1], st, a, h) := Rn_icmpn c130_11 mc_ge rfl rfl
theorem c130_14 : mcode 130 14 = some (.iconst 1, 1, 0, 0, 0) := rfl
theorem r130_14 : Rn 130 (14, [x0, x1], st, a, h) = Rn 130 (15, [x0, x1], .int (1 : Int32) :: st, a, h) := Rn_go c130_14 rfl
theorem c130_15 : mcode 130 15 = some (.goto 4, 3, 0, 0, 0) := rfl
theorem r130_15 : Rn 130 (15, [x0, x1], st, a, h) = Rn 130 (19, [x0, x1], st, a, h) := Rn_goto c130_15 rfl
theorem c130_18 : mcode 130 18 = some (.iconst 0, 1, 0, 0, 0) := rfl
theorem r130_18 : Rn 130 (18, [x0, x1], st, a, h) = Rn 130 (19, [x0, x1], .int (0 : Int32) :: st, a, h) := Rn_go c130_18 rfl
theorem c130_19 : mcode 130 19 = some (.ireturn, 1, 1, 0, 0) := rfl
theorem r130_19 : Rn 130 (19, [x0, x1], [.int i], a, h) = if mrt 1 i = true then some (some (.int i), a, h) else none := Rn_iretz c130_19
theorem c131_0 : mcode 131 0 = some (.bipush 28, 2, 0, 0, 0) := rfl
theorem r131_0 : Rn 131 (0, [x0, x1], st, a, h) = Rn 131 (2, [x0, x1], .int (28 : Int32) :: st, a, h) := Rn_go c131_0 rfl
theorem c131_2 : mcode 131 2 = some (.bipush 6, 2, 0, 0, 0) := rfl
theorem r131_2 : Rn 131 (2, [x0, x1], st, a, h) = Rn 131 (4, [x0, x1], .int (6 : Int32) :: st, a, h) := Rn_go c131_2 rfl
theorem c131_4 : mcode 131 4 = some (.iload_n 0, 1, 0, 0, 0) := rfl
theorem r131_4 : Rn 131 (4, [some (.int i), x1], st, a, h) = Rn 131 (5, [some (.int i), x1], .int i :: st, a, h) := Rn_go c131_4 rfl
theorem c131_5 : mcode 131 5 = some (.imul, 1, 0, 0, 0) := rfl
theorem r131_5 : Rn 131 (5, [x0, x1], .int j :: .int i :: st, a, h) = Rn 131 (6, [x0, x1], .int (i * j) :: st, a, h) := Rn_go c131_5 rfl
theorem c131_6 : mcode 131 6 = some (.iadd, 1, 0, 0, 0) := rfl
theorem r131_6 : Rn 131 (6, [x0, x1], .int j :: .int i :: st, a, h) = Rn 131 (7, [x0, x1], .int (i + j) :: st, a, h) := Rn_go c131_6 rfl
theorem c131_7 : mcode 131 7 = some (.iload_n 1, 1, 0, 0, 0) := rfl
theorem r131_7 : Rn 131 (7, [x0, some (.int i)], st, a, h) = Rn 131 (8, [x0, some (.int i)], .int i :: st, a, h) := Rn_go c131_7 rfl
theorem c131_8 : mcode 131 8 = some (.iadd, 1, 0, 0, 0) := rfl
theorem r131_8 : Rn 131 (8, [x0, x1], .int j :: .int i :: st, a, h) = Rn 131 (9, [x0, x1], .int (i + j) :: st, a, h) := Rn_go c131_8 rfl
theorem c131_9 : mcode 131 9 = some (.ireturn, 1, 0, 0, 0) := rfl
theorem r131_9 : Rn 131 (9, [x0, x1], [.int i], a, h) = some (some (.int i), a, h) := Rn_ireti c131_9
theorem c132_0 : mcode 132 0 = some (.aload_n 0, 1, 0, 0, 0) := rfl
theorem r132_0 : Rn 132 (0, [some (.ref q), x1, x2], st, a, h) = Rn 132 (1, [some (.ref q), x1, x2], .ref q :: st, a, h) := Rn_go c132_0 rfl
theorem c132_1 : mcode 132 1 = some (.getfield 7, 3, 6, 0, 0) := rfl
theorem r132_1 : Rn 132 (1, [x0, x1, x2], .ref q :: st, a, h) = Kv 132 4 [x0, x1, x2] st a h (mgf h q 6 0) := Rn_getf c132_1 rfl
theorem c132_4 : mcode 132 4 = some (.bipush 28, 2, 0, 0, 0) := rfl
theorem r132_4 : Rn 132 (4, [x0, x1, x2], st, a, h) = Rn 132 (6, [x0, x1, x2], .int (28 : Int32) :: st, a, h) := Rn_go c132_4 rfl
theorem c132_6 : mcode 132 6 = some (.bipush 6, 2, 0, 0, 0) := rfl
theorem r132_6 : Rn 132 (6, [x0, x1, x2], st, a, h) = Rn 132 (8, [x0, x1, x2], .int (6 : Int32) :: st, a, h) := Rn_go c132_6 rfl
theorem c132_8 : mcode 132 8 = some (.iload_n 1, 1, 0, 0, 0) := rfl
theorem r132_8 : Rn 132 (8, [x0, some (.int i), x2], st, a, h) = Rn 132 (9, [x0, some (.int i), x2], .int i :: st, a, h) := Rn_go c132_8 rfl
theorem c132_9 : mcode 132 9 = some (.imul, 1, 0, 0, 0) := rfl
theorem r132_9 : Rn 132 (9, [x0, x1, x2], .int j :: .int i :: st, a, h) = Rn 132 (10, [x0, x1, x2], .int (i * j) :: st, a, h) := Rn_go c132_9 rfl
theorem c132_10 : mcode 132 10 = some (.iadd, 1, 0, 0, 0) := rfl
theorem r132_10 : Rn 132 (10, [x0, x1, x2], .int j :: .int i :: st, a, h) = Rn 132 (11, [x0, x1, x2], .int (i + j) :: st, a, h) := Rn_go c132_10 rfl
theorem c132_11 : mcode 132 11 = some (.iload_n 2, 1, 0, 0, 0) := rfl
theorem r132_11 : Rn 132 (11, [x0, x1, some (.int i)], st, a, h) = Rn 132 (12, [x0, x1, some (.int i)], .int i :: st, a, h) := Rn_go c132_11 rfl
theorem c132_12 : mcode 132 12 = some (.iadd, 1, 0, 0, 0) := rfl
theorem r132_12 : Rn 132 (12, [x0, x1, x2], .int j :: .int i :: st, a, h) = Rn 132 (13, [x0, x1, x2], .int (i + j) :: st, a, h) := Rn_go c132_12 rfl
theorem c132_13 : mcode 132 13 = some (.iaload, 1, 0, 0, 0) := rfl
theorem r132_13 : Rn 132 (13, [x0, x1, x2], .int i :: .ref q :: st, a, h) = Ki 132 14 [x0, x1, x2] st a h (mld h q i false) := Rn_iald c132_13 rfl
theorem c132_14 : mcode 132 14 = some (.ireturn, 1, 0, 0, 0) := rfl
theorem r132_14 : Rn 132 (14, [x0, x1, x2], [.int i], a, h) = some (some (.int i), a, h) := Rn_ireti c132_14
theorem c133_0 : mcode 133 0 = some (.aload_n 0, 1, 0, 0, 0) := rfl
theorem r133_0 : Rn 133 (0, [some (.ref q), x1, x2], st, a, h) = Rn 133 (1, [some (.ref q), x1, x2], .ref q :: st, a, h) := Rn_go c133_0 rfl
theorem c133_1 : mcode 133 1 = some (.getfield 7, 3, 6, 0, 0) := rfl
theorem r133_1 : Rn 133 (1, [x0, x1, x2], .ref q :: st, a, h) = Kv 133 4 [x0, x1, x2] st a h (mgf h q 6 0) := Rn_getf c133_1 rfl
theorem c133_4 : mcode 133 4 = some (.iconst 4, 1, 0, 0, 0) := rfl
theorem r133_4 : Rn 133 (4, [x0, x1, x2], st, a, h) = Rn 133 (5, [x0, x1, x2], .int (4 : Int32) :: st, a, h) := Rn_go c133_4 rfl
theorem c133_5 : mcode 133 5 = some (.iconst 3, 1, 0, 0, 0) := rfl
theorem r133_5 : Rn 133 (5, [x0, x1, x2], st, a, h) = Rn 133 (6, [x0, x1, x2], .int (3 : Int32) :: st, a, h) := Rn_go c133_5 rfl
theorem c133_6 : mcode 133 6 = some (.iload_n 1, 1, 0, 0, 0) := rfl
theorem r133_6 : Rn 133 (6, [x0, some (.int i), x2], st, a, h) = Rn 133 (7, [x0, some (.int i), x2], .int i :: st, a, h) := Rn_go c133_6 rfl
theorem c133_7 : mcode 133 7 = some (.imul, 1, 0, 0, 0) := rfl
theorem r133_7 : Rn 133 (7, [x0, x1, x2], .int j :: .int i :: st, a, h) = Rn 133 (8, [x0, x1, x2], .int (i * j) :: st, a, h) := Rn_go c133_7 rfl
theorem c133_8 : mcode 133 8 = some (.iadd, 1, 0, 0, 0) := rfl
theorem r133_8 : Rn 133 (8, [x0, x1, x2], .int j :: .int i :: st, a, h) = Rn 133 (9, [x0, x1, x2], .int (i + j) :: st, a, h) := Rn_go c133_8 rfl
theorem c133_9 : mcode 133 9 = some (.iload_n 2, 1, 0, 0, 0) := rfl
theorem r133_9 : Rn 133 (9, [x0, x1, some (.int i)], st, a, h) = Rn 133 (10, [x0, x1, some (.int i)], .int i :: st, a, h) := Rn_go c133_9 rfl
theorem c133_10 : mcode 133 10 = some (.iadd, 1, 0, 0, 0) := rfl
theorem r133_10 : Rn 133 (10, [x0, x1, x2], .int j :: .int i :: st, a, h) = Rn 133 (11, [x0, x1, x2], .int (i + j) :: st, a, h) := Rn_go c133_10 rfl
theorem c133_11 : mcode 133 11 = some (.iaload, 1, 0, 0, 0) := rfl
theorem r133_11 : Rn 133 (11, [x0, x1, x2], .int i :: .ref q :: st, a, h) = Ki 133 12 [x0, x1, x2] st a h (mld h q i false) := Rn_iald c133_11 rfl
theorem c133_12 : mcode 133 12 = some (.ireturn, 1, 0, 0, 0) := rfl
theorem r133_12 : Rn 133 (12, [x0, x1, x2], [.int i], a, h) = some (some (.int i), a, h) := Rn_ireti c133_12
theorem c134_0 : mcode 134 0 = some (.iload_n 0, 1, 0, 0, 0) := rfl
theorem r134_0 : Rn 134 (0, [some (.int i), x1], st, a, h) = Rn 134 (1, [some (.int i), x1], .int i :: st, a, h) := Rn_go c134_0 rfl
theorem c134_1 : mcode 134 1 = some (.iload_n 1, 1, 0, 0, 0) := rfl
theorem r134_1 : Rn 134 (1, [x0, some (.int i)], st, a, h) = Rn 134 (2, [x0, some (.int i)], .int i :: st, a, h) := Rn_go c134_1 rfl
theorem c134_2 : mcode 134 2 = some (.if_icmp .ge 7, 3, 0, 0, 0) := rfl
theorem r134_2 : Rn 134 (2, [x0, x1], .int j :: .int i :: st, a, h) = if i < j then Rn 134 (5, [x0, x1], st, a, h) else Rn 134 (9, [x0, x1], st, a, h) := Rn_icmpn c134_2 mc_ge rfl rfl
theorem c134_5 : mcode 134 5 = some (.iload_n 0, 1, 0, 0, 0) := rfl
theorem r134_5 : Rn 134 (5, [some (.int i), x1], st, a, h) = Rn 134 (6, [some (.int i), x1], .int i :: st, a, h) := Rn_go c134_5 rfl
theorem c134_6 : mcode 134 6 = some (.goto 4, 3, 0, 0, 0) := rfl
theorem r134_6 : Rn 134 (6, [x0, x1], st, a, h) = Rn 134 (10, [x0, x1], st, a, h) := Rn_goto c134_6 rfl
theorem c134_9 : mcode 134 9 = some (.iload_n 1, 1, 0, 0, 0) := rfl
theorem r134_9 : Rn 134 (9, [x0, some (.int i)], st, a, h) = Rn 134 (10, [x0, some (.int i)], .int i :: st, a, h) := Rn_go c134_9 rfl
theorem c134_10 : mcode 134 10 = some (.ireturn, 1, 0, 0, 0) := rfl
theorem r134_10 : Rn 134 (10, [x0, x1], [.int i], a, h) = some (some (.int i), a, h) := Rn_ireti c134_10
theorem c135_0 : mcode 135 0 = some (.iload_n 0, 1, 0, 0, 0) := rfl
theorem r135_0 : Rn 135 (0, [some (.int i), x1], st, a, h) = Rn 135 (1, [some (.int i), x1], .int i :: st, a, h) := Rn_go c135_0 rfl
theorem c135_1 : mcode 135 1 = some (.iload_n 1, 1, 0, 0, 0) := rfl
theorem r135_1 : Rn 135 (1, [x0, some (.int i)], st, a, h) = Rn 135 (2, [x0, some (.int i)], .int i :: st, a, h) := Rn_go c135_1 rfl
theorem c135_2 : mcode 135 2 = some (.if_icmp .le 7, 3, 0, 0, 0) := rfl
theorem r135_2 : Rn 135 (2, [x0, x1], .int j :: .int i :: st, a, h) = if j < i then Rn 135 (5, [x0, x1], st, a, h) else Rn 135 (9, [x0, x1], st, a, h) := Rn_icmpn c135_2 mc_le rfl rfl
theorem c135_5 : mcode 135 5 = some (.iload_n 0, 1, 0, 0, 0) := rfl
theorem r135_5 : Rn 135 (5, [some (.int i), x1], st, a, h) = Rn 135 (6, [some (.int i), x1], .int i :: st, a, h) := Rn_go c135_5 rfl
theorem c135_6 : mcode 135 6 = some (.goto 4, 3, 0, 0, 0) := rfl
theorem r135_6 : Rn 135 (6, [x0, x1], st, a, h) = Rn 135 (10, [x0, x1], st, a, h) := Rn_goto c135_6 rfl
theorem c135_9 : mcode 135 9 = some (.iload_n 1, 1, 0, 0, 0) := rfl
theorem r135_9 : Rn 135 (9, [x0, some (.int i)], st, a, h) = Rn 135 (10, [x0, some (.int i)], .int i :: st, a, h) := Rn_go c135_9 rfl
theorem c135_10 : mcode 135 10 = some (.ireturn, 1, 0, 0, 0) := rfl
theorem r135_10 : Rn 135 (10, [x0, x1], [.int i], a, h) = some (some (.int i), a, h) := Rn_ireti c135_10
theorem c136_0 : mcode 136 0 = some (.iload_n 1, 1, 0, 0, 0) := rfl
theorem r136_0 : Rn 136 (0, [x0, some (.int i)], st, a, h) = Rn 136 (1, [x0, some (.int i)], .int i :: st, a, h) := Rn_go c136_0 rfl
theorem c136_1 : mcode 136 1 = some (.ifCond .ge 12, 3, 0, 0, 0) := rfl
theorem r136_1 : Rn 136 (1, [x0, x1], .int i :: st, a, h) = if i < 0 then Rn 136 (4, [x0, x1], st, a, h) else Rn 136 (13, [x0, x1], st, a, h) := Rn_ifcn c136_1 mc_ge rfl rfl
theorem c136_4 : mcode 136 4 = some (.aload_n 0, 1, 0, 0, 0) := rfl
theorem r136_4 : Rn 136 (4, [some (.ref q), x1], st, a, h) = Rn 136 (5, [some (.ref q), x1], .ref q :: st, a, h) := Rn_go c136_4 rfl
theorem c136_5 : mcode 136 5 = some (.ldc 38, 2, 0, 0, -1000004) := rfl
theorem r136_5 : Rn 136 (5, [x0, x1], st, a, h) = Rn 136 (7, [x0, x1], .int (-1000004 : Int32) :: st, a, h) := Rn_go c136_5 rfl
theorem c136_7 : mcode 136 7 = some (.invokevirtual 39, 3, 125, 1, 6) := rfl
theorem r136_7 : Rn 136 (7, [x0, x1], [v0, .ref q], a, h) = if mis h q 6 = true then Bk 136 10 [x0, x1] [] (Ec 125 [.ref q, v0] a h) else none := Rn_call1 c136_7 rfl (Nat.le_of_ble_eq_true rfl) rfl rfl (Nat.le_of_ble_eq_true rfl)
theorem c136_10 : mcode 136 10 = some (.goto 4, 3, 0, 0, 0) := rfl
theorem r136_10 : Rn 136 (10, [x0, x1], st, a, h) = Rn 136 (14, [x0, x1], st, a, h) := Rn_goto c136_10 rfl
theorem c136_13 : mcode 136 13 = some (.iload_n 1, 1, 0, 0, 0) := rfl
theorem r136_13 : Rn 136 (13, [x0, some (.int i)], st, a, h) = Rn 136 (14, [x0, some (.int i)], .int i :: st, a, h) := Rn_go c136_13 rfl
theorem c136_14 : mcode 136 14 = some (.ireturn, 1, 0, 0, 0) := rfl
theorem r136_14 : Rn 136 (14, [x0, x1], [.int i], a, h) = some (some (.int i), a, h) := Rn_ireti c136_14
theorem c137_0 : mcode 137 0 = some (.iconst 0, 1, 0, 0, 0) := rfl
theorem r137_0 : Rn 137 (0, [x0, x1, x2], st, a, h) = Rn 137 (1, [x0, x1, x2], .int (0 : Int32) :: st, a, h) := Rn_go c137_0 rfl
theorem c137_1 : mcode 137 1 = some (.istore_n 1, 1, 0, 0, 0) := rfl
theorem r137_1 : Rn 137 (1, [x0, x1, x2], .int i :: st, a, h) = Nl x0 (Rn 137 (2, [x0, some (.int i), x2], st, a, h)) := Rn_st1 (k := 1) (v := .int i) x0 c137_1 rfl rfl rfl rfl
theorem c137_2 : mcode 137 2 = some (.iload_n 0, 1, 0, 0, 0) := rfl
theorem r137_2 : Rn 137 (2, [some (.int i), x1, x2], st, a, h) = Rn 137 (3, [some (.int i), x1, x2], .int i :: st, a, h) := Rn_go c137_2 rfl
theorem c137_3 : mcode 137 3 = some (.istore_n 2, 1, 0, 0, 0) := rfl
theorem r137_3 : Rn 137 (3, [x0, x1, x2], .int i :: st, a, h) = Nl x1 (Rn 137 (4, [x0, x1, some (.int i)], st, a, h)) := Rn_st1 (k := 2) (v := .int i) x1 c137_3 rfl rfl rfl rfl
theorem c137_4 : mcode 137 4 = some (.iload_n 2, 1, 0, 0, 0) := rfl
theorem r137_4 : Rn 137 (4, [x0, x1, some (.int i)], st, a, h) = Rn 137 (5, [x0, x1, some (.int i)], .int i :: st, a, h) := Rn_go c137_4 rfl
theorem c137_5 : mcode 137 5 = some (.ifCond .eq 15, 3, 0, 0, 0) := rfl
theorem r137_5 : Rn 137 (5, [x0, x1, x2], .int i :: st, a, h) = if i = 0 then Rn 137 (20, [x0, x1, x2], st, a, h) else Rn 137 (8, [x0, x1, x2], st, a, h) := Rn_ifc c137_5 mc_eq rfl rfl
theorem c137_8 : mcode 137 8 = some (.iinc 1 1, 3, 0, 0, 0) := rfl
theorem r137_8 : Rn 137 (8, [x0, some (.int i), x2], st, a, h) = Nl x0 (Rn 137 (11, [x0, some (.int (i + (1 : Int32))), x2], st, a, h)) := Rn_st1 (k := 1) (v := .int (i + (1 : Int32))) x0 c137_8 rfl rfl rfl rfl
theorem c137_11 : mcode 137 11 = some (.iload_n 2, 1, 0, 0, 0) := rfl
theorem r137_11 : Rn 137 (11, [x0, x1, some (.int i)], st, a, h) = Rn 137 (12, [x0, x1, some (.int i)], .int i :: st, a, h) := Rn_go c137_11 rfl
theorem c137_12 : mcode 137 12 = some (.iload_n 2, 1, 0, 0, 0) := rfl
theorem r137_12 : Rn 137 (12, [x0, x1, some (.int i)], st, a, h) = Rn 137 (13, [x0, x1, some (.int i)], .int i :: st, a, h) := Rn_go c137_12 rfl
theorem c137_13 : mcode 137 13 = some (.iconst 1, 1, 0, 0, 0) := rfl
theorem r137_13 : Rn 137 (13, [x0, x1, x2], st, a, h) = Rn 137 (14, [x0, x1, x2], .int (1 : Int32) :: st, a, h) := Rn_go c137_13 rfl
theorem c137_14 : mcode 137 14 = some (.isub, 1, 0, 0, 0) := rfl
theorem r137_14 : Rn 137 (14, [x0, x1, x2], .int j :: .int i :: st, a, h) = Rn 137 (15, [x0, x1, x2], .int (i - j) :: st, a, h) := Rn_go c137_14 rfl
theorem c137_15 : mcode 137 15 = some (.iand, 1, 0, 0, 0) := rfl
theorem r137_15 : Rn 137 (15, [x0, x1, x2], .int j :: .int i :: st, a, h) = Rn 137 (16, [x0, x1, x2], .int (i &&& j) :: st, a, h) := Rn_go c137_15 rfl
theorem c137_16 : mcode 137 16 = some (.istore_n 2, 1, 0, 0, 0) := rfl
theorem r137_16 : Rn 137 (16, [x0, x1, x2], .int i :: st, a, h) = Nl x1 (Rn 137 (17, [x0, x1, some (.int i)], st, a, h)) := Rn_st1 (k := 2) (v := .int i) x1 c137_16 rfl rfl rfl rfl
theorem c137_17 : mcode 137 17 = some (.goto (-13), 3, 0, 0, 0) := rfl
theorem r137_17 : Rn 137 (17, [x0, x1, x2], st, a, h) = Rn 137 (4, [x0, x1, x2], st, a, h) := Rn_goto c137_17 rfl
theorem c137_20 : mcode 137 20 = some (.iload_n 1, 1, 0, 0, 0) := rfl
theorem r137_20 : Rn 137 (20, [x0, some (.int i), x2], st, a, h) = Rn 137 (21, [x0, some (.int i), x2], .int i :: st, a, h) := Rn_go c137_20 rfl
theorem c137_21 : mcode 137 21 = some (.ireturn, 1, 0, 0, 0) := rfl
theorem r137_21 : Rn 137 (21, [x0, x1, x2], [.int i], a, h) = some (some (.int i), a, h) := Rn_ireti c137_21
theorem c138_0 : mcode 138 0 = some (.iload_n 1, 1, 0, 0, 0) := rfl
theorem r138_0 : Rn 138 (0, [x0, some (.int i), x2, x3], st, a, h) = Rn 138 (1, [x0, some (.int i), x2, x3], .int i :: st, a, h) := Rn_go c138_0 rfl
theorem c138_1 : mcode 138 1 = some (.invokestatic 43, 3, 128, 1, 0) := rfl
theorem r138_1 : Rn 138 (1, [x0, x1, x2, x3], [v0], a, h) = Bk 138 4 [x0, x1, x2, x3] [] (Ec 128 [v0] a h) := Rn_call0 c138_1 (fun z => nomatch z) rfl (Nat.le_of_ble_eq_true rfl) rfl rfl (Nat.le_of_ble_eq_true rfl)
theorem c138_4 : mcode 138 4 = some (.ifCond .eq 37, 3, 0, 0, 0) := rfl
theorem r138_4 : Rn 138 (4, [x0, x1, x2, x3], .int i :: st, a, h) = if i = 0 then Rn 138 (41, [x0, x1, x2, x3], st, a, h) else Rn 138 (7, [x0, x1, x2, x3], st, a, h) := Rn_ifc c138_4 mc_eq rfl rfl
theorem c138_7 : mcode 138 7 = some (.iload_n 2, 1, 0, 0, 0) := rfl
theorem r138_7 : Rn 138 (7, [x0, x1, some (.int i), x3], st, a, h) = Rn 138 (8, [x0, x1, some (.int i), x3], .int i :: st, a, h) := Rn_go c138_7 rfl
theorem c138_8 : mcode 138 8 = some (.invokestatic 47, 3, 129, 1, 0) := rfl
theorem r138_8 : Rn 138 (8, [x0, x1, x2, x3], [v0], a, h) = Bk 138 11 [x0, x1, x2, x3] [] (Ec 129 [v0] a h) := Rn_call0 c138_8 (fun z => nomatch z) rfl (Nat.le_of_ble_eq_true rfl) rfl rfl (Nat.le_of_ble_eq_true rfl)
theorem c138_11 : mcode 138 11 = some (.ifCond .eq 30, 3, 0, 0, 0) := rfl
theorem r138_11 : Rn 138 (11, [x0, x1, x2, x3], .int i :: st, a, h) = if i = 0 then Rn 138 (41, [x0, x1, x2, x3], st, a, h) else Rn 138 (14, [x0, x1, x2, x3], st, a, h) := Rn_ifc c138_11 mc_eq rfl rfl
theorem c138_14 : mcode 138 14 = some (.iload_n 3, 1, 0, 0, 0) := rfl
theorem r138_14 : Rn 138 (14, [x0, x1, x2, some (.int i)], st, a, h) = Rn 138 (15, [x0, x1, x2, some (.int i)], .int i :: st, a, h) := Rn_go c138_14 rfl
theorem c138_15 : mcode 138 15 = some (.i2l, 1, 0, 0, 0) := rfl
theorem r138_15 : Rn 138 (15, [x0, x1, x2, x3], .int i :: st, a, h) = Rn 138 (16, [x0, x1, x2, x3], .long i.toInt64 :: st, a, h) := Rn_go c138_15 rfl
theorem c138_16 : mcode 138 16 = some (.lconst 0, 1, 0, 0, 0) := rfl
theorem r138_16 : Rn 138 (16, [x0, x1, x2, x3], st, a, h) = Rn 138 (17, [x0, x1, x2, x3], .long (0 : Int64) :: st, a, h) := Rn_go c138_16 rfl
theorem c138_17 : mcode 138 17 = some (.ldc2_w 50, 3, 0, 0, 999) := rfl
theorem r138_17 : Rn 138 (17, [x0, x1, x2, x3], st, a, h) = Rn 138 (20, [x0, x1, x2, x3], .long (999 : Int64) :: st, a, h) := Rn_go c138_17 rfl
theorem c138_20 : mcode 138 20 = some (.invokestatic 52, 3, 124, 3, 0) := rfl
theorem r138_20 : Rn 138 (20, [x0, x1, x2, x3], [v2, v1, v0], a, h) = Bk 138 23 [x0, x1, x2, x3] [] (Ec 124 [v0, v1, v2] a h) := Rn_call0 c138_20 (fun z => nomatch z) rfl (Nat.le_of_ble_eq_true rfl) rfl rfl (Nat.le_of_ble_eq_true rfl)
theorem c138_23 : mcode 138 23 = some (.ifCond .eq 18, 3, 0, 0, 0) := rfl
theorem r138_23 : Rn 138 (23, [x0, x1, x2, x3], .int i :: st, a, h) = if i = 0 then Rn 138 (41, [x0, x1, x2, x3], st, a, h) else Rn 138 (26, [x0, x1, x2, x3], st, a, h) := Rn_ifc c138_23 mc_eq rfl rfl
theorem c138_26 : mcode 138 26 = some (.aload_n 0, 1, 0, 0, 0) := rfl
theorem r138_26 : Rn 138 (26, [some (.ref q), x1, x2, x3], st, a, h) = Rn 138 (27, [some (.ref q), x1, x2, x3], .ref q :: st, a, h) := Rn_go c138_26 rfl
theorem c138_27 : mcode 138 27 = some (.iconst 4, 1, 0, 0, 0) := rfl
theorem r138_27 : Rn 138 (27, [x0, x1, x2, x3], st, a, h) = Rn 138 (28, [x0, x1, x2, x3], .int (4 : Int32) :: st, a, h) := Rn_go c138_27 rfl
theorem c138_28 : mcode 138 28 = some (.iconst 3, 1, 0, 0, 0) := rfl
theorem r138_28 : Rn 138 (28, [x0, x1, x2, x3], st, a, h) = Rn 138 (29, [x0, x1, x2, x3], .int (3 : Int32) :: st, a, h) := Rn_go c138_28 rfl
theorem c138_29 : mcode 138 29 = some (.iload_n 1, 1, 0, 0, 0) := rfl
theorem r138_29 : Rn 138 (29, [x0, some (.int i), x2, x3], st, a, h) = Rn 138 (30, [x0, some (.int i), x2, x3], .int i :: st, a, h) := Rn_go c138_29 rfl
theorem c138_30 : mcode 138 30 = some (.imul, 1, 0, 0, 0) := rfl
theorem r138_30 : Rn 138 (30, [x0, x1, x2, x3], .int j :: .int i :: st, a, h) = Rn 138 (31, [x0, x1, x2, x3], .int (i * j) :: st, a, h) := Rn_go c138_30 rfl
theorem c138_31 : mcode 138 31 = some (.iadd, 1, 0, 0, 0) := rfl
theorem r138_31 : Rn 138 (31, [x0, x1, x2, x3], .int j :: .int i :: st, a, h) = Rn 138 (32, [x0, x1, x2, x3], .int (i + j) :: st, a, h) := Rn_go c138_31 rfl
theorem c138_32 : mcode 138 32 = some (.iload_n 2, 1, 0, 0, 0) := rfl
theorem r138_32 : Rn 138 (32, [x0, x1, some (.int i), x3], st, a, h) = Rn 138 (33, [x0, x1, some (.int i), x3], .int i :: st, a, h) := Rn_go c138_32 rfl
theorem c138_33 : mcode 138 33 = some (.iadd, 1, 0, 0, 0) := rfl
theorem r138_33 : Rn 138 (33, [x0, x1, x2, x3], .int j :: .int i :: st, a, h) = Rn 138 (34, [x0, x1, x2, x3], .int (i + j) :: st, a, h) := Rn_go c138_33 rfl
theorem c138_34 : mcode 138 34 = some (.iload_n 3, 1, 0, 0, 0) := rfl
theorem r138_34 : Rn 138 (34, [x0, x1, x2, some (.int i)], st, a, h) = Rn 138 (35, [x0, x1, x2, some (.int i)], .int i :: st, a, h) := Rn_go c138_34 rfl
theorem c138_35 : mcode 138 35 = some (.invokevirtual 56, 3, 126, 2, 6) := rfl
theorem r138_35 : Rn 138 (35, [x0, x1, x2, x3], [v1, v0, .ref q], a, h) = if mis h q 6 = true then Bk 138 38 [x0, x1, x2, x3] [] (Ec 126 [.ref q, v0, v1] a h) else none := Rn_call1 c138_35 rfl (Nat.le_of_ble_eq_true rfl) rfl rfl (Nat.le_of_ble_eq_true rfl)
theorem c138_38 : mcode 138 38 = some (.goto 9, 3, 0, 0, 0) := rfl
theorem r138_38 : Rn 138 (38, [x0, x1, x2, x3], st, a, h) = Rn 138 (47, [x0, x1, x2, x3], st, a, h) := Rn_goto c138_38 rfl
theorem c138_41 : mcode 138 41 = some (.aload_n 0, 1, 0, 0, 0) := rfl
theorem r138_41 : Rn 138 (41, [some (.ref q), x1, x2, x3], st, a, h) = Rn 138 (42, [some (.ref q), x1, x2, x3], .ref q :: st, a, h) := Rn_go c138_41 rfl
theorem c138_42 : mcode 138 42 = some (.ldc 37, 2, 0, 0, -1000001) := rfl
theorem r138_42 : Rn 138 (42, [x0, x1, x2, x3], st, a, h) = Rn 138 (44, [x0, x1, x2, x3], .int (-1000001 : Int32) :: st, a, h) := Rn_go c138_42 rfl
theorem c138_44 : mcode 138 44 = some (.invokevirtual 39, 3, 125, 1, 6) := rfl
theorem r138_44 : Rn 138 (44, [x0, x1, x2, x3], [v0, .ref q], a, h) = if mis h q 6 = true then Bk 138 47 [x0, x1, x2, x3] [] (Ec 125 [.ref q, v0] a h) else none := Rn_call1 c138_44 rfl (Nat.le_of_ble_eq_true rfl) rfl rfl (Nat.le_of_ble_eq_true rfl)
theorem c138_47 : mcode 138 47 = some (.ireturn, 1, 0, 0, 0) := rfl
theorem r138_47 : Rn 138 (47, [x0, x1, x2, x3], [.int i], a, h) = some (some (.int i), a, h) := Rn_ireti c138_47
theorem c139_0 : mcode 139 0 = some (.aload_n 0, 1, 0, 0, 0) := rfl
theorem r139_0 : Rn 139 (0, [some (.ref q), x1], st, a, h) = Rn 139 (1, [some (.ref q), x1], .ref q :: st, a, h) := Rn_go c139_0 rfl
theorem c139_1 : mcode 139 1 = some (.iload_n 1, 1, 0, 0, 0) := rfl
theorem r139_1 : Rn 139 (1, [x0, some (.int i)], st, a, h) = Rn 139 (2, [x0, some (.int i)], .int i :: st, a, h) := Rn_go c139_1 rfl
theorem c139_2 : mcode 139 2 = some (.iconst 0, 1, 0, 0, 0) := rfl
theorem r139_2 : Rn 139 (2, [x0, x1], st, a, h) = Rn 139 (3, [x0, x1], .int (0 : Int32) :: st, a, h) := Rn_go c139_2 rfl
theorem c139_3 : mcode 139 3 = some (.invokevirtual 60, 3, 133, 2, 6) := rfl
theorem r139_3 : Rn 139 (3, [x0, x1], [v1, v0, .ref q], a, h) = if mis h q 6 = true then Bk 139 6 [x0, x1] [] (Ec 133 [.ref q, v0, v1] a h) else none := Rn_call1 c139_3 rfl (Nat.le_of_ble_eq_true rfl) rfl rfl (Nat.le_of_ble_eq_true rfl)
theorem c139_6 : mcode 139 6 = some (.aload_n 0, 1, 0, 0, 0) := rfl
theorem r139_6 : Rn 139 (6, [some (.ref q), x1], st, a, h) = Rn 139 (7, [some (.ref q), x1], .ref q :: st, a, h) := Rn_go c139_6 rfl
theorem c139_7 : mcode 139 7 = some (.iload_n 1, 1, 0, 0, 0) := rfl
theorem r139_7 : Rn 139 (7, [x0, some (.int i)], st, a, h) = Rn 139 (8, [x0, some (.int i)], .int i :: st, a, h) := Rn_go c139_7 rfl
theorem c139_8 : mcode 139 8 = some (.iconst 1, 1, 0, 0, 0) := rfl
theorem r139_8 : Rn 139 (8, [x0, x1], st, a, h) = Rn 139 (9, [x0, x1], .int (1 : Int32) :: st, a, h) := Rn_go c139_8 rfl
theorem c139_9 : mcode 139 9 = some (.invokevirtual 60, 3, 133, 2, 6) := rfl
theorem r139_9 : Rn 139 (9, [x0, x1], [v1, v0, .ref q, .int i0], a, h) = if mis h q 6 = true then Bk 139 12 [x0, x1] [.int i0] (Ec 133 [.ref q, v0, v1] a h) else none := Rn_call1 c139_9 rfl (Nat.le_of_ble_eq_true rfl) rfl rfl (Nat.le_of_ble_eq_true rfl)
theorem c139_12 : mcode 139 12 = some (.iadd, 1, 0, 0, 0) := rfl
theorem r139_12 : Rn 139 (12, [x0, x1], .int j :: .int i :: st, a, h) = Rn 139 (13, [x0, x1], .int (i + j) :: st, a, h) := Rn_go c139_12 rfl
theorem c139_13 : mcode 139 13 = some (.aload_n 0, 1, 0, 0, 0) := rfl
theorem r139_13 : Rn 139 (13, [some (.ref q), x1], st, a, h) = Rn 139 (14, [some (.ref q), x1], .ref q :: st, a, h) := Rn_go c139_13 rfl
theorem c139_14 : mcode 139 14 = some (.iload_n 1, 1, 0, 0, 0) := rfl
theorem r139_14 : Rn 139 (14, [x0, some (.int i)], st, a, h) = Rn 139 (15, [x0, some (.int i)], .int i :: st, a, h) := Rn_go c139_14 rfl
theorem c139_15 : mcode 139 15 = some (.iconst 2, 1, 0, 0, 0) := rfl
theorem r139_15 : Rn 139 (15, [x0, x1], st, a, h) = Rn 139 (16, [x0, x1], .int (2 : Int32) :: st, a, h) := Rn_go c139_15 rfl
theorem c139_16 : mcode 139 16 = some (.invokevirtual 60, 3, 133, 2, 6) := rfl
theorem r139_16 : Rn 139 (16, [x0, x1], [v1, v0, .ref q, .int i0], a, h) = if mis h q 6 = true then Bk 139 19 [x0, x1] [.int i0] (Ec 133 [.ref q, v0, v1] a h) else none := Rn_call1 c139_16 rfl (Nat.le_of_ble_eq_true rfl) rfl rfl (Nat.le_of_ble_eq_true rfl)
theorem c139_19 : mcode 139 19 = some (.iadd, 1, 0, 0, 0) := rfl
theorem r139_19 : Rn 139 (19, [x0, x1], .int j :: .int i :: st, a, h) = Rn 139 (20, [x0, x1], .int (i + j) :: st, a, h) := Rn_go c139_19 rfl
theorem c139_20 : mcode 139 20 = some (.ireturn, 1, 0, 0, 0) := rfl
theorem r139_20 : Rn 139 (20, [x0, x1], [.int i], a, h) = some (some (.int i), a, h) := Rn_ireti c139_20
theorem c140_0 : mcode 140 0 = some (.iconst 0, 1, 0, 0, 0) := rfl
theorem r140_0 : Rn 140 (0, [x0, x1, x2, x3], st, a, h) = Rn 140 (1, [x0, x1, x2, x3], .int (0 : Int32) :: st, a, h) := Rn_go c140_0 rfl
theorem c140_1 : mcode 140 1 = some (.istore_n 2, 1, 0, 0, 0) := rfl
theorem r140_1 : Rn 140 (1, [x0, x1, x2, x3], .int i :: st, a, h) = Nl x1 (Rn 140 (2, [x0, x1, some (.int i), x3], st, a, h)) := Rn_st1 (k := 2) (v := .int i) x1 c140_1 rfl rfl rfl rfl
theorem c140_2 : mcode 140 2 = some (.iconst 0, 1, 0, 0, 0) := rfl
theorem r140_2 : Rn 140 (2, [x0, x1, x2, x3], st, a, h) = Rn 140 (3, [x0, x1, x2, x3], .int (0 : Int32) :: st, a, h) := Rn_go c140_2 rfl
theorem c140_3 : mcode 140 3 = some (.istore_n 3, 1, 0, 0, 0) := rfl
theorem r140_3 : Rn 140 (3, [x0, x1, x2, x3], .int i :: st, a, h) = Nl x2 (Rn 140 (4, [x0, x1, x2, some (.int i)], st, a, h)) := Rn_st1 (k := 3) (v := .int i) x2 c140_3 rfl rfl rfl rfl
theorem c140_4 : mcode 140 4 = some (.iload_n 3, 1, 0, 0, 0) := rfl
theorem r140_4 : Rn 140 (4, [x0, x1, x2, some (.int i)], st, a, h) = Rn 140 (5, [x0, x1, x2, some (.int i)], .int i :: st, a, h) := Rn_go c140_4 rfl
theorem c140_5 : mcode 140 5 = some (.aload_n 0, 1, 0, 0, 0) := rfl
theorem r140_5 : Rn 140 (5, [some (.ref q), x1, x2, x3], st, a, h) = Rn 140 (6, [some (.ref q), x1, x2, x3], .ref q :: st, a, h) := Rn_go c140_5 rfl
theorem c140_6 : mcode 140 6 = some (.getfield 7, 3, 6, 0, 0) := rfl
theorem r140_6 : Rn 140 (6, [x0, x1, x2, x3], .ref q :: st, a, h) = Kv 140 9 [x0, x1, x2, x3] st a h (mgf h q 6 0) := Rn_getf c140_6 rfl
theorem c140_9 : mcode 140 9 = some (.iconst 0, 1, 0, 0, 0) := rfl
theorem r140_9 : Rn 140 (9, [x0, x1, x2, x3], st, a, h) = Rn 140 (10, [x0, x1, x2, x3], .int (0 : Int32) :: st, a, h) := Rn_go c140_9 rfl
theorem c140_10 : mcode 140 10 = some (.iaload, 1, 0, 0, 0) := rfl
theorem r140_10 : Rn 140 (10, [x0, x1, x2, x3], .int i :: .ref q :: st, a, h) = Ki 140 11 [x0, x1, x2, x3] st a h (mld h q i false) := Rn_iald c140_10 rfl
theorem c140_11 : mcode 140 11 = some (.if_icmp .ge 29, 3, 0, 0, 0) := rfl
theorem r140_11 : Rn 140 (11, [x0, x1, x2, x3], .int j :: .int i :: st, a, h) = if i < j then Rn 140 (14, [x0, x1, x2, x3], st, a, h) else Rn 140 (40, [x0, x1, x2, x3], st, a, h) := Rn_icmpn c140_11 mc_ge rfl rfl
theorem c140_14 : mcode 140 14 = some (.iload_n 2, 1, 0, 0, 0) := rfl
theorem r140_14 : Rn 140 (14, [x0, x1, some (.int i), x3], st, a, h) = Rn 140 (15, [x0, x1, some (.int i), x3], .int i :: st, a, h) := Rn_go c140_14 rfl
theorem c140_15 : mcode 140 15 = some (.aload_n 0, 1, 0, 0, 0) := rfl
theorem r140_15 : Rn 140 (15, [some (.ref q), x1, x2, x3], st, a, h) = Rn 140 (16, [some (.ref q), x1, x2, x3], .ref q :: st, a, h) := Rn_go c140_15 rfl
theorem c140_16 : mcode 140 16 = some (.iload_n 3, 1, 0, 0, 0) := rfl
theorem r140_16 : Rn 140 (16, [x0, x1, x2, some (.int i)], st, a, h) = Rn 140 (17, [x0, x1, x2, some (.int i)], .int i :: st, a, h) := Rn_go c140_16 rfl
theorem c140_17 : mcode 140 17 = some (.iconst 1, 1, 0, 0, 0) := rfl
theorem r140_17 : Rn 140 (17, [x0, x1, x2, x3], st, a, h) = Rn 140 (18, [x0, x1, x2, x3], .int (1 : Int32) :: st, a, h) := Rn_go c140_17 rfl
theorem c140_18 : mcode 140 18 = some (.invokevirtual 63, 3, 132, 2, 6) := rfl
theorem r140_18 : Rn 140 (18, [x0, x1, x2, x3], [v1, v0, .ref q, .int i0], a, h) = if mis h q 6 = true then Bk 140 21 [x0, x1, x2, x3] [.int i0] (Ec 132 [.ref q, v0, v1] a h) else none := Rn_call1 c140_18 rfl (Nat.le_of_ble_eq_true rfl) rfl rfl (Nat.le_of_ble_eq_true rfl)
theorem c140_21 : mcode 140 21 = some (.iload_n 1, 1, 0, 0, 0) := rfl
theorem r140_21 : Rn 140 (21, [x0, some (.int i), x2, x3], st, a, h) = Rn 140 (22, [x0, some (.int i), x2, x3], .int i :: st, a, h) := Rn_go c140_21 rfl
theorem c140_22 : mcode 140 22 = some (.if_icmp .ne 9, 3, 0, 0, 0) := rfl
theorem r140_22 : Rn 140 (22, [x0, x1, x2, x3], .int j :: .int i :: st, a, h) = if i = j then Rn 140 (25, [x0, x1, x2, x3], st, a, h) else Rn 140 (31, [x0, x1, x2, x3], st, a, h) := Rn_icmpn c140_22 mc_ne rfl rfl
theorem c140_25 : mcode 140 25 = some (.iconst 1, 1, 0, 0, 0) := rfl
theorem r140_25 : Rn 140 (25, [x0, x1, x2, x3], st, a, h) = Rn 140 (26, [x0, x1, x2, x3], .int (1 : Int32) :: st, a, h) := Rn_go c140_25 rfl
theorem c140_26 : mcode 140 26 = some (.iload_n 3, 1, 0, 0, 0) := rfl
theorem r140_26 : Rn 140 (26, [x0, x1, x2, some (.int i)], st, a, h) = Rn 140 (27, [x0, x1, x2, some (.int i)], .int i :: st, a, h) := Rn_go c140_26 rfl
theorem c140_27 : mcode 140 27 = some (.ishl, 1, 0, 0, 0) := rfl
theorem r140_27 : Rn 140 (27, [x0, x1, x2, x3], .int j :: .int i :: st, a, h) = Rn 140 (28, [x0, x1, x2, x3], .int (i <<< (j &&& 31)) :: st, a, h) := Rn_go c140_27 rfl
theorem c140_28 : mcode 140 28 = some (.goto 4, 3, 0, 0, 0) := rfl
theorem r140_28 : Rn 140 (28, [x0, x1, x2, x3], st, a, h) = Rn 140 (32, [x0, x1, x2, x3], st, a, h) := Rn_goto c140_28 rfl
theorem c140_31 : mcode 140 31 = some (.iconst 0, 1, 0, 0, 0) := rfl
theorem r140_31 : Rn 140 (31, [x0, x1, x2, x3], st, a, h) = Rn 140 (32, [x0, x1, x2, x3], .int (0 : Int32) :: st, a, h) := Rn_go c140_31 rfl
theorem c140_32 : mcode 140 32 = some (.ior, 1, 0, 0, 0) := rfl
theorem r140_32 : Rn 140 (32, [x0, x1, x2, x3], .int j :: .int i :: st, a, h) = Rn 140 (33, [x0, x1, x2, x3], .int (i ||| j) :: st, a, h) := Rn_go c140_32 rfl
theorem c140_33 : mcode 140 33 = some (.istore_n 2, 1, 0, 0, 0) := rfl
theorem r140_33 : Rn 140 (33, [x0, x1, x2, x3], .int i :: st, a, h) = Nl x1 (Rn 140 (34, [x0, x1, some (.int i), x3], st, a, h)) := Rn_st1 (k := 2) (v := .int i) x1 c140_33 rfl rfl rfl rfl
theorem c140_34 : mcode 140 34 = some (.iinc 3 1, 3, 0, 0, 0) := rfl
theorem r140_34 : Rn 140 (34, [x0, x1, x2, some (.int i)], st, a, h) = Nl x2 (Rn 140 (37, [x0, x1, x2, some (.int (i + (1 : Int32)))], st, a, h)) := Rn_st1 (k := 3) (v := .int (i + (1 : Int32))) x2 c140_34 rfl rfl rfl rfl
theorem c140_37 : mcode 140 37 = some (.goto (-33), 3, 0, 0, 0) := rfl
theorem r140_37 : Rn 140 (37, [x0, x1, x2, x3], st, a, h) = Rn 140 (4, [x0, x1, x2, x3], st, a, h) := Rn_goto c140_37 rfl
theorem c140_40 : mcode 140 40 = some (.iload_n 2, 1, 0, 0, 0) := rfl
theorem r140_40 : Rn 140 (40, [x0, x1, some (.int i), x3], st, a, h) = Rn 140 (41, [x0, x1, some (.int i), x3], .int i :: st, a, h) := Rn_go c140_40 rfl
theorem c140_41 : mcode 140 41 = some (.ireturn, 1, 0, 0, 0) := rfl
theorem r140_41 : Rn 140 (41, [x0, x1, x2, x3], [.int i], a, h) = some (some (.int i), a, h) := Rn_ireti c140_41
theorem c141_0 : mcode 141 0 = some (.aload_n 0, 1, 0, 0, 0) := rfl
theorem r141_0 : Rn 141 (0, [some (.ref q), x1, x2], st, a, h) = Rn 141 (1, [some (.ref q), x1, x2], .ref q :: st, a, h) := Rn_go c141_0 rfl
theorem c141_1 : mcode 141 1 = some (.iload_n 1, 1, 0, 0, 0) := rfl
theorem r141_1 : Rn 141 (1, [x0, some (.int i), x2], st, a, h) = Rn 141 (2, [x0, some (.int i), x2], .int i :: st, a, h) := Rn_go c141_1 rfl
theorem c141_2 : mcode 141 2 = some (.iconst 1, 1, 0, 0, 0) := rfl
theorem r141_2 : Rn 141 (2, [x0, x1, x2], st, a, h) = Rn 141 (3, [x0, x1, x2], .int (1 : Int32) :: st, a, h) := Rn_go c141_2 rfl
theorem c141_3 : mcode 141 3 = some (.invokevirtual 60, 3, 133, 2, 6) := rfl
theorem r141_3 : Rn 141 (3, [x0, x1, x2], [v1, v0, .ref q], a, h) = if mis h q 6 = true then Bk 141 6 [x0, x1, x2] [] (Ec 133 [.ref q, v0, v1] a h) else none := Rn_call1 c141_3 rfl (Nat.le_of_ble_eq_true rfl) rfl rfl (Nat.le_of_ble_eq_true rfl)
theorem c141_6 : mcode 141 6 = some (.aload_n 0, 1, 0, 0, 0) := rfl
theorem r141_6 : Rn 141 (6, [some (.ref q), x1, x2], st, a, h) = Rn 141 (7, [some (.ref q), x1, x2], .ref q :: st, a, h) := Rn_go c141_6 rfl
theorem c141_7 : mcode 141 7 = some (.iload_n 1, 1, 0, 0, 0) := rfl
theorem r141_7 : Rn 141 (7, [x0, some (.int i), x2], st, a, h) = Rn 141 (8, [x0, some (.int i), x2], .int i :: st, a, h) := Rn_go c141_7 rfl
theorem c141_8 : mcode 141 8 = some (.iconst 0, 1, 0, 0, 0) := rfl
theorem r141_8 : Rn 141 (8, [x0, x1, x2], st, a, h) = Rn 141 (9, [x0, x1, x2], .int (0 : Int32) :: st, a, h) := Rn_go c141_8 rfl
theorem c141_9 : mcode 141 9 = some (.invokevirtual 60, 3, 133, 2, 6) := rfl
theorem r141_9 : Rn 141 (9, [x0, x1, x2], [v1, v0, .ref q, .int i0], a, h) = if mis h q 6 = true then Bk 141 12 [x0, x1, x2] [.int i0] (Ec 133 [.ref q, v0, v1] a h) else none := Rn_call1 c141_9 rfl (Nat.le_of_ble_eq_true rfl) rfl rfl (Nat.le_of_ble_eq_true rfl)
theorem c141_12 : mcode 141 12 = some (.if_icmp .le 7, 3, 0, 0, 0) := rfl
theorem r141_12 : Rn 141 (12, [x0, x1, x2], .int j :: .int i :: st, a, h) = if j < i then Rn 141 (15, [x0, x1, x2], st, a, h) else Rn 141 (19, [x0, x1, x2], st, a, h) := Rn_icmpn c141_12 mc_le rfl rfl
theorem c141_15 : mcode 141 15 = some (.iconst 1, 1, 0, 0, 0) := rfl
theorem r141_15 : Rn 141 (15, [x0, x1, x2], st, a, h) = Rn 141 (16, [x0, x1, x2], .int (1 : Int32) :: st, a, h) := Rn_go c141_15 rfl
theorem c141_16 : mcode 141 16 = some (.goto 4, 3, 0, 0, 0) := rfl
theorem r141_16 : Rn 141 (16, [x0, x1, x2], st, a, h) = Rn 141 (20, [x0, x1, x2], st, a, h) := Rn_goto c141_16 rfl
theorem c141_19 : mcode 141 19 = some (.iconst 0, 1, 0, 0, 0) := rfl
theorem r141_19 : Rn 141 (19, [x0, x1, x2], st, a, h) = Rn 141 (20, [x0, x1, x2], .int (0 : Int32) :: st, a, h) := Rn_go c141_19 rfl
theorem c141_20 : mcode 141 20 = some (.istore_n 2, 1, 0, 0, 0) := rfl
theorem r141_20 : Rn 141 (20, [x0, x1, x2], .int i :: st, a, h) = Nl x1 (Rn 141 (21, [x0, x1, some (.int i)], st, a, h)) := Rn_st1 (k := 2) (v := .int i) x1 c141_20 rfl rfl rfl rfl
theorem c141_21 : mcode 141 21 = some (.aload_n 0, 1, 0, 0, 0) := rfl
theorem r141_21 : Rn 141 (21, [some (.ref q), x1, x2], st, a, h) = Rn 141 (22, [some (.ref q), x1, x2], .ref q :: st, a, h) := Rn_go c141_21 rfl
theorem c141_22 : mcode 141 22 = some (.iload_n 1, 1, 0, 0, 0) := rfl
theorem r141_22 : Rn 141 (22, [x0, some (.int i), x2], st, a, h) = Rn 141 (23, [x0, some (.int i), x2], .int i :: st, a, h) := Rn_go c141_22 rfl
theorem c141_23 : mcode 141 23 = some (.iconst 2, 1, 0, 0, 0) := rfl
theorem r141_23 : Rn 141 (23, [x0, x1, x2], st, a, h) = Rn 141 (24, [x0, x1, x2], .int (2 : Int32) :: st, a, h) := Rn_go c141_23 rfl
theorem c141_24 : mcode 141 24 = some (.invokevirtual 60, 3, 133, 2, 6) := rfl
theorem r141_24 : Rn 141 (24, [x0, x1, x2], [v1, v0, .ref q], a, h) = if mis h q 6 = true then Bk 141 27 [x0, x1, x2] [] (Ec 133 [.ref q, v0, v1] a h) else none := Rn_call1 c141_24 rfl (Nat.le_of_ble_eq_true rfl) rfl rfl (Nat.le_of_ble_eq_true rfl)
theorem c141_27 : mcode 141 27 = some (.aload_n 0, 1, 0, 0, 0) := rfl
theorem r141_27 : Rn 141 (27, [some (.ref q), x1, x2], st, a, h) = Rn 141 (28, [some (.ref q), x1, x2], .ref q :: st, a, h) := Rn_go c141_27 rfl
theorem c141_28 : mcode 141 28 = some (.iload_n 1, 1, 0, 0, 0) := rfl
theorem r141_28 : Rn 141 (28, [x0, some (.int i), x2], st, a, h) = Rn 141 (29, [x0, some (.int i), x2], .int i :: st, a, h) := Rn_go c141_28 rfl
theorem c141_29 : mcode 141 29 = some (.iload_n 2, 1, 0, 0, 0) := rfl
theorem r141_29 : Rn 141 (29, [x0, x1, some (.int i)], st, a, h) = Rn 141 (30, [x0, x1, some (.int i)], .int i :: st, a, h) := Rn_go c141_29 rfl
theorem c141_30 : mcode 141 30 = some (.invokevirtual 60, 3, 133, 2, 6) := rfl
theorem r141_30 : Rn 141 (30, [x0, x1, x2], [v1, v0, .ref q, .int i0], a, h) = if mis h q 6 = true then Bk 141 33 [x0, x1, x2] [.int i0] (Ec 133 [.ref q, v0, v1] a h) else none := Rn_call1 c141_30 rfl (Nat.le_of_ble_eq_true rfl) rfl rfl (Nat.le_of_ble_eq_true rfl)
theorem c141_33 : mcode 141 33 = some (.if_icmp .le 7, 3, 0, 0, 0) := rfl
theorem r141_33 : Rn 141 (33, [x0, x1, x2], .int j :: .int i :: st, a, h) = if j < i then Rn 141 (36, [x0, x1, x2], st, a, h) else Rn 141 (40, [x0, x1, x2], st, a, h) := Rn_icmpn c141_33 mc_le rfl rfl
theorem c141_36 : mcode 141 36 = some (.iconst 2, 1, 0, 0, 0) := rfl
theorem r141_36 : Rn 141 (36, [x0, x1, x2], st, a, h) = Rn 141 (37, [x0, x1, x2], .int (2 : Int32) :: st, a, h) := Rn_go c141_36 rfl
theorem c141_37 : mcode 141 37 = some (.goto 4, 3, 0, 0, 0) := rfl
theorem r141_37 : Rn 141 (37, [x0, x1, x2], st, a, h) = Rn 141 (41, [x0, x1, x2], st, a, h) := Rn_goto c141_37 rfl
theorem c141_40 : mcode 141 40 = some (.iload_n 2, 1, 0, 0, 0) := rfl
theorem r141_40 : Rn 141 (40, [x0, x1, some (.int i)], st, a, h) = Rn 141 (41, [x0, x1, some (.int i)], .int i :: st, a, h) := Rn_go c141_40 rfl
theorem c141_41 : mcode 141 41 = some (.ireturn, 1, 0, 0, 0) := rfl
theorem r141_41 : Rn 141 (41, [x0, x1, x2], [.int i], a, h) = some (some (.int i), a, h) := Rn_ireti c141_41
theorem c142_0 : mcode 142 0 = some (.iload_n 1, 1, 0, 0, 0) := rfl
theorem r142_0 : Rn 142 (0, [x0, some (.int i), x2], st, a, h) = Rn 142 (1, [x0, some (.int i), x2], .int i :: st, a, h) := Rn_go c142_0 rfl
theorem c142_1 : mcode 142 1 = some (.invokestatic 43, 3, 128, 1, 0) := rfl
theorem r142_1 : Rn 142 (1, [x0, x1, x2], [v0], a, h) = Bk 142 4 [x0, x1, x2] [] (Ec 128 [v0] a h) := Rn_call0 c142_1 (fun z => nomatch z) rfl (Nat.le_of_ble_eq_true rfl) rfl rfl (Nat.le_of_ble_eq_true rfl)
theorem c142_4 : mcode 142 4 = some (.ifCond .eq 15, 3, 0, 0, 0) := rfl
theorem r142_4 : Rn 142 (4, [x0, x1, x2], .int i :: st, a, h) = if i = 0 then Rn 142 (19, [x0, x1, x2], st, a, h) else Rn 142 (7, [x0, x1, x2], st, a, h) := Rn_ifc c142_4 mc_eq rfl rfl
theorem c142_7 : mcode 142 7 = some (.iload_n 2, 1, 0, 0, 0) := rfl
theorem r142_7 : Rn 142 (7, [x0, x1, some (.int i)], st, a, h) = Rn 142 (8, [x0, x1, some (.int i)], .int i :: st, a, h) := Rn_go c142_7 rfl
theorem c142_8 : mcode 142 8 = some (.i2l, 1, 0, 0, 0) := rfl
theorem r142_8 : Rn 142 (8, [x0, x1, x2], .int i :: st, a, h) = Rn 142 (9, [x0, x1, x2], .long i.toInt64 :: st, a, h) := Rn_go c142_8 rfl
theorem c142_9 : mcode 142 9 = some (.lconst 0, 1, 0, 0, 0) := rfl
theorem r142_9 : Rn 142 (9, [x0, x1, x2], st, a, h) = Rn 142 (10, [x0, x1, x2], .long (0 : Int64) :: st, a, h) := Rn_go c142_9 rfl
theorem c142_10 : mcode 142 10 = some (.ldc2_w 66, 3, 0, 0, 5) := rfl
theorem r142_10 : Rn 142 (10, [x0, x1, x2], st, a, h) = Rn 142 (13, [x0, x1, x2], .long (5 : Int64) :: st, a, h) := Rn_go c142_10 rfl
theorem c142_13 : mcode 142 13 = some (.invokestatic 52, 3, 124, 3, 0) := rfl
theorem r142_13 : Rn 142 (13, [x0, x1, x2], [v2, v1, v0], a, h) = Bk 142 16 [x0, x1, x2] [] (Ec 124 [v0, v1, v2] a h) := Rn_call0 c142_13 (fun z => nomatch z) rfl (Nat.le_of_ble_eq_true rfl) rfl rfl (Nat.le_of_ble_eq_true rfl)
theorem c142_16 : mcode 142 16 = some (.ifCond .ne 10, 3, 0, 0, 0) := rfl
theorem r142_16 : Rn 142 (16, [x0, x1, x2], .int i :: st, a, h) = if i = 0 then Rn 142 (19, [x0, x1, x2], st, a, h) else Rn 142 (26, [x0, x1, x2], st, a, h) := Rn_ifcn c142_16 mc_ne rfl rfl
theorem c142_19 : mcode 142 19 = some (.aload_n 0, 1, 0, 0, 0) := rfl
theorem r142_19 : Rn 142 (19, [some (.ref q), x1, x2], st, a, h) = Rn 142 (20, [some (.ref q), x1, x2], .ref q :: st, a, h) := Rn_go c142_19 rfl
theorem c142_20 : mcode 142 20 = some (.ldc 37, 2, 0, 0, -1000001) := rfl
theorem r142_20 : Rn 142 (20, [x0, x1, x2], st, a, h) = Rn 142 (22, [x0, x1, x2], .int (-1000001 : Int32) :: st, a, h) := Rn_go c142_20 rfl
theorem c142_22 : mcode 142 22 = some (.invokevirtual 39, 3, 125, 1, 6) := rfl
theorem r142_22 : Rn 142 (22, [x0, x1, x2], [v0, .ref q], a, h) = if mis h q 6 = true then Bk 142 25 [x0, x1, x2] [] (Ec 125 [.ref q, v0] a h) else none := Rn_call1 c142_22 rfl (Nat.le_of_ble_eq_true rfl) rfl rfl (Nat.le_of_ble_eq_true rfl)
theorem c142_25 : mcode 142 25 = some (.ireturn, 1, 0, 0, 0) := rfl
theorem r142_25 : Rn 142 (25, [x0, x1, x2], [.int i], a, h) = some (some (.int i), a, h) := Rn_ireti c142_25
theorem c142_26 : mcode 142 26 = some (.iload_n 2, 1, 0, 0, 0) := rfl
theorem r142_26 : Rn 142 (26, [x0, x1, some (.int i)], st, a, h) = Rn 142 (27, [x0, x1, some (.int i)], .int i :: st, a, h) := Rn_go c142_26 rfl
theorem c142_27 : mcode 142 27 = some (.iconst 3, 1, 0, 0, 0) := rfl
theorem r142_27 : Rn 142 (27, [x0, x1, x2], st, a, h) = Rn 142 (28, [x0, x1, x2], .int (3 : Int32) :: st, a, h) := Rn_go c142_27 rfl
theorem c142_28 : mcode 142 28 = some (.if_icmp .ge 12, 3, 0, 0, 0) := rfl
theorem r142_28 : Rn 142 (28, [x0, x1, x2], .int j :: .int i :: st, a, h) = if i < j then Rn 142 (31, [x0, x1, x2], st, a, h) else Rn 142 (40, [x0, x1, x2], st, a, h) := Rn_icmpn c142_28 mc_ge rfl rfl
theorem c142_31 : mcode 142 31 = some (.aload_n 0, 1, 0, 0, 0) := rfl
theorem r142_31 : Rn 142 (31, [some (.ref q), x1, x2], st, a, h) = Rn 142 (32, [some (.ref q), x1, x2], .ref q :: st, a, h) := Rn_go c142_31 rfl
theorem c142_32 : mcode 142 32 = some (.iload_n 1, 1, 0, 0, 0) := rfl
theorem r142_32 : Rn 142 (32, [x0, some (.int i), x2], st, a, h) = Rn 142 (33, [x0, some (.int i), x2], .int i :: st, a, h) := Rn_go c142_32 rfl
theorem c142_33 : mcode 142 33 = some (.iload_n 2, 1, 0, 0, 0) := rfl
theorem r142_33 : Rn 142 (33, [x0, x1, some (.int i)], st, a, h) = Rn 142 (34, [x0, x1, some (.int i)], .int i :: st, a, h) := Rn_go c142_33 rfl
theorem c142_34 : mcode 142 34 = some (.invokevirtual 60, 3, 133, 2, 6) := rfl
theorem r142_34 : Rn 142 (34, [x0, x1, x2], [v1, v0, .ref q], a, h) = if mis h q 6 = true then Bk 142 37 [x0, x1, x2] [] (Ec 133 [.ref q, v0, v1] a h) else none := Rn_call1 c142_34 rfl (Nat.le_of_ble_eq_true rfl) rfl rfl (Nat.le_of_ble_eq_true rfl)
theorem c142_37 : mcode 142 37 = some (.goto 34, 3, 0, 0, 0) := rfl
theorem r142_37 : Rn 142 (37, [x0, x1, x2], st, a, h) = Rn 142 (71, [x0, x1, x2], st, a, h) := Rn_goto c142_37 rfl
theorem c142_40 : mcode 142 40 = some (.iload_n 2, 1, 0, 0, 0) := rfl
theorem r142_40 : Rn 142 (40, [x0, x1, some (.int i)], st, a, h) = Rn 142 (41, [x0, x1, some (.int i)], .int i :: st, a, h) := Rn_go c142_40 rfl
theorem c142_41 : mcode 142 41 = some (.iconst 3, 1, 0, 0, 0) := rfl
theorem r142_41 : Rn 142 (41, [x0, x1, x2], st, a, h) = Rn 142 (42, [x0, x1, x2], .int (3 : Int32) :: st, a, h) := Rn_go c142_41 rfl
theorem c142_42 : mcode 142 42 = some (.if_icmp .ne 11, 3, 0, 0, 0) := rfl
theorem r142_42 : Rn 142 (42, [x0, x1, x2], .int j :: .int i :: st, a, h) = if i = j then Rn 142 (45, [x0, x1, x2], st, a, h) else Rn 142 (53, [x0, x1, x2], st, a, h) := Rn_icmpn c142_42 mc_ne rfl rfl
theorem c142_45 : mcode 142 45 = some (.aload_n 0, 1, 0, 0, 0) := rfl
theorem r142_45 : Rn 142 (45, [some (.ref q), x1, x2], st, a, h) = Rn 142 (46, [some (.ref q), x1, x2], .ref q :: st, a, h) := Rn_go c142_45 rfl
theorem c142_46 : mcode 142 46 = some (.iload_n 1, 1, 0, 0, 0) := rfl
theorem r142_46 : Rn 142 (46, [x0, some (.int i), x2], st, a, h) = Rn 142 (47, [x0, some (.int i), x2], .int i :: st, a, h) := Rn_go c142_46 rfl
theorem c142_47 : mcode 142 47 = some (.invokevirtual 68, 3, 139, 1, 6) := rfl
theorem r142_47 : Rn 142 (47, [x0, x1, x2], [v0, .ref q], a, h) = if mis h q 6 = true then Bk 142 50 [x0, x1, x2] [] (Ec 139 [.ref q, v0] a h) else none := Rn_call1 c142_47 rfl (Nat.le_of_ble_eq_true rfl) rfl rfl (Nat.le_of_ble_eq_true rfl)
theorem c142_50 : mcode 142 50 = some (.goto 21, 3, 0, 0, 0) := rfl
theorem r142_50 : Rn 142 (50, [x0, x1, x2], st, a, h) = Rn 142 (71, [x0, x1, x2], st, a, h) := Rn_goto c142_50 rfl
theorem c142_53 : mcode 142 53 = some (.iload_n 2, 1, 0, 0, 0) := rfl
theorem r142_53 : Rn 142 (53, [x0, x1, some (.int i)], st, a, h) = Rn 142 (54, [x0, x1, some (.int i)], .int i :: st, a, h) := Rn_go c142_53 rfl
theorem c142_54 : mcode 142 54 = some (.iconst 4, 1, 0, 0, 0) := rfl
theorem r142_54 : Rn 142 (54, [x0, x1, x2], st, a, h) = Rn 142 (55, [x0, x1, x2], .int (4 : Int32) :: st, a, h) := Rn_go c142_54 rfl
theorem c142_55 : mcode 142 55 = some (.if_icmp .ne 11, 3, 0, 0, 0) := rfl
theorem r142_55 : Rn 142 (55, [x0, x1, x2], .int j :: .int i :: st, a, h) = if i = j then Rn 142 (58, [x0, x1, x2], st, a, h) else Rn 142 (66, [x0, x1, x2], st, a, h) := Rn_icmpn c142_55 mc_ne rfl rfl
theorem c142_58 : mcode 142 58 = some (.aload_n 0, 1, 0, 0, 0) := rfl
theorem r142_58 : Rn 142 (58, [some (.ref q), x1, x2], st, a, h) = Rn 142 (59, [some (.ref q), x1, x2], .ref q :: st, a, h) := Rn_go c142_58 rfl
theorem c142_59 : mcode 142 59 = some (.iload_n 1, 1, 0, 0, 0) := rfl
theorem r142_59 : Rn 142 (59, [x0, some (.int i), x2], st, a, h) = Rn 142 (60, [x0, some (.int i), x2], .int i :: st, a, h) := Rn_go c142_59 rfl
theorem c142_60 : mcode 142 60 = some (.invokevirtual 71, 3, 140, 1, 6) := rfl
theorem r142_60 : Rn 142 (60, [x0, x1, x2], [v0, .ref q], a, h) = if mis h q 6 = true then Bk 142 63 [x0, x1, x2] [] (Ec 140 [.ref q, v0] a h) else none := Rn_call1 c142_60 rfl (Nat.le_of_ble_eq_true rfl) rfl rfl (Nat.le_of_ble_eq_true rfl)
theorem c142_63 : mcode 142 63 = some (.goto 8, 3, 0, 0, 0) := rfl
theorem r142_63 : Rn 142 (63, [x0, x1, x2], st, a, h) = Rn 142 (71, [x0, x1, x2], st, a, h) := Rn_goto c142_63 rfl
theorem c142_66 : mcode 142 66 = some (.aload_n 0, 1, 0, 0, 0) := rfl
theorem r142_66 : Rn 142 (66, [some (.ref q), x1, x2], st, a, h) = Rn 142 (67, [some (.ref q), x1, x2], .ref q :: st, a, h) := Rn_go c142_66 rfl
theorem c142_67 : mcode 142 67 = some (.iload_n 1, 1, 0, 0, 0) := rfl
theorem r142_67 : Rn 142 (67, [x0, some (.int i), x2], st, a, h) = Rn 142 (68, [x0, some (.int i), x2], .int i :: st, a, h) := Rn_go c142_67 rfl
theorem c142_68 : mcode 142 68 = some (.invokevirtual 74, 3, 141, 1, 6) := rfl
theorem r142_68 : Rn 142 (68, [x0, x1, x2], [v0, .ref q], a, h) = if mis h q 6 = true then Bk 142 71 [x0, x1, x2] [] (Ec 141 [.ref q, v0] a h) else none := Rn_call1 c142_68 rfl (Nat.le_of_ble_eq_true rfl) rfl rfl (Nat.le_of_ble_eq_true rfl)
theorem c142_71 : mcode 142 71 = some (.ireturn, 1, 0, 0, 0) := rfl
theorem r142_71 : Rn 142 (71, [x0, x1, x2], [.int i], a, h) = some (some (.int i), a, h) := Rn_ireti c142_71
theorem c143_0 : mcode 143 0 = some (.iload_n 1, 1, 0, 0, 0) := rfl
theorem r143_0 : Rn 143 (0, [x0, some (.int i)], st, a, h) = Rn 143 (1, [x0, some (.int i)], .int i :: st, a, h) := Rn_go c143_0 rfl
theorem c143_1 : mcode 143 1 = some (.i2l, 1, 0, 0, 0) := rfl
theorem r143_1 : Rn 143 (1, [x0, x1], .int i :: st, a, h) = Rn 143 (2, [x0, x1], .long i.toInt64 :: st, a, h) := Rn_go c143_1 rfl
theorem c143_2 : mcode 143 2 = some (.lconst 0, 1, 0, 0, 0) := rfl
theorem r143_2 : Rn 143 (2, [x0, x1], st, a, h) = Rn 143 (3, [x0, x1], .long (0 : Int64) :: st, a, h) := Rn_go c143_2 rfl
theorem c143_3 : mcode 143 3 = some (.ldc2_w 77, 3, 0, 0, 9) := rfl
theorem r143_3 : Rn 143 (3, [x0, x1], st, a, h) = Rn 143 (6, [x0, x1], .long (9 : Int64) :: st, a, h) := Rn_go c143_3 rfl
theorem c143_6 : mcode 143 6 = some (.invokestatic 52, 3, 124, 3, 0) := rfl
theorem r143_6 : Rn 143 (6, [x0, x1], [v2, v1, v0], a, h) = Bk 143 9 [x0, x1] [] (Ec 124 [v0, v1, v2] a h) := Rn_call0 c143_6 (fun z => nomatch z) rfl (Nat.le_of_ble_eq_true rfl) rfl rfl (Nat.le_of_ble_eq_true rfl)
theorem c143_9 : mcode 143 9 = some (.ifCond .eq 12, 3, 0, 0, 0) := rfl
theorem r143_9 : Rn 143 (9, [x0, x1], .int i :: st, a, h) = if i = 0 then Rn 143 (21, [x0, x1], st, a, h) else Rn 143 (12, [x0, x1], st, a, h) := Rn_ifc c143_9 mc_eq rfl rfl
theorem c143_12 : mcode 143 12 = some (.aload_n 0, 1, 0, 0, 0) := rfl
theorem r143_12 : Rn 143 (12, [some (.ref q), x1], st, a, h) = Rn 143 (13, [some (.ref q), x1], .ref q :: st, a, h) := Rn_go c143_12 rfl
theorem c143_13 : mcode 143 13 = some (.iconst 3, 1, 0, 0, 0) := rfl
theorem r143_13 : Rn 143 (13, [x0, x1], st, a, h) = Rn 143 (14, [x0, x1], .int (3 : Int32) :: st, a, h) := Rn_go c143_13 rfl
theorem c143_14 : mcode 143 14 = some (.iload_n 1, 1, 0, 0, 0) := rfl
theorem r143_14 : Rn 143 (14, [x0, some (.int i)], st, a, h) = Rn 143 (15, [x0, some (.int i)], .int i :: st, a, h) := Rn_go c143_14 rfl
theorem c143_15 : mcode 143 15 = some (.invokevirtual 56, 3, 126, 2, 6) := rfl
theorem r143_15 : Rn 143 (15, [x0, x1], [v1, v0, .ref q], a, h) = if mis h q 6 = true then Bk 143 18 [x0, x1] [] (Ec 126 [.ref q, v0, v1] a h) else none := Rn_call1 c143_15 rfl (Nat.le_of_ble_eq_true rfl) rfl rfl (Nat.le_of_ble_eq_true rfl)
theorem c143_18 : mcode 143 18 = some (.goto 9, 3, 0, 0, 0) := rfl
theorem r143_18 : Rn 143 (18, [x0, x1], st, a, h) = Rn 143 (27, [x0, x1], st, a, h) := Rn_goto c143_18 rfl
theorem c143_21 : mcode 143 21 = some (.aload_n 0, 1, 0, 0, 0) := rfl
theorem r143_21 : Rn 143 (21, [some (.ref q), x1], st, a, h) = Rn 143 (22, [some (.ref q), x1], .ref q :: st, a, h) := Rn_go c143_21 rfl
theorem c143_22 : mcode 143 22 = some (.ldc 37, 2, 0, 0, -1000001) := rfl
theorem r143_22 : Rn 143 (22, [x0, x1], st, a, h) = Rn 143 (24, [x0, x1], .int (-1000001 : Int32) :: st, a, h) := Rn_go c143_22 rfl
theorem c143_24 : mcode 143 24 = some (.invokevirtual 39, 3, 125, 1, 6) := rfl
theorem r143_24 : Rn 143 (24, [x0, x1], [v0, .ref q], a, h) = if mis h q 6 = true then Bk 143 27 [x0, x1] [] (Ec 125 [.ref q, v0] a h) else none := Rn_call1 c143_24 rfl (Nat.le_of_ble_eq_true rfl) rfl rfl (Nat.le_of_ble_eq_true rfl)
theorem c143_27 : mcode 143 27 = some (.ireturn, 1, 0, 0, 0) := rfl
theorem r143_27 : Rn 143 (27, [x0, x1], [.int i], a, h) = some (some (.int i), a, h) := Rn_ireti c143_27
theorem c144_0 : mcode 144 0 = some (.iconst 0, 1, 0, 0, 0) := rfl
theorem r144_0 : Rn 144 (0, [x0, x1, x2, x3, x4], st, a, h) = Rn 144 (1, [x0, x1, x2, x3, x4], .int (0 : Int32) :: st, a, h) := Rn_go c144_0 rfl
theorem c144_1 : mcode 144 1 = some (.istore_n 3, 1, 0, 0, 0) := rfl
theorem r144_1 : Rn 144 (1, [x0, x1, x2, x3, x4], .int i :: st, a, h) = Nl x2 (Rn 144 (2, [x0, x1, x2, some (.int i), x4], st, a, h)) := Rn_st1 (k := 3) (v := .int i) x2 c144_1 rfl rfl rfl rfl
theorem c144_2 : mcode 144 2 = some (.iload_n 3, 1, 0, 0, 0) := rfl
theorem r144_2 : Rn 144 (2, [x0, x1, x2, some (.int i), x4], st, a, h) = Rn 144 (3, [x0, x1, x2, some (.int i), x4], .int i :: st, a, h) := Rn_go c144_2 rfl
theorem c144_3 : mcode 144 3 = some (.iconst 3, 1, 0, 0, 0) := rfl
theorem r144_3 : Rn 144 (3, [x0, x1, x2, x3, x4], st, a, h) = Rn 144 (4, [x0, x1, x2, x3, x4], .int (3 : Int32) :: st, a, h) := Rn_go c144_3 rfl
theorem c144_4 : mcode 144 4 = some (.if_icmp .ge 38, 3, 0, 0, 0) := rfl
theorem r144_4 : Rn 144 (4, [x0, x1, x2, x3, x4], .int j :: .int i :: st, a, h) = if i < j then Rn 144 (7, [x0, x1, x2, x3, x4], st, a, h) else Rn 144 (42, [x0, x1, x2, x3, x4], st, a, h) := Rn_icmpn c144_4 mc_ge rfl rfl
theorem c144_7 : mcode 144 7 = some (.aload_n 0, 1, 0, 0, 0) := rfl
theorem r144_7 : Rn 144 (7, [some (.ref q), x1, x2, x3, x4], st, a, h) = Rn 144 (8, [some (.ref q), x1, x2, x3, x4], .ref q :: st, a, h) := Rn_go c144_7 rfl
theorem c144_8 : mcode 144 8 = some (.getfield 7, 3, 6, 0, 0) := rfl
theorem r144_8 : Rn 144 (8, [x0, x1, x2, x3, x4], .ref q :: st, a, h) = Kv 144 11 [x0, x1, x2, x3, x4] st a h (mgf h q 6 0) := Rn_getf c144_8 rfl
theorem c144_11 : mcode 144 11 = some (.iconst 4, 1, 0, 0, 0) := rfl
theorem r144_11 : Rn 144 (11, [x0, x1, x2, x3, x4], st, a, h) = Rn 144 (12, [x0, x1, x2, x3, x4], .int (4 : Int32) :: st, a, h) := Rn_go c144_11 rfl
theorem c144_12 : mcode 144 12 = some (.iconst 3, 1, 0, 0, 0) := rfl
theorem r144_12 : Rn 144 (12, [x0, x1, x2, x3, x4], st, a, h) = Rn 144 (13, [x0, x1, x2, x3, x4], .int (3 : Int32) :: st, a, h) := Rn_go c144_12 rfl
theorem c144_13 : mcode 144 13 = some (.iload_n 1, 1, 0, 0, 0) := rfl
theorem r144_13 : Rn 144 (13, [x0, some (.int i), x2, x3, x4], st, a, h) = Rn 144 (14, [x0, some (.int i), x2, x3, x4], .int i :: st, a, h) := Rn_go c144_13 rfl
theorem c144_14 : mcode 144 14 = some (.imul, 1, 0, 0, 0) := rfl
theorem r144_14 : Rn 144 (14, [x0, x1, x2, x3, x4], .int j :: .int i :: st, a, h) = Rn 144 (15, [x0, x1, x2, x3, x4], .int (i * j) :: st, a, h) := Rn_go c144_14 rfl
theorem c144_15 : mcode 144 15 = some (.iadd, 1, 0, 0, 0) := rfl
theorem r144_15 : Rn 144 (15, [x0, x1, x2, x3, x4], .int j :: .int i :: st, a, h) = Rn 144 (16, [x0, x1, x2, x3, x4], .int (i + j) :: st, a, h) := Rn_go c144_15 rfl
theorem c144_16 : mcode 144 16 = some (.iload_n 3, 1, 0, 0, 0) := rfl
theorem r144_16 : Rn 144 (16, [x0, x1, x2, some (.int i), x4], st, a, h) = Rn 144 (17, [x0, x1, x2, some (.int i), x4], .int i :: st, a, h) := Rn_go c144_16 rfl
theorem c144_17 : mcode 144 17 = some (.iadd, 1, 0, 0, 0) := rfl
theorem r144_17 : Rn 144 (17, [x0, x1, x2, x3, x4], .int j :: .int i :: st, a, h) = Rn 144 (18, [x0, x1, x2, x3, x4], .int (i + j) :: st, a, h) := Rn_go c144_17 rfl
theorem c144_18 : mcode 144 18 = some (.aload_n 0, 1, 0, 0, 0) := rfl
theorem r144_18 : Rn 144 (18, [some (.ref q), x1, x2, x3, x4], st, a, h) = Rn 144 (19, [some (.ref q), x1, x2, x3, x4], .ref q :: st, a, h) := Rn_go c144_18 rfl
theorem c144_19 : mcode 144 19 = some (.iconst 4, 1, 0, 0, 0) := rfl
theorem r144_19 : Rn 144 (19, [x0, x1, x2, x3, x4], st, a, h) = Rn 144 (20, [x0, x1, x2, x3, x4], .int (4 : Int32) :: st, a, h) := Rn_go c144_19 rfl
theorem c144_20 : mcode 144 20 = some (.iconst 3, 1, 0, 0, 0) := rfl
theorem r144_20 : Rn 144 (20, [x0, x1, x2, x3, x4], st, a, h) = Rn 144 (21, [x0, x1, x2, x3, x4], .int (3 : Int32) :: st, a, h) := Rn_go c144_20 rfl
theorem c144_21 : mcode 144 21 = some (.iload_n 2, 1, 0, 0, 0) := rfl
theorem r144_21 : Rn 144 (21, [x0, x1, some (.int i), x3, x4], st, a, h) = Rn 144 (22, [x0, x1, some (.int i), x3, x4], .int i :: st, a, h) := Rn_go c144_21 rfl
theorem c144_22 : mcode 144 22 = some (.imul, 1, 0, 0, 0) := rfl
theorem r144_22 : Rn 144 (22, [x0, x1, x2, x3, x4], .int j :: .int i :: st, a, h) = Rn 144 (23, [x0, x1, x2, x3, x4], .int (i * j) :: st, a, h) := Rn_go c144_22 rfl
theorem c144_23 : mcode 144 23 = some (.iadd, 1, 0, 0, 0) := rfl
theorem r144_23 : Rn 144 (23, [x0, x1, x2, x3, x4], .int j :: .int i :: st, a, h) = Rn 144 (24, [x0, x1, x2, x3, x4], .int (i + j) :: st, a, h) := Rn_go c144_23 rfl
theorem c144_24 : mcode 144 24 = some (.iload_n 3, 1, 0, 0, 0) := rfl
theorem r144_24 : Rn 144 (24, [x0, x1, x2, some (.int i), x4], st, a, h) = Rn 144 (25, [x0, x1, x2, some (.int i), x4], .int i :: st, a, h) := Rn_go c144_24 rfl
theorem c144_25 : mcode 144 25 = some (.iadd, 1, 0, 0, 0) := rfl
theorem r144_25 : Rn 144 (25, [x0, x1, x2, x3, x4], .int j :: .int i :: st, a, h) = Rn 144 (26, [x0, x1, x2, x3, x4], .int (i + j) :: st, a, h) := Rn_go c144_25 rfl
theorem c144_26 : mcode 144 26 = some (.aload_n 0, 1, 0, 0, 0) := rfl
theorem r144_26 : Rn 144 (26, [some (.ref q), x1, x2, x3, x4], st, a, h) = Rn 144 (27, [some (.ref q), x1, x2, x3, x4], .ref q :: st, a, h) := Rn_go c144_26 rfl
theorem c144_27 : mcode 144 27 = some (.iload_n 1, 1, 0, 0, 0) := rfl
theorem r144_27 : Rn 144 (27, [x0, some (.int i), x2, x3, x4], st, a, h) = Rn 144 (28, [x0, some (.int i), x2, x3, x4], .int i :: st, a, h) := Rn_go c144_27 rfl
theorem c144_28 : mcode 144 28 = some (.iload_n 3, 1, 0, 0, 0) := rfl
theorem r144_28 : Rn 144 (28, [x0, x1, x2, some (.int i), x4], st, a, h) = Rn 144 (29, [x0, x1, x2, some (.int i), x4], .int i :: st, a, h) := Rn_go c144_28 rfl
theorem c144_29 : mcode 144 29 = some (.invokevirtual 60, 3, 133, 2, 6) := rfl
theorem r144_29 : Rn 144 (29, [x0, x1, x2, x3, x4], [v1, v0, .ref q, .int i0, .ref q1, .int i2, .ref q3], a, h) = if mis h q 6 = true then Bk 144 32 [x0, x1, x2, x3, x4] [.int i0, .ref q1, .int i2, .ref q3] (Ec 133 [.ref q, v0, v1] a h) else none := Rn_call1 c144_29 rfl (Nat.le_of_ble_eq_true rfl) rfl rfl (Nat.le_of_ble_eq_true rfl)
theorem c144_32 : mcode 144 32 = some (.invokevirtual 56, 3, 126, 2, 6) := rfl
theorem r144_32 : Rn 144 (32, [x0, x1, x2, x3, x4], [v1, v0, .ref q, .int i0, .ref q1], a, h) = if mis h q 6 = true then Bk 144 35 [x0, x1, x2, x3, x4] [.int i0, .ref q1] (Ec 126 [.ref q, v0, v1] a h) else none := Rn_call1 c144_32 rfl (Nat.le_of_ble_eq_true rfl) rfl rfl (Nat.le_of_ble_eq_true rfl)
theorem c144_35 : mcode 144 35 = some (.iastore, 1, 0, 0, 0) := rfl
theorem r144_35 : Rn 144 (35, [x0, x1, x2, x3, x4], .int j :: .int i :: .ref q :: st, a, h) = Kh 144 36 [x0, x1, x2, x3, x4] st a (mias h q i j) := Rn_iast c144_35 rfl
theorem c144_36 : mcode 144 36 = some (.iinc 3 1, 3, 0, 0, 0) := rfl
theorem r144_36 : Rn 144 (36, [x0, x1, x2, some (.int i), x4], st, a, h) = Nl x2 (Rn 144 (39, [x0, x1, x2, some (.int (i + (1 : Int32))), x4], st, a, h)) := Rn_st1 (k := 3) (v := .int (i + (1 : Int32))) x2 c144_36 rfl rfl rfl rfl
theorem c144_39 : mcode 144 39 = some (.goto (-37), 3, 0, 0, 0) := rfl
theorem r144_39 : Rn 144 (39, [x0, x1, x2, x3, x4], st, a, h) = Rn 144 (2, [x0, x1, x2, x3, x4], st, a, h) := Rn_goto c144_39 rfl
theorem c144_42 : mcode 144 42 = some (.iconst 0, 1, 0, 0, 0) := rfl
theorem r144_42 : Rn 144 (42, [x0, x1, x2, x3, x4], st, a, h) = Rn 144 (43, [x0, x1, x2, x3, x4], .int (0 : Int32) :: st, a, h) := Rn_go c144_42 rfl
theorem c144_43 : mcode 144 43 = some (.istore_n 3, 1, 0, 0, 0) := rfl
theorem r144_43 : Rn 144 (43, [x0, x1, x2, x3, x4], .int i :: st, a, h) = Nl x2 (Rn 144 (44, [x0, x1, x2, some (.int i), x4], st, a, h)) := Rn_st1 (k := 3) (v := .int i) x2 c144_43 rfl rfl rfl rfl
theorem c144_44 : mcode 144 44 = some (.iload_n 3, 1, 0, 0, 0) := rfl
theorem r144_44 : Rn 144 (44, [x0, x1, x2, some (.int i), x4], st, a, h) = Rn 144 (45, [x0, x1, x2, some (.int i), x4], .int i :: st, a, h) := Rn_go c144_44 rfl
theorem c144_45 : mcode 144 45 = some (.aload_n 0, 1, 0, 0, 0) := rfl
theorem r144_45 : Rn 144 (45, [some (.ref q), x1, x2, x3, x4], st, a, h) = Rn 144 (46, [some (.ref q), x1, x2, x3, x4], .ref q :: st, a, h) := Rn_go c144_45 rfl
theorem c144_46 : mcode 144 46 = some (.getfield 7, 3, 6, 0, 0) := rfl
theorem r144_46 : Rn 144 (46, [x0, x1, x2, x3, x4], .ref q :: st, a, h) = Kv 144 49 [x0, x1, x2, x3, x4] st a h (mgf h q 6 0) := Rn_getf c144_46 rfl
theorem c144_49 : mcode 144 49 = some (.iconst 0, 1, 0, 0, 0) := rfl
theorem r144_49 : Rn 144 (49, [x0, x1, x2, x3, x4], st, a, h) = Rn 144 (50, [x0, x1, x2, x3, x4], .int (0 : Int32) :: st, a, h) := Rn_go c144_49 rfl
theorem c144_50 : mcode 144 50 = some (.iaload, 1, 0, 0, 0) := rfl
theorem r144_50 : Rn 144 (50, [x0, x1, x2, x3, x4], .int i :: .ref q :: st, a, h) = Ki 144 51 [x0, x1, x2, x3, x4] st a h (mld h q i false) := Rn_iald c144_50 rfl
theorem c144_51 : mcode 144 51 = some (.if_icmp .ge 49, 3, 0, 0, 0) := rfl
theorem r144_51 : Rn 144 (51, [x0, x1, x2, x3, x4], .int j :: .int i :: st, a, h) = if i < j then Rn 144 (54, [x0, x1, x2, x3, x4], st, a, h) else Rn 144 (100, [x0, x1, x2, x3, x4], st, a, h) := Rn_icmpn c144_51 mc_ge rfl rfl
theorem c144_54 : mcode 144 54 = some (.aload_n 0, 1, 0, 0, 0) := rfl
theorem r144_54 : Rn 144 (54, [some (.ref q), x1, x2, x3, x4], st, a, h) = Rn 144 (55, [some (.ref q), x1, x2, x3, x4], .ref q :: st, a, h) := Rn_go c144_54 rfl
theorem c144_55 : mcode 144 55 = some (.iload_n 3, 1, 0, 0, 0) := rfl
theorem r144_55 : Rn 144 (55, [x0, x1, x2, some (.int i), x4], st, a, h) = Rn 144 (56, [x0, x1, x2, some (.int i), x4], .int i :: st, a, h) := Rn_go c144_55 rfl
theorem c144_56 : mcode 144 56 = some (.iconst 1, 1, 0, 0, 0) := rfl
theorem r144_56 : Rn 144 (56, [x0, x1, x2, x3, x4], st, a, h) = Rn 144 (57, [x0, x1, x2, x3, x4], .int (1 : Int32) :: st, a, h) := Rn_go c144_56 rfl
theorem c144_57 : mcode 144 57 = some (.invokevirtual 63, 3, 132, 2, 6) := rfl
theorem r144_57 : Rn 144 (57, [x0, x1, x2, x3, x4], [v1, v0, .ref q], a, h) = if mis h q 6 = true then Bk 144 60 [x0, x1, x2, x3, x4] [] (Ec 132 [.ref q, v0, v1] a h) else none := Rn_call1 c144_57 rfl (Nat.le_of_ble_eq_true rfl) rfl rfl (Nat.le_of_ble_eq_true rfl)
theorem c144_60 : mcode 144 60 = some (.istore 4, 2, 0, 0, 0) := rfl
theorem r144_60 : Rn 144 (60, [x0, x1, x2, x3, x4], .int i :: st, a, h) = Nl x3 (Rn 144 (62, [x0, x1, x2, x3, some (.int i)], st, a, h)) := Rn_st1 (k := 4) (v := .int i) x3 c144_60 rfl rfl rfl rfl
theorem c144_62 : mcode 144 62 = some (.aload_n 0, 1, 0, 0, 0) := rfl
theorem r144_62 : Rn 144 (62, [some (.ref q), x1, x2, x3, x4], st, a, h) = Rn 144 (63, [some (.ref q), x1, x2, x3, x4], .ref q :: st, a, h) := Rn_go c144_62 rfl
theorem c144_63 : mcode 144 63 = some (.getfield 7, 3, 6, 0, 0) := rfl
theorem r144_63 : Rn 144 (63, [x0, x1, x2, x3, x4], .ref q :: st, a, h) = Kv 144 66 [x0, x1, x2, x3, x4] st a h (mgf h q 6 0) := Rn_getf c144_63 rfl
theorem c144_66 : mcode 144 66 = some (.iload_n 3, 1, 0, 0, 0) := rfl
theorem r144_66 : Rn 144 (66, [x0, x1, x2, some (.int i), x4], st, a, h) = Rn 144 (67, [x0, x1, x2, some (.int i), x4], .int i :: st, a, h) := Rn_go c144_66 rfl
theorem c144_67 : mcode 144 67 = some (.iconst 1, 1, 0, 0, 0) := rfl
theorem r144_67 : Rn 144 (67, [x0, x1, x2, x3, x4], st, a, h) = Rn 144 (68, [x0, x1, x2, x3, x4], .int (1 : Int32) :: st, a, h) := Rn_go c144_67 rfl
theorem c144_68 : mcode 144 68 = some (.invokestatic 79, 3, 131, 2, 0) := rfl
theorem r144_68 : Rn 144 (68, [x0, x1, x2, x3, x4], [v1, v0, .ref q0], a, h) = Bk 144 71 [x0, x1, x2, x3, x4] [.ref q0] (Ec 131 [v0, v1] a h) := Rn_call0 c144_68 (fun z => nomatch z) rfl (Nat.le_of_ble_eq_true rfl) rfl rfl (Nat.le_of_ble_eq_true rfl)
theorem c144_71 : mcode 144 71 = some (.iload 4, 2, 0, 0, 0) := rfl
theorem r144_71 : Rn 144 (71, [x0, x1, x2, x3, some (.int i)], st, a, h) = Rn 144 (73, [x0, x1, x2, x3, some (.int i)], .int i :: st, a, h) := Rn_go c144_71 rfl
theorem c144_73 : mcode 144 73 = some (.iload_n 1, 1, 0, 0, 0) := rfl
theorem r144_73 : Rn 144 (73, [x0, some (.int i), x2, x3, x4], st, a, h) = Rn 144 (74, [x0, some (.int i), x2, x3, x4], .int i :: st, a, h) := Rn_go c144_73 rfl
theorem c144_74 : mcode 144 74 = some (.if_icmp .ne 7, 3, 0, 0, 0) := rfl
theorem r144_74 : Rn 144 (74, [x0, x1, x2, x3, x4], .int j :: .int i :: st, a, h) = if i = j then Rn 144 (77, [x0, x1, x2, x3, x4], st, a, h) else Rn 144 (81, [x0, x1, x2, x3, x4], st, a, h) := Rn_icmpn c144_74 mc_ne rfl rfl
theorem c144_77 : mcode 144 77 = some (.iload_n 2, 1, 0, 0, 0) := rfl
theorem r144_77 : Rn 144 (77, [x0, x1, some (.int i), x3, x4], st, a, h) = Rn 144 (78, [x0, x1, some (.int i), x3, x4], .int i :: st, a, h) := Rn_go c144_77 rfl
theorem c144_78 : mcode 144 78 = some (.goto 15, 3, 0, 0, 0) := rfl
theorem r144_78 : Rn 144 (78, [x0, x1, x2, x3, x4], st, a, h) = Rn 144 (93, [x0, x1, x2, x3, x4], st, a, h) := Rn_goto c144_78 rfl
theorem c144_81 : mcode 144 81 = some (.iload 4, 2, 0, 0, 0) := rfl
theorem r144_81 : Rn 144 (81, [x0, x1, x2, x3, some (.int i)], st, a, h) = Rn 144 (83, [x0, x1, x2, x3, some (.int i)], .int i :: st, a, h) := Rn_go c144_81 rfl
theorem c144_83 : mcode 144 83 = some (.iload_n 2, 1, 0, 0, 0) := rfl
theorem r144_83 : Rn 144 (83, [x0, x1, some (.int i), x3, x4], st, a, h) = Rn 144 (84, [x0, x1, some (.int i), x3, x4], .int i :: st, a, h) := Rn_go c144_83 rfl
theorem c144_84 : mcode 144 84 = some (.if_icmp .ne 7, 3, 0, 0, 0) := rfl
theorem r144_84 : Rn 144 (84, [x0, x1, x2, x3, x4], .int j :: .int i :: st, a, h) = if i = j then Rn 144 (87, [x0, x1, x2, x3, x4], st, a, h) else Rn 144 (91, [x0, x1, x2, x3, x4], st, a, h) := Rn_icmpn c144_84 mc_ne rfl rfl
theorem c144_87 : mcode 144 87 = some (.iload_n 1, 1, 0, 0, 0) := rfl
theorem r144_87 : Rn 144 (87, [x0, some (.int i), x2, x3, x4], st, a, h) = Rn 144 (88, [x0, some (.int i), x2, x3, x4], .int i :: st, a, h) := Rn_go c144_87 rfl
theorem c144_88 : mcode 144 88 = some (.goto 5, 3, 0, 0, 0) := rfl
theorem r144_88 : Rn 144 (88, [x0, x1, x2, x3, x4], st, a, h) = Rn 144 (93, [x0, x1, x2, x3, x4], st, a, h) := Rn_goto c144_88 rfl
theorem c144_91 : mcode 144 91 = some (.iload 4, 2, 0, 0, 0) := rfl
theorem r144_91 : Rn 144 (91, [x0, x1, x2, x3, some (.int i)], st, a, h) = Rn 144 (93, [x0, x1, x2, x3, some (.int i)], .int i :: st, a, h) := Rn_go c144_91 rfl
theorem c144_93 : mcode 144 93 = some (.iastore, 1, 0, 0, 0) := rfl
theorem r144_93 : Rn 144 (93, [x0, x1, x2, x3, x4], .int j :: .int i :: .ref q :: st, a, h) = Kh 144 94 [x0, x1, x2, x3, x4] st a (mias h q i j) := Rn_iast c144_93 rfl
theorem c144_94 : mcode 144 94 = some (.iinc 3 1, 3, 0, 0, 0) := rfl
theorem r144_94 : Rn 144 (94, [x0, x1, x2, some (.int i), x4], st, a, h) = Nl x2 (Rn 144 (97, [x0, x1, x2, some (.int (i + (1 : Int32))), x4], st, a, h)) := Rn_st1 (k := 3) (v := .int (i + (1 : Int32))) x2 c144_94 rfl rfl rfl rfl
theorem c144_97 : mcode 144 97 = some (.goto (-53), 3, 0, 0, 0) := rfl
theorem r144_97 : Rn 144 (97, [x0, x1, x2, x3, x4], st, a, h) = Rn 144 (44, [x0, x1, x2, x3, x4], st, a, h) := Rn_goto c144_97 rfl
theorem c144_100 : mcode 144 100 = some (.return_, 1, 0, 0, 0) := rfl
theorem r144_100 : Rn 144 (100, [x0, x1, x2, x3, x4], [], a, h) = some (none, a, h) := Rn_act c144_100
theorem c145_0 : mcode 145 0 = some (.iload_n 1, 1, 0, 0, 0) := rfl
theorem r145_0 : Rn 145 (0, [x0, some (.int i), x2], st, a, h) = Rn 145 (1, [x0, some (.int i), x2], .int i :: st, a, h) := Rn_go c145_0 rfl
theorem c145_1 : mcode 145 1 = some (.invokestatic 43, 3, 128, 1, 0) := rfl
theorem r145_1 : Rn 145 (1, [x0, x1, x2], [v0], a, h) = Bk 145 4 [x0, x1, x2] [] (Ec 128 [v0] a h) := Rn_call0 c145_1 (fun z => nomatch z) rfl (Nat.le_of_ble_eq_true rfl) rfl rfl (Nat.le_of_ble_eq_true rfl)
theorem c145_4 : mcode 145 4 = some (.ifCond .eq 15, 3, 0, 0, 0) := rfl
theorem r145_4 : Rn 145 (4, [x0, x1, x2], .int i :: st, a, h) = if i = 0 then Rn 145 (19, [x0, x1, x2], st, a, h) else Rn 145 (7, [x0, x1, x2], st, a, h) := Rn_ifc c145_4 mc_eq rfl rfl
theorem c145_7 : mcode 145 7 = some (.iload_n 2, 1, 0, 0, 0) := rfl
theorem r145_7 : Rn 145 (7, [x0, x1, some (.int i)], st, a, h) = Rn 145 (8, [x0, x1, some (.int i)], .int i :: st, a, h) := Rn_go c145_7 rfl
theorem c145_8 : mcode 145 8 = some (.invokestatic 43, 3, 128, 1, 0) := rfl
theorem r145_8 : Rn 145 (8, [x0, x1, x2], [v0], a, h) = Bk 145 11 [x0, x1, x2] [] (Ec 128 [v0] a h) := Rn_call0 c145_8 (fun z => nomatch z) rfl (Nat.le_of_ble_eq_true rfl) rfl rfl (Nat.le_of_ble_eq_true rfl)
theorem c145_11 : mcode 145 11 = some (.ifCond .eq 8, 3, 0, 0, 0) := rfl
theorem r145_11 : Rn 145 (11, [x0, x1, x2], .int i :: st, a, h) = if i = 0 then Rn 145 (19, [x0, x1, x2], st, a, h) else Rn 145 (14, [x0, x1, x2], st, a, h) := Rn_ifc c145_11 mc_eq rfl rfl
theorem c145_14 : mcode 145 14 = some (.iload_n 1, 1, 0, 0, 0) := rfl
theorem r145_14 : Rn 145 (14, [x0, some (.int i), x2], st, a, h) = Rn 145 (15, [x0, some (.int i), x2], .int i :: st, a, h) := Rn_go c145_14 rfl
theorem c145_15 : mcode 145 15 = some (.iload_n 2, 1, 0, 0, 0) := rfl
theorem r145_15 : Rn 145 (15, [x0, x1, some (.int i)], st, a, h) = Rn 145 (16, [x0, x1, some (.int i)], .int i :: st, a, h) := Rn_go c145_15 rfl
theorem c145_16 : mcode 145 16 = some (.if_icmp .ne 10, 3, 0, 0, 0) := rfl
theorem r145_16 : Rn 145 (16, [x0, x1, x2], .int j :: .int i :: st, a, h) = if i = j then Rn 145 (19, [x0, x1, x2], st, a, h) else Rn 145 (26, [x0, x1, x2], st, a, h) := Rn_icmpn c145_16 mc_ne rfl rfl
theorem c145_19 : mcode 145 19 = some (.aload_n 0, 1, 0, 0, 0) := rfl
theorem r145_19 : Rn 145 (19, [some (.ref q), x1, x2], st, a, h) = Rn 145 (20, [some (.ref q), x1, x2], .ref q :: st, a, h) := Rn_go c145_19 rfl
theorem c145_20 : mcode 145 20 = some (.ldc 37, 2, 0, 0, -1000001) := rfl
theorem r145_20 : Rn 145 (20, [x0, x1, x2], st, a, h) = Rn 145 (22, [x0, x1, x2], .int (-1000001 : Int32) :: st, a, h) := Rn_go c145_20 rfl
theorem c145_22 : mcode 145 22 = some (.invokevirtual 39, 3, 125, 1, 6) := rfl
theorem r145_22 : Rn 145 (22, [x0, x1, x2], [v0, .ref q], a, h) = if mis h q 6 = true then Bk 145 25 [x0, x1, x2] [] (Ec 125 [.ref q, v0] a h) else none := Rn_call1 c145_22 rfl (Nat.le_of_ble_eq_true rfl) rfl rfl (Nat.le_of_ble_eq_true rfl)
theorem c145_25 : mcode 145 25 = some (.ireturn, 1, 0, 0, 0) := rfl
theorem r145_25 : Rn 145 (25, [x0, x1, x2], [.int i], a, h) = some (some (.int i), a, h) := Rn_ireti c145_25
theorem c145_26 : mcode 145 26 = some (.aload_n 0, 1, 0, 0, 0) := rfl
theorem r145_26 : Rn 145 (26, [some (.ref q), x1, x2], st, a, h) = Rn 145 (27, [some (.ref q), x1, x2], .ref q :: st, a, h) := Rn_go c145_26 rfl
theorem c145_27 : mcode 145 27 = some (.iload_n 1, 1, 0, 0, 0) := rfl
theorem r145_27 : Rn 145 (27, [x0, some (.int i), x2], st, a, h) = Rn 145 (28, [x0, some (.int i), x2], .int i :: st, a, h) := Rn_go c145_27 rfl
theorem c145_28 : mcode 145 28 = some (.iload_n 2, 1, 0, 0, 0) := rfl
theorem r145_28 : Rn 145 (28, [x0, x1, some (.int i)], st, a, h) = Rn 145 (29, [x0, x1, some (.int i)], .int i :: st, a, h) := Rn_go c145_28 rfl
theorem c145_29 : mcode 145 29 = some (.invokevirtual 82, 3, 144, 2, 6) := rfl
theorem r145_29 : Rn 145 (29, [x0, x1, x2], [v1, v0, .ref q], a, h) = if mis h q 6 = true then Bk 145 32 [x0, x1, x2] [] (Ec 144 [.ref q, v0, v1] a h) else none := Rn_call1 c145_29 rfl (Nat.le_of_ble_eq_true rfl) rfl rfl (Nat.le_of_ble_eq_true rfl)
theorem c145_32 : mcode 145 32 = some (.aload_n 0, 1, 0, 0, 0) := rfl
theorem r145_32 : Rn 145 (32, [some (.ref q), x1, x2], st, a, h) = Rn 145 (33, [some (.ref q), x1, x2], .ref q :: st, a, h) := Rn_go c145_32 rfl
theorem c145_33 : mcode 145 33 = some (.iload_n 1, 1, 0, 0, 0) := rfl
theorem r145_33 : Rn 145 (33, [x0, some (.int i), x2], st, a, h) = Rn 145 (34, [x0, some (.int i), x2], .int i :: st, a, h) := Rn_go c145_33 rfl
theorem c145_34 : mcode 145 34 = some (.invokevirtual 71, 3, 140, 1, 6) := rfl
theorem r145_34 : Rn 145 (34, [x0, x1, x2], [v0, .ref q], a, h) = if mis h q 6 = true then Bk 145 37 [x0, x1, x2] [] (Ec 140 [.ref q, v0] a h) else none := Rn_call1 c145_34 rfl (Nat.le_of_ble_eq_true rfl) rfl rfl (Nat.le_of_ble_eq_true rfl)
theorem c145_37 : mcode 145 37 = some (.invokestatic 86, 3, 137, 1, 0) := rfl
theorem r145_37 : Rn 145 (37, [x0, x1, x2], [v0], a, h) = Bk 145 40 [x0, x1, x2] [] (Ec 137 [v0] a h) := Rn_call0 c145_37 (fun z => nomatch z) rfl (Nat.le_of_ble_eq_true rfl) rfl rfl (Nat.le_of_ble_eq_true rfl)
theorem c145_40 : mcode 145 40 = some (.aload_n 0, 1, 0, 0, 0) := rfl
theorem r145_40 : Rn 145 (40, [some (.ref q), x1, x2], st, a, h) = Rn 145 (41, [some (.ref q), x1, x2], .ref q :: st, a, h) := Rn_go c145_40 rfl
theorem c145_41 : mcode 145 41 = some (.iload_n 2, 1, 0, 0, 0) := rfl
theorem r145_41 : Rn 145 (41, [x0, x1, some (.int i)], st, a, h) = Rn 145 (42, [x0, x1, some (.int i)], .int i :: st, a, h) := Rn_go c145_41 rfl
theorem c145_42 : mcode 145 42 = some (.invokevirtual 71, 3, 140, 1, 6) := rfl
theorem r145_42 : Rn 145 (42, [x0, x1, x2], [v0, .ref q, .int i0], a, h) = if mis h q 6 = true then Bk 145 45 [x0, x1, x2] [.int i0] (Ec 140 [.ref q, v0] a h) else none := Rn_call1 c145_42 rfl (Nat.le_of_ble_eq_true rfl) rfl rfl (Nat.le_of_ble_eq_true rfl)
theorem c145_45 : mcode 145 45 = some (.invokestatic 86, 3, 137, 1, 0) := rfl
theorem r145_45 : Rn 145 (45, [x0, x1, x2], [v0, .int i0], a, h) = Bk 145 48 [x0, x1, x2] [.int i0] (Ec 137 [v0] a h) := Rn_call0 c145_45 (fun z => nomatch z) rfl (Nat.le_of_ble_eq_true rfl) rfl rfl (Nat.le_of_ble_eq_true rfl)
theorem c145_48 : mcode 145 48 = some (.iadd, 1, 0, 0, 0) := rfl
theorem r145_48 : Rn 145 (48, [x0, x1, x2], .int j :: .int i :: st, a, h) = Rn 145 (49, [x0, x1, x2], .int (i + j) :: st, a, h) := Rn_go c145_48 rfl
theorem c145_49 : mcode 145 49 = some (.ireturn, 1, 0, 0, 0) := rfl
theorem r145_49 : Rn 145 (49, [x0, x1, x2], [.int i], a, h) = some (some (.int i), a, h) := Rn_ireti c145_49
theorem c146_0 : mcode 146 0 = some (.aload_n 0, 1, 0, 0, 0) := rfl
theorem r146_0 : Rn 146 (0, [some (.ref q), x1, x2, x3], st, a, h) = Rn 146 (1, [some (.ref q), x1, x2, x3], .ref q :: st, a, h) := Rn_go c146_0 rfl
theorem c146_1 : mcode 146 1 = some (.getfield 7, 3, 6, 0, 0) := rfl
theorem r146_1 : Rn 146 (1, [x0, x1, x2, x3], .ref q :: st, a, h) = Kv 146 4 [x0, x1, x2, x3] st a h (mgf h q 6 0) := Rn_getf c146_1 rfl
theorem c146_4 : mcode 146 4 = some (.iconst 0, 1, 0, 0, 0) := rfl
theorem r146_4 : Rn 146 (4, [x0, x1, x2, x3], st, a, h) = Rn 146 (5, [x0, x1, x2, x3], .int (0 : Int32) :: st, a, h) := Rn_go c146_4 rfl
theorem c146_5 : mcode 146 5 = some (.iaload, 1, 0, 0, 0) := rfl
theorem r146_5 : Rn 146 (5, [x0, x1, x2, x3], .int i :: .ref q :: st, a, h) = Ki 146 6 [x0, x1, x2, x3] st a h (mld h q i false) := Rn_iald c146_5 rfl
theorem c146_6 : mcode 146 6 = some (.istore_n 3, 1, 0, 0, 0) := rfl
theorem r146_6 : Rn 146 (6, [x0, x1, x2, x3], .int i :: st, a, h) = Nl x2 (Rn 146 (7, [x0, x1, x2, some (.int i)], st, a, h)) := Rn_st1 (k := 3) (v := .int i) x2 c146_6 rfl rfl rfl rfl
theorem c146_7 : mcode 146 7 = some (.aload_n 0, 1, 0, 0, 0) := rfl
theorem r146_7 : Rn 146 (7, [some (.ref q), x1, x2, x3], st, a, h) = Rn 146 (8, [some (.ref q), x1, x2, x3], .ref q :: st, a, h) := Rn_go c146_7 rfl
theorem c146_8 : mcode 146 8 = some (.getfield 7, 3, 6, 0, 0) := rfl
theorem r146_8 : Rn 146 (8, [x0, x1, x2, x3], .ref q :: st, a, h) = Kv 146 11 [x0, x1, x2, x3] st a h (mgf h q 6 0) := Rn_getf c146_8 rfl
theorem c146_11 : mcode 146 11 = some (.iload_n 3, 1, 0, 0, 0) := rfl
theorem r146_11 : Rn 146 (11, [x0, x1, x2, some (.int i)], st, a, h) = Rn 146 (12, [x0, x1, x2, some (.int i)], .int i :: st, a, h) := Rn_go c146_11 rfl
theorem c146_12 : mcode 146 12 = some (.iconst 0, 1, 0, 0, 0) := rfl
theorem r146_12 : Rn 146 (12, [x0, x1, x2, x3], st, a, h) = Rn 146 (13, [x0, x1, x2, x3], .int (0 : Int32) :: st, a, h) := Rn_go c146_12 rfl
theorem c146_13 : mcode 146 13 = some (.invokestatic 79, 3, 131, 2, 0) := rfl
theorem r146_13 : Rn 146 (13, [x0, x1, x2, x3], [v1, v0, .ref q0], a, h) = Bk 146 16 [x0, x1, x2, x3] [.ref q0] (Ec 131 [v0, v1] a h) := Rn_call0 c146_13 (fun z => nomatch z) rfl (Nat.le_of_ble_eq_true rfl) rfl rfl (Nat.le_of_ble_eq_true rfl)
theorem c146_16 : mcode 146 16 = some (.iload_n 1, 1, 0, 0, 0) := rfl
theorem r146_16 : Rn 146 (16, [x0, some (.int i), x2, x3], st, a, h) = Rn 146 (17, [x0, some (.int i), x2, x3], .int i :: st, a, h) := Rn_go c146_16 rfl
theorem c146_17 : mcode 146 17 = some (.iastore, 1, 0, 0, 0) := rfl
theorem r146_17 : Rn 146 (17, [x0, x1, x2, x3], .int j :: .int i :: .ref q :: st, a, h) = Kh 146 18 [x0, x1, x2, x3] st a (mias h q i j) := Rn_iast c146_17 rfl
theorem c146_18 : mcode 146 18 = some (.aload_n 0, 1, 0, 0, 0) := rfl
theorem r146_18 : Rn 146 (18, [some (.ref q), x1, x2, x3], st, a, h) = Rn 146 (19, [some (.ref q), x1, x2, x3], .ref q :: st, a, h) := Rn_go c146_18 rfl
theorem c146_19 : mcode 146 19 = some (.getfield 7, 3, 6, 0, 0) := rfl
theorem r146_19 : Rn 146 (19, [x0, x1, x2, x3], .ref q :: st, a, h) = Kv 146 22 [x0, x1, x2, x3] st a h (mgf h q 6 0) := Rn_getf c146_19 rfl
theorem c146_22 : mcode 146 22 = some (.iload_n 3, 1, 0, 0, 0) := rfl
theorem r146_22 : Rn 146 (22, [x0, x1, x2, some (.int i)], st, a, h) = Rn 146 (23, [x0, x1, x2, some (.int i)], .int i :: st, a, h) := Rn_go c146_22 rfl
theorem c146_23 : mcode 146 23 = some (.iconst 1, 1, 0, 0, 0) := rfl
theorem r146_23 : Rn 146 (23, [x0, x1, x2, x3], st, a, h) = Rn 146 (24, [x0, x1, x2, x3], .int (1 : Int32) :: st, a, h) := Rn_go c146_23 rfl
theorem c146_24 : mcode 146 24 = some (.invokestatic 79, 3, 131, 2, 0) := rfl
theorem r146_24 : Rn 146 (24, [x0, x1, x2, x3], [v1, v0, .ref q0], a, h) = Bk 146 27 [x0, x1, x2, x3] [.ref q0] (Ec 131 [v0, v1] a h) := Rn_call0 c146_24 (fun z => nomatch z) rfl (Nat.le_of_ble_eq_true rfl) rfl rfl (Nat.le_of_ble_eq_true rfl)
theorem c146_27 : mcode 146 27 = some (.iload_n 2, 1, 0, 0, 0) := rfl
theorem r146_27 : Rn 146 (27, [x0, x1, some (.int i), x3], st, a, h) = Rn 146 (28, [x0, x1, some (.int i), x3], .int i :: st, a, h) := Rn_go c146_27 rfl
theorem c146_28 : mcode 146 28 = some (.iastore, 1, 0, 0, 0) := rfl
theorem r146_28 : Rn 146 (28, [x0, x1, x2, x3], .int j :: .int i :: .ref q :: st, a, h) = Kh 146 29 [x0, x1, x2, x3] st a (mias h q i j) := Rn_iast c146_28 rfl
theorem c146_29 : mcode 146 29 = some (.aload_n 0, 1, 0, 0, 0) := rfl
theorem r146_29 : Rn 146 (29, [some (.ref q), x1, x2, x3], st, a, h) = Rn 146 (30, [some (.ref q), x1, x2, x3], .ref q :: st, a, h) := Rn_go c146_29 rfl
theorem c146_30 : mcode 146 30 = some (.getfield 7, 3, 6, 0, 0) := rfl
theorem r146_30 : Rn 146 (30, [x0, x1, x2, x3], .ref q :: st, a, h) = Kv 146 33 [x0, x1, x2, x3] st a h (mgf h q 6 0) := Rn_getf c146_30 rfl
theorem c146_33 : mcode 146 33 = some (.iload_n 3, 1, 0, 0, 0) := rfl
theorem r146_33 : Rn 146 (33, [x0, x1, x2, some (.int i)], st, a, h) = Rn 146 (34, [x0, x1, x2, some (.int i)], .int i :: st, a, h) := Rn_go c146_33 rfl
theorem c146_34 : mcode 146 34 = some (.iconst 2, 1, 0, 0, 0) := rfl
theorem r146_34 : Rn 146 (34, [x0, x1, x2, x3], st, a, h) = Rn 146 (35, [x0, x1, x2, x3], .int (2 : Int32) :: st, a, h) := Rn_go c146_34 rfl
theorem c146_35 : mcode 146 35 = some (.invokestatic 79, 3, 131, 2, 0) := rfl
theorem r146_35 : Rn 146 (35, [x0, x1, x2, x3], [v1, v0, .ref q0], a, h) = Bk 146 38 [x0, x1, x2, x3] [.ref q0] (Ec 131 [v0, v1] a h) := Rn_call0 c146_35 (fun z => nomatch z) rfl (Nat.le_of_ble_eq_true rfl) rfl rfl (Nat.le_of_ble_eq_true rfl)
theorem c146_38 : mcode 146 38 = some (.iconst 0, 1, 0, 0, 0) := rfl
theorem r146_38 : Rn 146 (38, [x0, x1, x2, x3], st, a, h) = Rn 146 (39, [x0, x1, x2, x3], .int (0 : Int32) :: st, a, h) := Rn_go c146_38 rfl
theorem c146_39 : mcode 146 39 = some (.iastore, 1, 0, 0, 0) := rfl
theorem r146_39 : Rn 146 (39, [x0, x1, x2, x3], .int j :: .int i :: .ref q :: st, a, h) = Kh 146 40 [x0, x1, x2, x3] st a (mias h q i j) := Rn_iast c146_39 rfl
theorem c146_40 : mcode 146 40 = some (.aload_n 0, 1, 0, 0, 0) := rfl
theorem r146_40 : Rn 146 (40, [some (.ref q), x1, x2, x3], st, a, h) = Rn 146 (41, [some (.ref q), x1, x2, x3], .ref q :: st, a, h) := Rn_go c146_40 rfl
theorem c146_41 : mcode 146 41 = some (.getfield 7, 3, 6, 0, 0) := rfl
theorem r146_41 : Rn 146 (41, [x0, x1, x2, x3], .ref q :: st, a, h) = Kv 146 44 [x0, x1, x2, x3] st a h (mgf h q 6 0) := Rn_getf c146_41 rfl
theorem c146_44 : mcode 146 44 = some (.iload_n 3, 1, 0, 0, 0) := rfl
theorem r146_44 : Rn 146 (44, [x0, x1, x2, some (.int i)], st, a, h) = Rn 146 (45, [x0, x1, x2, some (.int i)], .int i :: st, a, h) := Rn_go c146_44 rfl
theorem c146_45 : mcode 146 45 = some (.iconst 3, 1, 0, 0, 0) := rfl
theorem r146_45 : Rn 146 (45, [x0, x1, x2, x3], st, a, h) = Rn 146 (46, [x0, x1, x2, x3], .int (3 : Int32) :: st, a, h) := Rn_go c146_45 rfl
theorem c146_46 : mcode 146 46 = some (.invokestatic 79, 3, 131, 2, 0) := rfl
theorem r146_46 : Rn 146 (46, [x0, x1, x2, x3], [v1, v0, .ref q0], a, h) = Bk 146 49 [x0, x1, x2, x3] [.ref q0] (Ec 131 [v0, v1] a h) := Rn_call0 c146_46 (fun z => nomatch z) rfl (Nat.le_of_ble_eq_true rfl) rfl rfl (Nat.le_of_ble_eq_true rfl)
theorem c146_49 : mcode 146 49 = some (.bipush 60, 2, 0, 0, 0) := rfl
theorem r146_49 : Rn 146 (49, [x0, x1, x2, x3], st, a, h) = Rn 146 (51, [x0, x1, x2, x3], .int (60 : Int32) :: st, a, h) := Rn_go c146_49 rfl
theorem c146_51 : mcode 146 51 = some (.iastore, 1, 0, 0, 0) := rfl
theorem r146_51 : Rn 146 (51, [x0, x1, x2, x3], .int j :: .int i :: .ref q :: st, a, h) = Kh 146 52 [x0, x1, x2, x3] st a (mias h q i j) := Rn_iast c146_51 rfl
theorem c146_52 : mcode 146 52 = some (.aload_n 0, 1, 0, 0, 0) := rfl
theorem r146_52 : Rn 146 (52, [some (.ref q), x1, x2, x3], st, a, h) = Rn 146 (53, [some (.ref q), x1, x2, x3], .ref q :: st, a, h) := Rn_go c146_52 rfl
theorem c146_53 : mcode 146 53 = some (.getfield 7, 3, 6, 0, 0) := rfl
theorem r146_53 : Rn 146 (53, [x0, x1, x2, x3], .ref q :: st, a, h) = Kv 146 56 [x0, x1, x2, x3] st a h (mgf h q 6 0) := Rn_getf c146_53 rfl
theorem c146_56 : mcode 146 56 = some (.iload_n 3, 1, 0, 0, 0) := rfl
theorem r146_56 : Rn 146 (56, [x0, x1, x2, some (.int i)], st, a, h) = Rn 146 (57, [x0, x1, x2, some (.int i)], .int i :: st, a, h) := Rn_go c146_56 rfl
theorem c146_57 : mcode 146 57 = some (.iconst 4, 1, 0, 0, 0) := rfl
theorem r146_57 : Rn 146 (57, [x0, x1, x2, x3], st, a, h) = Rn 146 (58, [x0, x1, x2, x3], .int (4 : Int32) :: st, a, h) := Rn_go c146_57 rfl
theorem c146_58 : mcode 146 58 = some (.invokestatic 79, 3, 131, 2, 0) := rfl
theorem r146_58 : Rn 146 (58, [x0, x1, x2, x3], [v1, v0, .ref q0], a, h) = Bk 146 61 [x0, x1, x2, x3] [.ref q0] (Ec 131 [v0, v1] a h) := Rn_call0 c146_58 (fun z => nomatch z) rfl (Nat.le_of_ble_eq_true rfl) rfl rfl (Nat.le_of_ble_eq_true rfl)
theorem c146_61 : mcode 146 61 = some (.iconst 0, 1, 0, 0, 0) := rfl
theorem r146_61 : Rn 146 (61, [x0, x1, x2, x3], st, a, h) = Rn 146 (62, [x0, x1, x2, x3], .int (0 : Int32) :: st, a, h) := Rn_go c146_61 rfl
theorem c146_62 : mcode 146 62 = some (.iastore, 1, 0, 0, 0) := rfl
theorem r146_62 : Rn 146 (62, [x0, x1, x2, x3], .int j :: .int i :: .ref q :: st, a, h) = Kh 146 63 [x0, x1, x2, x3] st a (mias h q i j) := Rn_iast c146_62 rfl
theorem c146_63 : mcode 146 63 = some (.aload_n 0, 1, 0, 0, 0) := rfl
theorem r146_63 : Rn 146 (63, [some (.ref q), x1, x2, x3], st, a, h) = Rn 146 (64, [some (.ref q), x1, x2, x3], .ref q :: st, a, h) := Rn_go c146_63 rfl
theorem c146_64 : mcode 146 64 = some (.getfield 7, 3, 6, 0, 0) := rfl
theorem r146_64 : Rn 146 (64, [x0, x1, x2, x3], .ref q :: st, a, h) = Kv 146 67 [x0, x1, x2, x3] st a h (mgf h q 6 0) := Rn_getf c146_64 rfl
theorem c146_67 : mcode 146 67 = some (.iload_n 3, 1, 0, 0, 0) := rfl
theorem r146_67 : Rn 146 (67, [x0, x1, x2, some (.int i)], st, a, h) = Rn 146 (68, [x0, x1, x2, some (.int i)], .int i :: st, a, h) := Rn_go c146_67 rfl
theorem c146_68 : mcode 146 68 = some (.iconst 5, 1, 0, 0, 0) := rfl
theorem r146_68 : Rn 146 (68, [x0, x1, x2, x3], st, a, h) = Rn 146 (69, [x0, x1, x2, x3], .int (5 : Int32) :: st, a, h) := Rn_go c146_68 rfl
theorem c146_69 : mcode 146 69 = some (.invokestatic 79, 3, 131, 2, 0) := rfl
theorem r146_69 : Rn 146 (69, [x0, x1, x2, x3], [v1, v0, .ref q0], a, h) = Bk 146 72 [x0, x1, x2, x3] [.ref q0] (Ec 131 [v0, v1] a h) := Rn_call0 c146_69 (fun z => nomatch z) rfl (Nat.le_of_ble_eq_true rfl) rfl rfl (Nat.le_of_ble_eq_true rfl)
theorem c146_72 : mcode 146 72 = some (.iconst 0, 1, 0, 0, 0) := rfl
theorem r146_72 : Rn 146 (72, [x0, x1, x2, x3], st, a, h) = Rn 146 (73, [x0, x1, x2, x3], .int (0 : Int32) :: st, a, h) := Rn_go c146_72 rfl
theorem c146_73 : mcode 146 73 = some (.iastore, 1, 0, 0, 0) := rfl
theorem r146_73 : Rn 146 (73, [x0, x1, x2, x3], .int j :: .int i :: .ref q :: st, a, h) = Kh 146 74 [x0, x1, x2, x3] st a (mias h q i j) := Rn_iast c146_73 rfl
theorem c146_74 : mcode 146 74 = some (.aload_n 0, 1, 0, 0, 0) := rfl
theorem r146_74 : Rn 146 (74, [some (.ref q), x1, x2, x3], st, a, h) = Rn 146 (75, [some (.ref q), x1, x2, x3], .ref q :: st, a, h) := Rn_go c146_74 rfl
theorem c146_75 : mcode 146 75 = some (.getfield 7, 3, 6, 0, 0) := rfl
theorem r146_75 : Rn 146 (75, [x0, x1, x2, x3], .ref q :: st, a, h) = Kv 146 78 [x0, x1, x2, x3] st a h (mgf h q 6 0) := Rn_getf c146_75 rfl
theorem c146_78 : mcode 146 78 = some (.iconst 0, 1, 0, 0, 0) := rfl
theorem r146_78 : Rn 146 (78, [x0, x1, x2, x3], st, a, h) = Rn 146 (79, [x0, x1, x2, x3], .int (0 : Int32) :: st, a, h) := Rn_go c146_78 rfl
theorem c146_79 : mcode 146 79 = some (.dup2, 1, 0, 0, 0) := rfl
theorem r146_79 : Rn 146 (79, [x0, x1, x2, x3], .int i :: .ref p :: st, a, h) = Rn 146 (80, [x0, x1, x2, x3], .int i :: .ref p :: .int i :: .ref p :: st, a, h) := Rn_go c146_79 rfl
theorem c146_80 : mcode 146 80 = some (.iaload, 1, 0, 0, 0) := rfl
theorem r146_80 : Rn 146 (80, [x0, x1, x2, x3], .int i :: .ref q :: st, a, h) = Ki 146 81 [x0, x1, x2, x3] st a h (mld h q i false) := Rn_iald c146_80 rfl
theorem c146_81 : mcode 146 81 = some (.iconst 1, 1, 0, 0, 0) := rfl
theorem r146_81 : Rn 146 (81, [x0, x1, x2, x3], st, a, h) = Rn 146 (82, [x0, x1, x2, x3], .int (1 : Int32) :: st, a, h) := Rn_go c146_81 rfl
theorem c146_82 : mcode 146 82 = some (.iadd, 1, 0, 0, 0) := rfl
theorem r146_82 : Rn 146 (82, [x0, x1, x2, x3], .int j :: .int i :: st, a, h) = Rn 146 (83, [x0, x1, x2, x3], .int (i + j) :: st, a, h) := Rn_go c146_82 rfl
theorem c146_83 : mcode 146 83 = some (.iastore, 1, 0, 0, 0) := rfl
theorem r146_83 : Rn 146 (83, [x0, x1, x2, x3], .int j :: .int i :: .ref q :: st, a, h) = Kh 146 84 [x0, x1, x2, x3] st a (mias h q i j) := Rn_iast c146_83 rfl
theorem c146_84 : mcode 146 84 = some (.return_, 1, 0, 0, 0) := rfl
theorem r146_84 : Rn 146 (84, [x0, x1, x2, x3], [], a, h) = some (none, a, h) := Rn_act c146_84
theorem c147_0 : mcode 147 0 = some (.iload_n 1, 1, 0, 0, 0) := rfl
theorem r147_0 : Rn 147 (0, [x0, some (.int i), x2], st, a, h) = Rn 147 (1, [x0, some (.int i), x2], .int i :: st, a, h) := Rn_go c147_0 rfl
theorem c147_1 : mcode 147 1 = some (.i2l, 1, 0, 0, 0) := rfl
theorem r147_1 : Rn 147 (1, [x0, x1, x2], .int i :: st, a, h) = Rn 147 (2, [x0, x1, x2], .long i.toInt64 :: st, a, h) := Rn_go c147_1 rfl
theorem c147_2 : mcode 147 2 = some (.lconst 0, 1, 0, 0, 0) := rfl
theorem r147_2 : Rn 147 (2, [x0, x1, x2], st, a, h) = Rn 147 (3, [x0, x1, x2], .long (0 : Int64) :: st, a, h) := Rn_go c147_2 rfl
theorem c147_3 : mcode 147 3 = some (.ldc2_w 89, 3, 0, 0, 6) := rfl
theorem r147_3 : Rn 147 (3, [x0, x1, x2], st, a, h) = Rn 147 (6, [x0, x1, x2], .long (6 : Int64) :: st, a, h) := Rn_go c147_3 rfl
theorem c147_6 : mcode 147 6 = some (.invokestatic 52, 3, 124, 3, 0) := rfl
theorem r147_6 : Rn 147 (6, [x0, x1, x2], [v2, v1, v0], a, h) = Bk 147 9 [x0, x1, x2] [] (Ec 124 [v0, v1, v2] a h) := Rn_call0 c147_6 (fun z => nomatch z) rfl (Nat.le_of_ble_eq_true rfl) rfl rfl (Nat.le_of_ble_eq_true rfl)
theorem c147_9 : mcode 147 9 = some (.ifCond .eq 10, 3, 0, 0, 0) := rfl
theorem r147_9 : Rn 147 (9, [x0, x1, x2], .int i :: st, a, h) = if i = 0 then Rn 147 (19, [x0, x1, x2], st, a, h) else Rn 147 (12, [x0, x1, x2], st, a, h) := Rn_ifc c147_9 mc_eq rfl rfl
theorem c147_12 : mcode 147 12 = some (.iload_n 2, 1, 0, 0, 0) := rfl
theorem r147_12 : Rn 147 (12, [x0, x1, some (.int i)], st, a, h) = Rn 147 (13, [x0, x1, some (.int i)], .int i :: st, a, h) := Rn_go c147_12 rfl
theorem c147_13 : mcode 147 13 = some (.invokestatic 43, 3, 128, 1, 0) := rfl
theorem r147_13 : Rn 147 (13, [x0, x1, x2], [v0], a, h) = Bk 147 16 [x0, x1, x2] [] (Ec 128 [v0] a h) := Rn_call0 c147_13 (fun z => nomatch z) rfl (Nat.le_of_ble_eq_true rfl) rfl rfl (Nat.le_of_ble_eq_true rfl)
theorem c147_16 : mcode 147 16 = some (.ifCond .ne 10, 3, 0, 0, 0) := rfl
theorem r147_16 : Rn 147 (16, [x0, x1, x2], .int i :: st, a, h) = if i = 0 then Rn 147 (19, [x0, x1, x2], st, a, h) else Rn 147 (26, [x0, x1, x2], st, a, h) := Rn_ifcn c147_16 mc_ne rfl rfl
theorem c147_19 : mcode 147 19 = some (.aload_n 0, 1, 0, 0, 0) := rfl
theorem r147_19 : Rn 147 (19, [some (.ref q), x1, x2], st, a, h) = Rn 147 (20, [some (.ref q), x1, x2], .ref q :: st, a, h) := Rn_go c147_19 rfl
theorem c147_20 : mcode 147 20 = some (.ldc 37, 2, 0, 0, -1000001) := rfl
theorem r147_20 : Rn 147 (20, [x0, x1, x2], st, a, h) = Rn 147 (22, [x0, x1, x2], .int (-1000001 : Int32) :: st, a, h) := Rn_go c147_20 rfl
theorem c147_22 : mcode 147 22 = some (.invokevirtual 39, 3, 125, 1, 6) := rfl
theorem r147_22 : Rn 147 (22, [x0, x1, x2], [v0, .ref q], a, h) = if mis h q 6 = true then Bk 147 25 [x0, x1, x2] [] (Ec 125 [.ref q, v0] a h) else none := Rn_call1 c147_22 rfl (Nat.le_of_ble_eq_true rfl) rfl rfl (Nat.le_of_ble_eq_true rfl)
theorem c147_25 : mcode 147 25 = some (.ireturn, 1, 0, 0, 0) := rfl
theorem r147_25 : Rn 147 (25, [x0, x1, x2], [.int i], a, h) = some (some (.int i), a, h) := Rn_ireti c147_25
theorem c147_26 : mcode 147 26 = some (.aload_n 0, 1, 0, 0, 0) := rfl
theorem r147_26 : Rn 147 (26, [some (.ref q), x1, x2], st, a, h) = Rn 147 (27, [some (.ref q), x1, x2], .ref q :: st, a, h) := Rn_go c147_26 rfl
theorem c147_27 : mcode 147 27 = some (.getfield 7, 3, 6, 0, 0) := rfl
theorem r147_27 : Rn 147 (27, [x0, x1, x2], .ref q :: st, a, h) = Kv 147 30 [x0, x1, x2] st a h (mgf h q 6 0) := Rn_getf c147_27 rfl
theorem c147_30 : mcode 147 30 = some (.iconst 0, 1, 0, 0, 0) := rfl
theorem r147_30 : Rn 147 (30, [x0, x1, x2], st, a, h) = Rn 147 (31, [x0, x1, x2], .int (0 : Int32) :: st, a, h) := Rn_go c147_30 rfl
theorem c147_31 : mcode 147 31 = some (.iaload, 1, 0, 0, 0) := rfl
theorem r147_31 : Rn 147 (31, [x0, x1, x2], .int i :: .ref q :: st, a, h) = Ki 147 32 [x0, x1, x2] st a h (mld h q i false) := Rn_iald c147_31 rfl
theorem c147_32 : mcode 147 32 = some (.bipush 8, 2, 0, 0, 0) := rfl
theorem r147_32 : Rn 147 (32, [x0, x1, x2], st, a, h) = Rn 147 (34, [x0, x1, x2], .int (8 : Int32) :: st, a, h) := Rn_go c147_32 rfl
theorem c147_34 : mcode 147 34 = some (.if_icmp .ne 10, 3, 0, 0, 0) := rfl
theorem r147_34 : Rn 147 (34, [x0, x1, x2], .int j :: .int i :: st, a, h) = if i = j then Rn 147 (37, [x0, x1, x2], st, a, h) else Rn 147 (44, [x0, x1, x2], st, a, h) := Rn_icmpn c147_34 mc_ne rfl rfl
theorem c147_37 : mcode 147 37 = some (.aload_n 0, 1, 0, 0, 0) := rfl
theorem r147_37 : Rn 147 (37, [some (.ref q), x1, x2], st, a, h) = Rn 147 (38, [some (.ref q), x1, x2], .ref q :: st, a, h) := Rn_go c147_37 rfl
theorem c147_38 : mcode 147 38 = some (.ldc 91, 2, 0, 0, -1000002) := rfl
theorem r147_38 : Rn 147 (38, [x0, x1, x2], st, a, h) = Rn 147 (40, [x0, x1, x2], .int (-1000002 : Int32) :: st, a, h) := Rn_go c147_38 rfl
theorem c147_40 : mcode 147 40 = some (.invokevirtual 39, 3, 125, 1, 6) := rfl
theorem r147_40 : Rn 147 (40, [x0, x1, x2], [v0, .ref q], a, h) = if mis h q 6 = true then Bk 147 43 [x0, x1, x2] [] (Ec 125 [.ref q, v0] a h) else none := Rn_call1 c147_40 rfl (Nat.le_of_ble_eq_true rfl) rfl rfl (Nat.le_of_ble_eq_true rfl)
theorem c147_43 : mcode 147 43 = some (.ireturn, 1, 0, 0, 0) := rfl
theorem r147_43 : Rn 147 (43, [x0, x1, x2], [.int i], a, h) = some (some (.int i), a, h) := Rn_ireti c147_43
theorem c147_44 : mcode 147 44 = some (.aload_n 0, 1, 0, 0, 0) := rfl
theorem r147_44 : Rn 147 (44, [some (.ref q), x1, x2], st, a, h) = Rn 147 (45, [some (.ref q), x1, x2], .ref q :: st, a, h) := Rn_go c147_44 rfl
theorem c147_45 : mcode 147 45 = some (.iload_n 1, 1, 0, 0, 0) := rfl
theorem r147_45 : Rn 147 (45, [x0, some (.int i), x2], st, a, h) = Rn 147 (46, [x0, some (.int i), x2], .int i :: st, a, h) := Rn_go c147_45 rfl
theorem c147_46 : mcode 147 46 = some (.iload_n 2, 1, 0, 0, 0) := rfl
theorem r147_46 : Rn 147 (46, [x0, x1, some (.int i)], st, a, h) = Rn 147 (47, [x0, x1, some (.int i)], .int i :: st, a, h) := Rn_go c147_46 rfl
theorem c147_47 : mcode 147 47 = some (.invokevirtual 92, 3, 146, 2, 6) := rfl
theorem r147_47 : Rn 147 (47, [x0, x1, x2], [v1, v0, .ref q], a, h) = if mis h q 6 = true then Bk 147 50 [x0, x1, x2] [] (Ec 146 [.ref q, v0, v1] a h) else none := Rn_call1 c147_47 rfl (Nat.le_of_ble_eq_true rfl) rfl rfl (Nat.le_of_ble_eq_true rfl)
theorem c147_50 : mcode 147 50 = some (.aload_n 0, 1, 0, 0, 0) := rfl
theorem r147_50 : Rn 147 (50, [some (.ref q), x1, x2], st, a, h) = Rn 147 (51, [some (.ref q), x1, x2], .ref q :: st, a, h) := Rn_go c147_50 rfl
theorem c147_51 : mcode 147 51 = some (.getfield 7, 3, 6, 0, 0) := rfl
theorem r147_51 : Rn 147 (51, [x0, x1, x2], .ref q :: st, a, h) = Kv 147 54 [x0, x1, x2] st a h (mgf h q 6 0) := Rn_getf c147_51 rfl
theorem c147_54 : mcode 147 54 = some (.iconst 0, 1, 0, 0, 0) := rfl
theorem r147_54 : Rn 147 (54, [x0, x1, x2], st, a, h) = Rn 147 (55, [x0, x1, x2], .int (0 : Int32) :: st, a, h) := Rn_go c147_54 rfl
theorem c147_55 : mcode 147 55 = some (.iaload, 1, 0, 0, 0) := rfl
theorem r147_55 : Rn 147 (55, [x0, x1, x2], .int i :: .ref q :: st, a, h) = Ki 147 56 [x0, x1, x2] st a h (mld h q i false) := Rn_iald c147_55 rfl
theorem c147_56 : mcode 147 56 = some (.iconst 1, 1, 0, 0, 0) := rfl
theorem r147_56 : Rn 147 (56, [x0, x1, x2], st, a, h) = Rn 147 (57, [x0, x1, x2], .int (1 : Int32) :: st, a, h) := Rn_go c147_56 rfl
theorem c147_57 : mcode 147 57 = some (.isub, 1, 0, 0, 0) := rfl
theorem r147_57 : Rn 147 (57, [x0, x1, x2], .int j :: .int i :: st, a, h) = Rn 147 (58, [x0, x1, x2], .int (i - j) :: st, a, h) := Rn_go c147_57 rfl
theorem c147_58 : mcode 147 58 = some (.ireturn, 1, 0, 0, 0) := rfl
theorem r147_58 : Rn 147 (58, [x0, x1, x2], [.int i], a, h) = some (some (.int i), a, h) := Rn_ireti c147_58
theorem c148_0 : mcode 148 0 = some (.iconst 4, 1, 0, 0, 0) := rfl
theorem r148_0 : Rn 148 (0, [x0, x1, x2], st, a, h) = Rn 148 (1, [x0, x1, x2], .int (4 : Int32) :: st, a, h) := Rn_go c148_0 rfl
theorem c148_1 : mcode 148 1 = some (.aload_n 0, 1, 0, 0, 0) := rfl
theorem r148_1 : Rn 148 (1, [some (.ref q), x1, x2], st, a, h) = Rn 148 (2, [some (.ref q), x1, x2], .ref q :: st, a, h) := Rn_go c148_1 rfl
theorem c148_2 : mcode 148 2 = some (.getfield 7, 3, 6, 0, 0) := rfl
theorem r148_2 : Rn 148 (2, [x0, x1, x2], .ref q :: st, a, h) = Kv 148 5 [x0, x1, x2] st a h (mgf h q 6 0) := Rn_getf c148_2 rfl
theorem c148_5 : mcode 148 5 = some (.iconst 3, 1, 0, 0, 0) := rfl
theorem r148_5 : Rn 148 (5, [x0, x1, x2], st, a, h) = Rn 148 (6, [x0, x1, x2], .int (3 : Int32) :: st, a, h) := Rn_go c148_5 rfl
theorem c148_6 : mcode 148 6 = some (.iaload, 1, 0, 0, 0) := rfl
theorem r148_6 : Rn 148 (6, [x0, x1, x2], .int i :: .ref q :: st, a, h) = Ki 148 7 [x0, x1, x2] st a h (mld h q i false) := Rn_iald c148_6 rfl
theorem c148_7 : mcode 148 7 = some (.iadd, 1, 0, 0, 0) := rfl
theorem r148_7 : Rn 148 (7, [x0, x1, x2], .int j :: .int i :: st, a, h) = Rn 148 (8, [x0, x1, x2], .int (i + j) :: st, a, h) := Rn_go c148_7 rfl
theorem c148_8 : mcode 148 8 = some (.istore_n 2, 1, 0, 0, 0) := rfl
theorem r148_8 : Rn 148 (8, [x0, x1, x2], .int i :: st, a, h) = Nl x1 (Rn 148 (9, [x0, x1, some (.int i)], st, a, h)) := Rn_st1 (k := 2) (v := .int i) x1 c148_8 rfl rfl rfl rfl
theorem c148_9 : mcode 148 9 = some (.aload_n 0, 1, 0, 0, 0) := rfl
theorem r148_9 : Rn 148 (9, [some (.ref q), x1, x2], st, a, h) = Rn 148 (10, [some (.ref q), x1, x2], .ref q :: st, a, h) := Rn_go c148_9 rfl
theorem c148_10 : mcode 148 10 = some (.iload_n 1, 1, 0, 0, 0) := rfl
theorem r148_10 : Rn 148 (10, [x0, some (.int i), x2], st, a, h) = Rn 148 (11, [x0, some (.int i), x2], .int i :: st, a, h) := Rn_go c148_10 rfl
theorem c148_11 : mcode 148 11 = some (.iconst 0, 1, 0, 0, 0) := rfl
theorem r148_11 : Rn 148 (11, [x0, x1, x2], st, a, h) = Rn 148 (12, [x0, x1, x2], .int (0 : Int32) :: st, a, h) := Rn_go c148_11 rfl
theorem c148_12 : mcode 148 12 = some (.invokevirtual 63, 3, 132, 2, 6) := rfl
theorem r148_12 : Rn 148 (12, [x0, x1, x2], [v1, v0, .ref q], a, h) = if mis h q 6 = true then Bk 148 15 [x0, x1, x2] [] (Ec 132 [.ref q, v0, v1] a h) else none := Rn_call1 c148_12 rfl (Nat.le_of_ble_eq_true rfl) rfl rfl (Nat.le_of_ble_eq_true rfl)
theorem c148_15 : mcode 148 15 = some (.tableswitch 73 1 6 #[37, 41, 45, 51, 69, 71], 37, 0, 0, 0) := rfl
theorem r148_15_1 : Rn 148 (15, [x0, x1, x2], .int (1 : Int32) :: st, a, h) = Rn 148 (52, [x0, x1, x2], st, a, h) := Rn_swAt c148_15 rfl rfl
theorem r148_15_2 : Rn 148 (15, [x0, x1, x2], .int (2 : Int32) :: st, a, h) = Rn 148 (56, [x0, x1, x2], st, a, h) := Rn_swAt c148_15 rfl rfl
theorem r148_15_3 : Rn 148 (15, [x0, x1, x2], .int (3 : Int32) :: st, a, h) = Rn 148 (60, [x0, x1, x2], st, a, h) := Rn_swAt c148_15 rfl rfl
theorem r148_15_4 : Rn 148 (15, [x0, x1, x2], .int (4 : Int32) :: st, a, h) = Rn 148 (66, [x0, x1, x2], st, a, h) := Rn_swAt c148_15 rfl rfl
theorem r148_15_5 : Rn 148 (15, [x0, x1, x2], .int (5 : Int32) :: st, a, h) = Rn 148 (84, [x0, x1, x2], st, a, h) := Rn_swAt c148_15 rfl rfl
theorem r148_15_6 : Rn 148 (15, [x0, x1, x2], .int (6 : Int32) :: st, a, h) = Rn 148 (86, [x0, x1, x2], st, a, h) := Rn_swAt c148_15 rfl rfl
theorem r148_15_d (hi : i.toInt < 1 ∨ 6 < i.toInt) : Rn 148 (15, [x0, x1, x2], .int i :: st, a, h) = Rn 148 (88, [x0, x1, x2], st, a, h) := Rn_swAt c148_15 (if_pos hi) rfl
theorem c148_52 : mcode 148 52 = some (.iload_n 2, 1, 0, 0, 0) := rfl
theorem r148_52 : Rn 148 (52, [x0, x1, some (.int i)], st, a, h) = Rn 148 (53, [x0, x1, some (.int i)], .int i :: st, a, h) := Rn_go c148_52 rfl
theorem c148_53 : mcode 148 53 = some (.iconst 3, 1, 0, 0, 0) := rfl
theorem r148_53 : Rn 148 (53, [x0, x1, x2], st, a, h) = Rn 148 (54, [x0, x1, x2], .int (3 : Int32) :: st, a, h) := Rn_go c148_53 rfl
theorem c148_54 : mcode 148 54 = some (.iadd, 1, 0, 0, 0) := rfl
theorem r148_54 : Rn 148 (54, [x0, x1, x2], .int j :: .int i :: st, a, h) = Rn 148 (55, [x0, x1, x2], .int (i + j) :: st, a, h) := Rn_go c148_54 rfl
theorem c148_55 : mcode 148 55 = some (.ireturn, 1, 0, 0, 0) := rfl
theorem r148_55 : Rn 148 (55, [x0, x1, x2], [.int i], a, h) = some (some (.int i), a, h) := Rn_ireti c148_55
theorem c148_56 : mcode 148 56 = some (.iload_n 2, 1, 0, 0, 0) := rfl
theorem r148_56 : Rn 148 (56, [x0, x1, some (.int i)], st, a, h) = Rn 148 (57, [x0, x1, some (.int i)], .int i :: st, a, h) := Rn_go c148_56 rfl
theorem c148_57 : mcode 148 57 = some (.iconst 2, 1, 0, 0, 0) := rfl
theorem r148_57 : Rn 148 (57, [x0, x1, x2], st, a, h) = Rn 148 (58, [x0, x1, x2], .int (2 : Int32) :: st, a, h) := Rn_go c148_57 rfl
theorem c148_58 : mcode 148 58 = some (.idiv, 1, 0, 0, 0) := rfl
theorem r148_58 : Rn 148 (58, [x0, x1, x2], .int j :: .int i :: st, a, h) = if j = 0 then none else Rn 148 (59, [x0, x1, x2], .int (i / j) :: st, a, h) := Rn_idiv c148_58 rfl
theorem c148_59 : mcode 148 59 = some (.ireturn, 1, 0, 0, 0) := rfl
theorem r148_59 : Rn 148 (59, [x0, x1, x2], [.int i], a, h) = some (some (.int i), a, h) := Rn_ireti c148_59
theorem c148_60 : mcode 148 60 = some (.iload_n 2, 1, 0, 0, 0) := rfl
theorem r148_60 : Rn 148 (60, [x0, x1, some (.int i)], st, a, h) = Rn 148 (61, [x0, x1, some (.int i)], .int i :: st, a, h) := Rn_go c148_60 rfl
theorem c148_61 : mcode 148 61 = some (.iconst 2, 1, 0, 0, 0) := rfl
theorem r148_61 : Rn 148 (61, [x0, x1, x2], st, a, h) = Rn 148 (62, [x0, x1, x2], .int (2 : Int32) :: st, a, h) := Rn_go c148_61 rfl
theorem c148_62 : mcode 148 62 = some (.idiv, 1, 0, 0, 0) := rfl
theorem r148_62 : Rn 148 (62, [x0, x1, x2], .int j :: .int i :: st, a, h) = if j = 0 then none else Rn 148 (63, [x0, x1, x2], .int (i / j) :: st, a, h) := Rn_idiv c148_62 rfl
theorem c148_63 : mcode 148 63 = some (.iconst 5, 1, 0, 0, 0) := rfl
theorem r148_63 : Rn 148 (63, [x0, x1, x2], st, a, h) = Rn 148 (64, [x0, x1, x2], .int (5 : Int32) :: st, a, h) := Rn_go c148_63 rfl
theorem c148_64 : mcode 148 64 = some (.iadd, 1, 0, 0, 0) := rfl
theorem r148_64 : Rn 148 (64, [x0, x1, x2], .int j :: .int i :: st, a, h) = Rn 148 (65, [x0, x1, x2], .int (i + j) :: st, a, h) := Rn_go c148_64 rfl
theorem c148_65 : mcode 148 65 = some (.ireturn, 1, 0, 0, 0) := rfl
theorem r148_65 : Rn 148 (65, [x0, x1, x2], [.int i], a, h) = some (some (.int i), a, h) := Rn_ireti c148_65
theorem c148_66 : mcode 148 66 = some (.iload_n 2, 1, 0, 0, 0) := rfl
theorem r148_66 : Rn 148 (66, [x0, x1, some (.int i)], st, a, h) = Rn 148 (67, [x0, x1, some (.int i)], .int i :: st, a, h) := Rn_go c148_66 rfl
theorem c148_67 : mcode 148 67 = some (.iconst 2, 1, 0, 0, 0) := rfl
theorem r148_67 : Rn 148 (67, [x0, x1, x2], st, a, h) = Rn 148 (68, [x0, x1, x2], .int (2 : Int32) :: st, a, h) := Rn_go c148_67 rfl
theorem c148_68 : mcode 148 68 = some (.idiv, 1, 0, 0, 0) := rfl
theorem r148_68 : Rn 148 (68, [x0, x1, x2], .int j :: .int i :: st, a, h) = if j = 0 then none else Rn 148 (69, [x0, x1, x2], .int (i / j) :: st, a, h) := Rn_idiv c148_68 rfl
theorem c148_69 : mcode 148 69 = some (.iconst 5, 1, 0, 0, 0) := rfl
theorem r148_69 : Rn 148 (69, [x0, x1, x2], st, a, h) = Rn 148 (70, [x0, x1, x2], .int (5 : Int32) :: st, a, h) := Rn_go c148_69 rfl
theorem c148_70 : mcode 148 70 = some (.iadd, 1, 0, 0, 0) := rfl
theorem r148_70 : Rn 148 (70, [x0, x1, x2], .int j :: .int i :: st, a, h) = Rn 148 (71, [x0, x1, x2], .int (i + j) :: st, a, h) := Rn_go c148_70 rfl
theorem c148_71 : mcode 148 71 = some (.bipush 9, 2, 0, 0, 0) := rfl
theorem r148_71 : Rn 148 (71, [x0, x1, x2], st, a, h) = Rn 148 (73, [x0, x1, x2], .int (9 : Int32) :: st, a, h) := Rn_go c148_71 rfl
theorem c148_73 : mcode 148 73 = some (.aload_n 0, 1, 0, 0, 0) := rfl
theorem r148_73 : Rn 148 (73, [some (.ref q), x1, x2], st, a, h) = Rn 148 (74, [some (.ref q), x1, x2], .ref q :: st, a, h) := Rn_go c148_73 rfl
theorem c148_74 : mcode 148 74 = some (.iload_n 1, 1, 0, 0, 0) := rfl
theorem r148_74 : Rn 148 (74, [x0, some (.int i), x2], st, a, h) = Rn 148 (75, [x0, some (.int i), x2], .int i :: st, a, h) := Rn_go c148_74 rfl
theorem c148_75 : mcode 148 75 = some (.iconst 5, 1, 0, 0, 0) := rfl
theorem r148_75 : Rn 148 (75, [x0, x1, x2], st, a, h) = Rn 148 (76, [x0, x1, x2], .int (5 : Int32) :: st, a, h) := Rn_go c148_75 rfl
theorem c148_76 : mcode 148 76 = some (.invokevirtual 63, 3, 132, 2, 6) := rfl
theorem r148_76 : Rn 148 (76, [x0, x1, x2], [v1, v0, .ref q, .int i0, .int i1], a, h) = if mis h q 6 = true then Bk 148 79 [x0, x1, x2] [.int i0, .int i1] (Ec 132 [.ref q, v0, v1] a h) else none := Rn_call1 c148_76 rfl (Nat.le_of_ble_eq_true rfl) rfl rfl (Nat.le_of_ble_eq_true rfl)
theorem c148_79 : mcode 148 79 = some (.invokestatic 95, 3, 134, 2, 0) := rfl
theorem r148_79 : Rn 148 (79, [x0, x1, x2], [v1, v0, .int i0], a, h) = Bk 148 82 [x0, x1, x2] [.int i0] (Ec 134 [v0, v1] a h) := Rn_call0 c148_79 (fun z => nomatch z) rfl (Nat.le_of_ble_eq_true rfl) rfl rfl (Nat.le_of_ble_eq_true rfl)
theorem c148_82 : mcode 148 82 = some (.iadd, 1, 0, 0, 0) := rfl
theorem r148_82 : Rn 148 (82, [x0, x1, x2], .int j :: .int i :: st, a, h) = Rn 148 (83, [x0, x1, x2], .int (i + j) :: st, a, h) := Rn_go c148_82 rfl
theorem c148_83 : mcode 148 83 = some (.ireturn, 1, 0, 0, 0) := rfl
theorem r148_83 : Rn 148 (83, [x0, x1, x2], [.int i], a, h) = some (some (.int i), a, h) := Rn_ireti c148_83
theorem c148_84 : mcode 148 84 = some (.iconst 0, 1, 0, 0, 0) := rfl
theorem r148_84 : Rn 148 (84, [x0, x1, x2], st, a, h) = Rn 148 (85, [x0, x1, x2], .int (0 : Int32) :: st, a, h) := Rn_go c148_84 rfl
theorem c148_85 : mcode 148 85 = some (.ireturn, 1, 0, 0, 0) := rfl
theorem r148_85 : Rn 148 (85, [x0, x1, x2], [.int i], a, h) = some (some (.int i), a, h) := Rn_ireti c148_85
theorem c148_86 : mcode 148 86 = some (.iconst 1, 1, 0, 0, 0) := rfl
theorem r148_86 : Rn 148 (86, [x0, x1, x2], st, a, h) = Rn 148 (87, [x0, x1, x2], .int (1 : Int32) :: st, a, h) := Rn_go c148_86 rfl
theorem c148_87 : mcode 148 87 = some (.ireturn, 1, 0, 0, 0) := rfl
theorem r148_87 : Rn 148 (87, [x0, x1, x2], [.int i], a, h) = some (some (.int i), a, h) := Rn_ireti c148_87
theorem c148_88 : mcode 148 88 = some (.iload_n 2, 1, 0, 0, 0) := rfl
theorem r148_88 : Rn 148 (88, [x0, x1, some (.int i)], st, a, h) = Rn 148 (89, [x0, x1, some (.int i)], .int i :: st, a, h) := Rn_go c148_88 rfl
theorem c148_89 : mcode 148 89 = some (.ireturn, 1, 0, 0, 0) := rfl
theorem r148_89 : Rn 148 (89, [x0, x1, x2], [.int i], a, h) = some (some (.int i), a, h) := Rn_ireti c148_89
theorem c149_0 : mcode 149 0 = some (.aload_n 0, 1, 0, 0, 0) := rfl
theorem r149_0 : Rn 149 (0, [some (.ref q), x1, x2], st, a, h) = Rn 149 (1, [some (.ref q), x1, x2], .ref q :: st, a, h) := Rn_go c149_0 rfl
theorem c149_1 : mcode 149 1 = some (.iload_n 1, 1, 0, 0, 0) := rfl
theorem r149_1 : Rn 149 (1, [x0, some (.int i), x2], st, a, h) = Rn 149 (2, [x0, some (.int i), x2], .int i :: st, a, h) := Rn_go c149_1 rfl
theorem c149_2 : mcode 149 2 = some (.iconst 3, 1, 0, 0, 0) := rfl
theorem r149_2 : Rn 149 (2, [x0, x1, x2], st, a, h) = Rn 149 (3, [x0, x1, x2], .int (3 : Int32) :: st, a, h) := Rn_go c149_2 rfl
theorem c149_3 : mcode 149 3 = some (.invokevirtual 63, 3, 132, 2, 6) := rfl
theorem r149_3 : Rn 149 (3, [x0, x1, x2], [v1, v0, .ref q], a, h) = if mis h q 6 = true then Bk 149 6 [x0, x1, x2] [] (Ec 132 [.ref q, v0, v1] a h) else none := Rn_call1 c149_3 rfl (Nat.le_of_ble_eq_true rfl) rfl rfl (Nat.le_of_ble_eq_true rfl)
theorem c149_6 : mcode 149 6 = some (.bipush 40, 2, 0, 0, 0) := rfl
theorem r149_6 : Rn 149 (6, [x0, x1, x2], st, a, h) = Rn 149 (8, [x0, x1, x2], .int (40 : Int32) :: st, a, h) := Rn_go c149_6 rfl
theorem c149_8 : mcode 149 8 = some (.if_icmp .lt 7, 3, 0, 0, 0) := rfl
theorem r149_8 : Rn 149 (8, [x0, x1, x2], .int j :: .int i :: st, a, h) = if i < j then Rn 149 (15, [x0, x1, x2], st, a, h) else Rn 149 (11, [x0, x1, x2], st, a, h) := Rn_icmp c149_8 mc_lt rfl rfl
theorem c149_11 : mcode 149 11 = some (.iconst (-1), 1, 0, 0, 0) := rfl
theorem r149_11 : Rn 149 (11, [x0, x1, x2], st, a, h) = Rn 149 (12, [x0, x1, x2], .int (-1 : Int32) :: st, a, h) := Rn_go c149_11 rfl
theorem c149_12 : mcode 149 12 = some (.goto 4, 3, 0, 0, 0) := rfl
theorem r149_12 : Rn 149 (12, [x0, x1, x2], st, a, h) = Rn 149 (16, [x0, x1, x2], st, a, h) := Rn_goto c149_12 rfl
theorem c149_15 : mcode 149 15 = some (.iconst 1, 1, 0, 0, 0) := rfl
theorem r149_15 : Rn 149 (15, [x0, x1, x2], st, a, h) = Rn 149 (16, [x0, x1, x2], .int (1 : Int32) :: st, a, h) := Rn_go c149_15 rfl
theorem c149_16 : mcode 149 16 = some (.istore_n 2, 1, 0, 0, 0) := rfl
theorem r149_16 : Rn 149 (16, [x0, x1, x2], .int i :: st, a, h) = Nl x1 (Rn 149 (17, [x0, x1, some (.int i)], st, a, h)) := Rn_st1 (k := 2) (v := .int i) x1 c149_16 rfl rfl rfl rfl
theorem c149_17 : mcode 149 17 = some (.aload_n 0, 1, 0, 0, 0) := rfl
theorem r149_17 : Rn 149 (17, [some (.ref q), x1, x2], st, a, h) = Rn 149 (18, [some (.ref q), x1, x2], .ref q :: st, a, h) := Rn_go c149_17 rfl
theorem c149_18 : mcode 149 18 = some (.iload_n 1, 1, 0, 0, 0) := rfl
theorem r149_18 : Rn 149 (18, [x0, some (.int i), x2], st, a, h) = Rn 149 (19, [x0, some (.int i), x2], .int i :: st, a, h) := Rn_go c149_18 rfl
theorem c149_19 : mcode 149 19 = some (.iconst 0, 1, 0, 0, 0) := rfl
theorem r149_19 : Rn 149 (19, [x0, x1, x2], st, a, h) = Rn 149 (20, [x0, x1, x2], .int (0 : Int32) :: st, a, h) := Rn_go c149_19 rfl
theorem c149_20 : mcode 149 20 = some (.invokevirtual 63, 3, 132, 2, 6) := rfl
theorem r149_20 : Rn 149 (20, [x0, x1, x2], [v1, v0, .ref q], a, h) = if mis h q 6 = true then Bk 149 23 [x0, x1, x2] [] (Ec 132 [.ref q, v0, v1] a h) else none := Rn_call1 c149_20 rfl (Nat.le_of_ble_eq_true rfl) rfl rfl (Nat.le_of_ble_eq_true rfl)
theorem c149_23 : mcode 149 23 = some (.tableswitch 82 1 6 #[37, 54, 56, 58, 77, 79], 37, 0, 0, 0) := rfl
theorem r149_23_1 : Rn 149 (23, [x0, x1, x2], .int (1 : Int32) :: st, a, h) = Rn 149 (60, [x0, x1, x2], st, a, h) := Rn_swAt c149_23 rfl rfl
theorem r149_23_2 : Rn 149 (23, [x0, x1, x2], .int (2 : Int32) :: st, a, h) = Rn 149 (77, [x0, x1, x2], st, a, h) := Rn_swAt c149_23 rfl rfl
theorem r149_23_3 : Rn 149 (23, [x0, x1, x2], .int (3 : Int32) :: st, a, h) = Rn 149 (79, [x0, x1, x2], st, a, h) := Rn_swAt c149_23 rfl rfl
theorem r149_23_4 : Rn 149 (23, [x0, x1, x2], .int (4 : Int32) :: st, a, h) = Rn 149 (81, [x0, x1, x2], st, a, h) := Rn_swAt c149_23 rfl rfl
theorem r149_23_5 : Rn 149 (23, [x0, x1, x2], .int (5 : Int32) :: st, a, h) = Rn 149 (100, [x0, x1, x2], st, a, h) := Rn_swAt c149_23 rfl rfl
theorem r149_23_6 : Rn 149 (23, [x0, x1, x2], .int (6 : Int32) :: st, a, h) = Rn 149 (102, [x0, x1, x2], st, a, h) := Rn_swAt c149_23 rfl rfl
theorem r149_23_d (hi : i.toInt < 1 ∨ 6 < i.toInt) : Rn 149 (23, [x0, x1, x2], .int i :: st, a, h) = Rn 149 (105, [x0, x1, x2], st, a, h) := Rn_swAt c149_23 (if_pos hi) rfl
theorem c149_60 : mcode 149 60 = some (.aload_n 0, 1, 0, 0, 0) := rfl
theorem r149_60 : Rn 149 (60, [some (.ref q), x1, x2], st, a, h) = Rn 149 (61, [some (.ref q), x1, x2], .ref q :: st, a, h) := Rn_go c149_60 rfl
theorem c149_61 : mcode 149 61 = some (.iload_n 1, 1, 0, 0, 0) := rfl
theorem r149_61 : Rn 149 (61, [x0, some (.int i), x2], st, a, h) = Rn 149 (62, [x0, some (.int i), x2], .int i :: st, a, h) := Rn_go c149_61 rfl
theorem c149_62 : mcode 149 62 = some (.iconst 4, 1, 0, 0, 0) := rfl
theorem r149_62 : Rn 149 (62, [x0, x1, x2], st, a, h) = Rn 149 (63, [x0, x1, x2], .int (4 : Int32) :: st, a, h) := Rn_go c149_62 rfl
theorem c149_63 : mcode 149 63 = some (.invokevirtual 63, 3, 132, 2, 6) := rfl
theorem r149_63 : Rn 149 (63, [x0, x1, x2], [v1, v0, .ref q], a, h) = if mis h q 6 = true then Bk 149 66 [x0, x1, x2] [] (Ec 132 [.ref q, v0, v1] a h) else none := Rn_call1 c149_63 rfl (Nat.le_of_ble_eq_true rfl) rfl rfl (Nat.le_of_ble_eq_true rfl)
theorem c149_66 : mcode 149 66 = some (.iconst 3, 1, 0, 0, 0) := rfl
theorem r149_66 : Rn 149 (66, [x0, x1, x2], st, a, h) = Rn 149 (67, [x0, x1, x2], .int (3 : Int32) :: st, a, h) := Rn_go c149_66 rfl
theorem c149_67 : mcode 149 67 = some (.irem, 1, 0, 0, 0) := rfl
theorem r149_67 : Rn 149 (67, [x0, x1, x2], .int j :: .int i :: st, a, h) = if j = 0 then none else Rn 149 (68, [x0, x1, x2], .int (i % j) :: st, a, h) := Rn_irem c149_67 rfl
theorem c149_68 : mcode 149 68 = some (.ifCond .ne 7, 3, 0, 0, 0) := rfl
theorem r149_68 : Rn 149 (68, [x0, x1, x2], .int i :: st, a, h) = if i = 0 then Rn 149 (71, [x0, x1, x2], st, a, h) else Rn 149 (75, [x0, x1, x2], st, a, h) := Rn_ifcn c149_68 mc_ne rfl rfl
theorem c149_71 : mcode 149 71 = some (.iconst 1, 1, 0, 0, 0) := rfl
theorem r149_71 : Rn 149 (71, [x0, x1, x2], st, a, h) = Rn 149 (72, [x0, x1, x2], .int (1 : Int32) :: st, a, h) := Rn_go c149_71 rfl
theorem c149_72 : mcode 149 72 = some (.goto 4, 3, 0, 0, 0) := rfl
theorem r149_72 : Rn 149 (72, [x0, x1, x2], st, a, h) = Rn 149 (76, [x0, x1, x2], st, a, h) := Rn_goto c149_72 rfl
theorem c149_75 : mcode 149 75 = some (.iconst 0, 1, 0, 0, 0) := rfl
theorem r149_75 : Rn 149 (75, [x0, x1, x2], st, a, h) = Rn 149 (76, [x0, x1, x2], .int (0 : Int32) :: st, a, h) := Rn_go c149_75 rfl
theorem c149_76 : mcode 149 76 = some (.ireturn, 1, 0, 0, 0) := rfl
theorem r149_76 : Rn 149 (76, [x0, x1, x2], [.int i], a, h) = some (some (.int i), a, h) := Rn_ireti c149_76
theorem c149_77 : mcode 149 77 = some (.iconst 1, 1, 0, 0, 0) := rfl
theorem r149_77 : Rn 149 (77, [x0, x1, x2], st, a, h) = Rn 149 (78, [x0, x1, x2], .int (1 : Int32) :: st, a, h) := Rn_go c149_77 rfl
theorem c149_78 : mcode 149 78 = some (.ireturn, 1, 0, 0, 0) := rfl
theorem r149_78 : Rn 149 (78, [x0, x1, x2], [.int i], a, h) = some (some (.int i), a, h) := Rn_ireti c149_78
theorem c149_79 : mcode 149 79 = some (.iload_n 2, 1, 0, 0, 0) := rfl
theorem r149_79 : Rn 149 (79, [x0, x1, some (.int i)], st, a, h) = Rn 149 (80, [x0, x1, some (.int i)], .int i :: st, a, h) := Rn_go c149_79 rfl
theorem c149_80 : mcode 149 80 = some (.ireturn, 1, 0, 0, 0) := rfl
theorem r149_80 : Rn 149 (80, [x0, x1, x2], [.int i], a, h) = some (some (.int i), a, h) := Rn_ireti c149_80
theorem c149_81 : mcode 149 81 = some (.aload_n 0, 1, 0, 0, 0) := rfl
theorem r149_81 : Rn 149 (81, [some (.ref q), x1, x2], st, a, h) = Rn 149 (82, [some (.ref q), x1, x2], .ref q :: st, a, h) := Rn_go c149_81 rfl
theorem c149_82 : mcode 149 82 = some (.getfield 7, 3, 6, 0, 0) := rfl
theorem r149_82 : Rn 149 (82, [x0, x1, x2], .ref q :: st, a, h) = Kv 149 85 [x0, x1, x2] st a h (mgf h q 6 0) := Rn_getf c149_82 rfl
theorem c149_85 : mcode 149 85 = some (.iconst 1, 1, 0, 0, 0) := rfl
theorem r149_85 : Rn 149 (85, [x0, x1, x2], st, a, h) = Rn 149 (86, [x0, x1, x2], .int (1 : Int32) :: st, a, h) := Rn_go c149_85 rfl
theorem c149_86 : mcode 149 86 = some (.iaload, 1, 0, 0, 0) := rfl
theorem r149_86 : Rn 149 (86, [x0, x1, x2], .int i :: .ref q :: st, a, h) = Ki 149 87 [x0, x1, x2] st a h (mld h q i false) := Rn_iald c149_86 rfl
theorem c149_87 : mcode 149 87 = some (.iconst 2, 1, 0, 0, 0) := rfl
theorem r149_87 : Rn 149 (87, [x0, x1, x2], st, a, h) = Rn 149 (88, [x0, x1, x2], .int (2 : Int32) :: st, a, h) := Rn_go c149_87 rfl
theorem c149_88 : mcode 149 88 = some (.irem, 1, 0, 0, 0) := rfl
theorem r149_88 : Rn 149 (88, [x0, x1, x2], .int j :: .int i :: st, a, h) = if j = 0 then none else Rn 149 (89, [x0, x1, x2], .int (i % j) :: st, a, h) := Rn_irem c149_88 rfl
theorem c149_89 : mcode 149 89 = some (.ifCond .ne 9, 3, 0, 0, 0) := rfl
theorem r149_89 : Rn 149 (89, [x0, x1, x2], .int i :: st, a, h) = if i = 0 then Rn 149 (92, [x0, x1, x2], st, a, h) else Rn 149 (98, [x0, x1, x2], st, a, h) := Rn_ifcn c149_89 mc_ne rfl rfl
theorem c149_92 : mcode 149 92 = some (.iload_n 2, 1, 0, 0, 0) := rfl
theorem r149_92 : Rn 149 (92, [x0, x1, some (.int i)], st, a, h) = Rn 149 (93, [x0, x1, some (.int i)], .int i :: st, a, h) := Rn_go c149_92 rfl
theorem c149_93 : mcode 149 93 = some (.iconst 1, 1, 0, 0, 0) := rfl
theorem r149_93 : Rn 149 (93, [x0, x1, x2], st, a, h) = Rn 149 (94, [x0, x1, x2], .int (1 : Int32) :: st, a, h) := Rn_go c149_93 rfl
theorem c149_94 : mcode 149 94 = some (.iadd, 1, 0, 0, 0) := rfl
theorem r149_94 : Rn 149 (94, [x0, x1, x2], .int j :: .int i :: st, a, h) = Rn 149 (95, [x0, x1, x2], .int (i + j) :: st, a, h) := Rn_go c149_94 rfl
theorem c149_95 : mcode 149 95 = some (.goto 4, 3, 0, 0, 0) := rfl
theorem r149_95 : Rn 149 (95, [x0, x1, x2], st, a, h) = Rn 149 (99, [x0, x1, x2], st, a, h) := Rn_goto c149_95 rfl
theorem c149_98 : mcode 149 98 = some (.iload_n 2, 1, 0, 0, 0) := rfl
theorem r149_98 : Rn 149 (98, [x0, x1, some (.int i)], st, a, h) = Rn 149 (99, [x0, x1, some (.int i)], .int i :: st, a, h) := Rn_go c149_98 rfl
theorem c149_99 : mcode 149 99 = some (.ireturn, 1, 0, 0, 0) := rfl
theorem r149_99 : Rn 149 (99, [x0, x1, x2], [.int i], a, h) = some (some (.int i), a, h) := Rn_ireti c149_99
theorem c149_100 : mcode 149 100 = some (.iconst (-1), 1, 0, 0, 0) := rfl
theorem r149_100 : Rn 149 (100, [x0, x1, x2], st, a, h) = Rn 149 (101, [x0, x1, x2], .int (-1 : Int32) :: st, a, h) := Rn_go c149_100 rfl
theorem c149_101 : mcode 149 101 = some (.ireturn, 1, 0, 0, 0) := rfl
theorem r149_101 : Rn 149 (101, [x0, x1, x2], [.int i], a, h) = some (some (.int i), a, h) := Rn_ireti c149_101
theorem c149_102 : mcode 149 102 = some (.bipush (-2), 2, 0, 0, 0) := rfl
theorem r149_102 : Rn 149 (102, [x0, x1, x2], st, a, h) = Rn 149 (104, [x0, x1, x2], .int (-2 : Int32) :: st, a, h) := Rn_go c149_102 rfl
theorem c149_104 : mcode 149 104 = some (.ireturn, 1, 0, 0, 0) := rfl
theorem r149_104 : Rn 149 (104, [x0, x1, x2], [.int i], a, h) = some (some (.int i), a, h) := Rn_ireti c149_104
theorem c149_105 : mcode 149 105 = some (.iconst 0, 1, 0, 0, 0) := rfl
theorem r149_105 : Rn 149 (105, [x0, x1, x2], st, a, h) = Rn 149 (106, [x0, x1, x2], .int (0 : Int32) :: st, a, h) := Rn_go c149_105 rfl
theorem c149_106 : mcode 149 106 = some (.ireturn, 1, 0, 0, 0) := rfl
theorem r149_106 : Rn 149 (106, [x0, x1, x2], [.int i], a, h) = some (some (.int i), a, h) := Rn_ireti c149_106
theorem c150_0 : mcode 150 0 = some (.aload_n 0, 1, 0, 0, 0) := rfl
theorem r150_0 : Rn 150 (0, [some (.ref q), x1], st, a, h) = Rn 150 (1, [some (.ref q), x1], .ref q :: st, a, h) := Rn_go c150_0 rfl
theorem c150_1 : mcode 150 1 = some (.iload_n 1, 1, 0, 0, 0) := rfl
theorem r150_1 : Rn 150 (1, [x0, some (.int i)], st, a, h) = Rn 150 (2, [x0, some (.int i)], .int i :: st, a, h) := Rn_go c150_1 rfl
theorem c150_2 : mcode 150 2 = some (.iconst 0, 1, 0, 0, 0) := rfl
theorem r150_2 : Rn 150 (2, [x0, x1], st, a, h) = Rn 150 (3, [x0, x1], .int (0 : Int32) :: st, a, h) := Rn_go c150_2 rfl
theorem c150_3 : mcode 150 3 = some (.invokevirtual 63, 3, 132, 2, 6) := rfl
theorem r150_3 : Rn 150 (3, [x0, x1], [v1, v0, .ref q], a, h) = if mis h q 6 = true then Bk 150 6 [x0, x1] [] (Ec 132 [.ref q, v0, v1] a h) else none := Rn_call1 c150_3 rfl (Nat.le_of_ble_eq_true rfl) rfl rfl (Nat.le_of_ble_eq_true rfl)
theorem c150_6 : mcode 150 6 = some (.tableswitch 66 1 6 #[38, 41, 43, 52, 62, 62], 38, 0, 0, 0) := rfl
theorem r150_6_1 : Rn 150 (6, [x0, x1], .int (1 : Int32) :: st, a, h) = Rn 150 (44, [x0, x1], st, a, h) := Rn_swAt c150_6 rfl rfl
theorem r150_6_2 : Rn 150 (6, [x0, x1], .int (2 : Int32) :: st, a, h) = Rn 150 (47, [x0, x1], st, a, h) := Rn_swAt c150_6 rfl rfl
theorem r150_6_3 : Rn 150 (6, [x0, x1], .int (3 : Int32) :: st, a, h) = Rn 150 (49, [x0, x1], st, a, h) := Rn_swAt c150_6 rfl rfl
theorem r150_6_4 : Rn 150 (6, [x0, x1], .int (4 : Int32) :: st, a, h) = Rn 150 (58, [x0, x1], st, a, h) := Rn_swAt c150_6 rfl rfl
theorem r150_6_5 : Rn 150 (6, [x0, x1], .int (5 : Int32) :: st, a, h) = Rn 150 (68, [x0, x1], st, a, h) := Rn_swAt c150_6 rfl rfl
theorem r150_6_6 : Rn 150 (6, [x0, x1], .int (6 : Int32) :: st, a, h) = Rn 150 (68, [x0, x1], st, a, h) := Rn_swAt c150_6 rfl rfl
theorem r150_6_d (hi : i.toInt < 1 ∨ 6 < i.toInt) : Rn 150 (6, [x0, x1], .int i :: st, a, h) = Rn 150 (72, [x0, x1], st, a, h) := Rn_swAt c150_6 (if_pos hi) rfl
theorem c150_44 : mcode 150 44 = some (.bipush 10, 2, 0, 0, 0) := rfl
theorem r150_44 : Rn 150 (44, [x0, x1], st, a, h) = Rn 150 (46, [x0, x1], .int (10 : Int32) :: st, a, h) := Rn_go c150_44 rfl
theorem c150_46 : mcode 150 46 = some (.ireturn, 1, 0, 0, 0) := rfl
theorem r150_46 : Rn 150 (46, [x0, x1], [.int i], a, h) = some (some (.int i), a, h) := Rn_ireti c150_46
theorem c150_47 : mcode 150 47 = some (.iconst 5, 1, 0, 0, 0) := rfl
theorem r150_47 : Rn 150 (47, [x0, x1], st, a, h) = Rn 150 (48, [x0, x1], .int (5 : Int32) :: st, a, h) := Rn_go c150_47 rfl
theorem c150_48 : mcode 150 48 = some (.ireturn, 1, 0, 0, 0) := rfl
theorem r150_48 : Rn 150 (48, [x0, x1], [.int i], a, h) = some (some (.int i), a, h) := Rn_ireti c150_48
theorem c150_49 : mcode 150 49 = some (.iconst 5, 1, 0, 0, 0) := rfl
theorem r150_49 : Rn 150 (49, [x0, x1], st, a, h) = Rn 150 (50, [x0, x1], .int (5 : Int32) :: st, a, h) := Rn_go c150_49 rfl
theorem c150_50 : mcode 150 50 = some (.aload_n 0, 1, 0, 0, 0) := rfl
theorem r150_50 : Rn 150 (50, [some (.ref q), x1], st, a, h) = Rn 150 (51, [some (.ref q), x1], .ref q :: st, a, h) := Rn_go c150_50 rfl
theorem c150_51 : mcode 150 51 = some (.getfield 7, 3, 6, 0, 0) := rfl
theorem r150_51 : Rn 150 (51, [x0, x1], .ref q :: st, a, h) = Kv 150 54 [x0, x1] st a h (mgf h q 6 0) := Rn_getf c150_51 rfl
theorem c150_54 : mcode 150 54 = some (.iconst 3, 1, 0, 0, 0) := rfl
theorem r150_54 : Rn 150 (54, [x0, x1], st, a, h) = Rn 150 (55, [x0, x1], .int (3 : Int32) :: st, a, h) := Rn_go c150_54 rfl
theorem c150_55 : mcode 150 55 = some (.iaload, 1, 0, 0, 0) := rfl
theorem r150_55 : Rn 150 (55, [x0, x1], .int i :: .ref q :: st, a, h) = Ki 150 56 [x0, x1] st a h (mld h q i false) := Rn_iald c150_55 rfl
theorem c150_56 : mcode 150 56 = some (.iadd, 1, 0, 0, 0) := rfl
theorem r150_56 : Rn 150 (56, [x0, x1], .int j :: .int i :: st, a, h) = Rn 150 (57, [x0, x1], .int (i + j) :: st, a, h) := Rn_go c150_56 rfl
theorem c150_57 : mcode 150 57 = some (.ireturn, 1, 0, 0, 0) := rfl
theorem r150_57 : Rn 150 (57, [x0, x1], [.int i], a, h) = some (some (.int i), a, h) := Rn_ireti c150_57
theorem c150_58 : mcode 150 58 = some (.bipush 9, 2, 0, 0, 0) := rfl
theorem r150_58 : Rn 150 (58, [x0, x1], st, a, h) = Rn 150 (60, [x0, x1], .int (9 : Int32) :: st, a, h) := Rn_go c150_58 rfl
theorem c150_60 : mcode 150 60 = some (.aload_n 0, 1, 0, 0, 0) := rfl
theorem r150_60 : Rn 150 (60, [some (.ref q), x1], st, a, h) = Rn 150 (61, [some (.ref q), x1], .ref q :: st, a, h) := Rn_go c150_60 rfl
theorem c150_61 : mcode 150 61 = some (.getfield 7, 3, 6, 0, 0) := rfl
theorem r150_61 : Rn 150 (61, [x0, x1], .ref q :: st, a, h) = Kv 150 64 [x0, x1] st a h (mgf h q 6 0) := Rn_getf c150_61 rfl
theorem c150_64 : mcode 150 64 = some (.iconst 3, 1, 0, 0, 0) := rfl
theorem r150_64 : Rn 150 (64, [x0, x1], st, a, h) = Rn 150 (65, [x0, x1], .int (3 : Int32) :: st, a, h) := Rn_go c150_64 rfl
theorem c150_65 : mcode 150 65 = some (.iaload, 1, 0, 0, 0) := rfl
theorem r150_65 : Rn 150 (65, [x0, x1], .int i :: .ref q :: st, a, h) = Ki 150 66 [x0, x1] st a h (mld h q i false) := Rn_iald c150_65 rfl
theorem c150_66 : mcode 150 66 = some (.iadd, 1, 0, 0, 0) := rfl
theorem r150_66 : Rn 150 (66, [x0, x1], .int j :: .int i :: st, a, h) = Rn 150 (67, [x0, x1], .int (i + j) :: st, a, h) := Rn_go c150_66 rfl
theorem c150_67 : mcode 150 67 = some (.ireturn, 1, 0, 0, 0) := rfl
theorem r150_67 : Rn 150 (67, [x0, x1], [.int i], a, h) = some (some (.int i), a, h) := Rn_ireti c150_67
theorem c150_68 : mcode 150 68 = some (.sipush 999, 3, 0, 0, 0) := rfl
theorem r150_68 : Rn 150 (68, [x0, x1], st, a, h) = Rn 150 (71, [x0, x1], .int (999 : Int32) :: st, a, h) := Rn_go c150_68 rfl
theorem c150_71 : mcode 150 71 = some (.ireturn, 1, 0, 0, 0) := rfl
theorem r150_71 : Rn 150 (71, [x0, x1], [.int i], a, h) = some (some (.int i), a, h) := Rn_ireti c150_71
theorem c150_72 : mcode 150 72 = some (.bipush 20, 2, 0, 0, 0) := rfl
theorem r150_72 : Rn 150 (72, [x0, x1], st, a, h) = Rn 150 (74, [x0, x1], .int (20 : Int32) :: st, a, h) := Rn_go c150_72 rfl
theorem c150_74 : mcode 150 74 = some (.ireturn, 1, 0, 0, 0) := rfl
theorem r150_74 : Rn 150 (74, [x0, x1], [.int i], a, h) = some (some (.int i), a, h) := Rn_ireti c150_74
theorem c151_0 : mcode 151 0 = some (.aload_n 0, 1, 0, 0, 0) := rfl
theorem r151_0 : Rn 151 (0, [some (.ref q), x1, x2], st, a, h) = Rn 151 (1, [some (.ref q), x1, x2], .ref q :: st, a, h) := Rn_go c151_0 rfl
theorem c151_1 : mcode 151 1 = some (.iload_n 1, 1, 0, 0, 0) := rfl
theorem r151_1 : Rn 151 (1, [x0, some (.int i), x2], st, a, h) = Rn 151 (2, [x0, some (.int i), x2], .int i :: st, a, h) := Rn_go c151_1 rfl
theorem c151_2 : mcode 151 2 = some (.invokevirtual 98, 3, 130, 1, 6) := rfl
theorem r151_2 : Rn 151 (2, [x0, x1, x2], [v0, .ref q], a, h) = if mis h q 6 = true then Bk 151 5 [x0, x1, x2] [] (Ec 130 [.ref q, v0] a h) else none := Rn_call1 c151_2 rfl (Nat.le_of_ble_eq_true rfl) rfl rfl (Nat.le_of_ble_eq_true rfl)
theorem c151_5 : mcode 151 5 = some (.ifCond .eq 15, 3, 0, 0, 0) := rfl
theorem r151_5 : Rn 151 (5, [x0, x1, x2], .int i :: st, a, h) = if i = 0 then Rn 151 (20, [x0, x1, x2], st, a, h) else Rn 151 (8, [x0, x1, x2], st, a, h) := Rn_ifc c151_5 mc_eq rfl rfl
theorem c151_8 : mcode 151 8 = some (.iload_n 2, 1, 0, 0, 0) := rfl
theorem r151_8 : Rn 151 (8, [x0, x1, some (.int i)], st, a, h) = Rn 151 (9, [x0, x1, some (.int i)], .int i :: st, a, h) := Rn_go c151_8 rfl
theorem c151_9 : mcode 151 9 = some (.i2l, 1, 0, 0, 0) := rfl
theorem r151_9 : Rn 151 (9, [x0, x1, x2], .int i :: st, a, h) = Rn 151 (10, [x0, x1, x2], .long i.toInt64 :: st, a, h) := Rn_go c151_9 rfl
theorem c151_10 : mcode 151 10 = some (.lconst 0, 1, 0, 0, 0) := rfl
theorem r151_10 : Rn 151 (10, [x0, x1, x2], st, a, h) = Rn 151 (11, [x0, x1, x2], .long (0 : Int64) :: st, a, h) := Rn_go c151_10 rfl
theorem c151_11 : mcode 151 11 = some (.ldc2_w 101, 3, 0, 0, 8) := rfl
theorem r151_11 : Rn 151 (11, [x0, x1, x2], st, a, h) = Rn 151 (14, [x0, x1, x2], .long (8 : Int64) :: st, a, h) := Rn_go c151_11 rfl
theorem c151_14 : mcode 151 14 = some (.invokestatic 52, 3, 124, 3, 0) := rfl
theorem r151_14 : Rn 151 (14, [x0, x1, x2], [v2, v1, v0], a, h) = Bk 151 17 [x0, x1, x2] [] (Ec 124 [v0, v1, v2] a h) := Rn_call0 c151_14 (fun z => nomatch z) rfl (Nat.le_of_ble_eq_true rfl) rfl rfl (Nat.le_of_ble_eq_true rfl)
theorem c151_17 : mcode 151 17 = some (.ifCond .ne 10, 3, 0, 0, 0) := rfl
theorem r151_17 : Rn 151 (17, [x0, x1, x2], .int i :: st, a, h) = if i = 0 then Rn 151 (20, [x0, x1, x2], st, a, h) else Rn 151 (27, [x0, x1, x2], st, a, h) := Rn_ifcn c151_17 mc_ne rfl rfl
theorem c151_20 : mcode 151 20 = some (.aload_n 0, 1, 0, 0, 0) := rfl
theorem r151_20 : Rn 151 (20, [some (.ref q), x1, x2], st, a, h) = Rn 151 (21, [some (.ref q), x1, x2], .ref q :: st, a, h) := Rn_go c151_20 rfl
theorem c151_21 : mcode 151 21 = some (.ldc 37, 2, 0, 0, -1000001) := rfl
theorem r151_21 : Rn 151 (21, [x0, x1, x2], st, a, h) = Rn 151 (23, [x0, x1, x2], .int (-1000001 : Int32) :: st, a, h) := Rn_go c151_21 rfl
theorem c151_23 : mcode 151 23 = some (.invokevirtual 39, 3, 125, 1, 6) := rfl
theorem r151_23 : Rn 151 (23, [x0, x1, x2], [v0, .ref q], a, h) = if mis h q 6 = true then Bk 151 26 [x0, x1, x2] [] (Ec 125 [.ref q, v0] a h) else none := Rn_call1 c151_23 rfl (Nat.le_of_ble_eq_true rfl) rfl rfl (Nat.le_of_ble_eq_true rfl)
theorem c151_26 : mcode 151 26 = some (.ireturn, 1, 0, 0, 0) := rfl
theorem r151_26 : Rn 151 (26, [x0, x1, x2], [.int i], a, h) = some (some (.int i), a, h) := Rn_ireti c151_26
theorem c151_27 : mcode 151 27 = some (.iload_n 2, 1, 0, 0, 0) := rfl
theorem r151_27 : Rn 151 (27, [x0, x1, some (.int i)], st, a, h) = Rn 151 (28, [x0, x1, some (.int i)], .int i :: st, a, h) := Rn_go c151_27 rfl
theorem c151_28 : mcode 151 28 = some (.tableswitch 46 6 8 #[28, 34, 40], 28, 0, 0, 0) := rfl
theorem r151_28_6 : Rn 151 (28, [x0, x1, x2], .int (6 : Int32) :: st, a, h) = Rn 151 (56, [x0, x1, x2], st, a, h) := Rn_swAt c151_28 rfl rfl
theorem r151_28_7 : Rn 151 (28, [x0, x1, x2], .int (7 : Int32) :: st, a, h) = Rn 151 (62, [x0, x1, x2], st, a, h) := Rn_swAt c151_28 rfl rfl
theorem r151_28_8 : Rn 151 (28, [x0, x1, x2], .int (8 : Int32) :: st, a, h) = Rn 151 (68, [x0, x1, x2], st, a, h) := Rn_swAt c151_28 rfl rfl
theorem r151_28_d (hi : i.toInt < 6 ∨ 8 < i.toInt) : Rn 151 (28, [x0, x1, x2], .int i :: st, a, h) = Rn 151 (74, [x0, x1, x2], st, a, h) := Rn_swAt c151_28 (if_pos hi) rfl
theorem c151_56 : mcode 151 56 = some (.aload_n 0, 1, 0, 0, 0) := rfl
theorem r151_56 : Rn 151 (56, [some (.ref q), x1, x2], st, a, h) = Rn 151 (57, [some (.ref q), x1, x2], .ref q :: st, a, h) := Rn_go c151_56 rfl
theorem c151_57 : mcode 151 57 = some (.iload_n 1, 1, 0, 0, 0) := rfl
theorem r151_57 : Rn 151 (57, [x0, some (.int i), x2], st, a, h) = Rn 151 (58, [x0, some (.int i), x2], .int i :: st, a, h) := Rn_go c151_57 rfl
theorem c151_58 : mcode 151 58 = some (.invokevirtual 103, 3, 148, 1, 6) := rfl
theorem r151_58 : Rn 151 (58, [x0, x1, x2], [v0, .ref q], a, h) = if mis h q 6 = true then Bk 151 61 [x0, x1, x2] [] (Ec 148 [.ref q, v0] a h) else none := Rn_call1 c151_58 rfl (Nat.le_of_ble_eq_true rfl) rfl rfl (Nat.le_of_ble_eq_true rfl)
theorem c151_61 : mcode 151 61 = some (.ireturn, 1, 0, 0, 0) := rfl
theorem r151_61 : Rn 151 (61, [x0, x1, x2], [.int i], a, h) = some (some (.int i), a, h) := Rn_ireti c151_61
theorem c151_62 : mcode 151 62 = some (.aload_n 0, 1, 0, 0, 0) := rfl
theorem r151_62 : Rn 151 (62, [some (.ref q), x1, x2], st, a, h) = Rn 151 (63, [some (.ref q), x1, x2], .ref q :: st, a, h) := Rn_go c151_62 rfl
theorem c151_63 : mcode 151 63 = some (.iload_n 1, 1, 0, 0, 0) := rfl
theorem r151_63 : Rn 151 (63, [x0, some (.int i), x2], st, a, h) = Rn 151 (64, [x0, some (.int i), x2], .int i :: st, a, h) := Rn_go c151_63 rfl
theorem c151_64 : mcode 151 64 = some (.invokevirtual 106, 3, 149, 1, 6) := rfl
theorem r151_64 : Rn 151 (64, [x0, x1, x2], [v0, .ref q], a, h) = if mis h q 6 = true then Bk 151 67 [x0, x1, x2] [] (Ec 149 [.ref q, v0] a h) else none := Rn_call1 c151_64 rfl (Nat.le_of_ble_eq_true rfl) rfl rfl (Nat.le_of_ble_eq_true rfl)
theorem c151_67 : mcode 151 67 = some (.ireturn, 1, 0, 0, 0) := rfl
theorem r151_67 : Rn 151 (67, [x0, x1, x2], [.int i], a, h) = some (some (.int i), a, h) := Rn_ireti c151_67
theorem c151_68 : mcode 151 68 = some (.aload_n 0, 1, 0, 0, 0) := rfl
theorem r151_68 : Rn 151 (68, [some (.ref q), x1, x2], st, a, h) = Rn 151 (69, [some (.ref q), x1, x2], .ref q :: st, a, h) := Rn_go c151_68 rfl
theorem c151_69 : mcode 151 69 = some (.iload_n 1, 1, 0, 0, 0) := rfl
theorem r151_69 : Rn 151 (69, [x0, some (.int i), x2], st, a, h) = Rn 151 (70, [x0, some (.int i), x2], .int i :: st, a, h) := Rn_go c151_69 rfl
theorem c151_70 : mcode 151 70 = some (.invokevirtual 109, 3, 150, 1, 6) := rfl
theorem r151_70 : Rn 151 (70, [x0, x1, x2], [v0, .ref q], a, h) = if mis h q 6 = true then Bk 151 73 [x0, x1, x2] [] (Ec 150 [.ref q, v0] a h) else none := Rn_call1 c151_70 rfl (Nat.le_of_ble_eq_true rfl) rfl rfl (Nat.le_of_ble_eq_true rfl)
theorem c151_73 : mcode 151 73 = some (.ireturn, 1, 0, 0, 0) := rfl
theorem r151_73 : Rn 151 (73, [x0, x1, x2], [.int i], a, h) = some (some (.int i), a, h) := Rn_ireti c151_73
theorem c151_74 : mcode 151 74 = some (.aload_n 0, 1, 0, 0, 0) := rfl
theorem r151_74 : Rn 151 (74, [some (.ref q), x1, x2], st, a, h) = Rn 151 (75, [some (.ref q), x1, x2], .ref q :: st, a, h) := Rn_go c151_74 rfl
theorem c151_75 : mcode 151 75 = some (.iload_n 1, 1, 0, 0, 0) := rfl
theorem r151_75 : Rn 151 (75, [x0, some (.int i), x2], st, a, h) = Rn 151 (76, [x0, some (.int i), x2], .int i :: st, a, h) := Rn_go c151_75 rfl
theorem c151_76 : mcode 151 76 = some (.iload_n 2, 1, 0, 0, 0) := rfl
theorem r151_76 : Rn 151 (76, [x0, x1, some (.int i)], st, a, h) = Rn 151 (77, [x0, x1, some (.int i)], .int i :: st, a, h) := Rn_go c151_76 rfl
theorem c151_77 : mcode 151 77 = some (.invokevirtual 63, 3, 132, 2, 6) := rfl
theorem r151_77 : Rn 151 (77, [x0, x1, x2], [v1, v0, .ref q], a, h) = if mis h q 6 = true then Bk 151 80 [x0, x1, x2] [] (Ec 132 [.ref q, v0, v1] a h) else none := Rn_call1 c151_77 rfl (Nat.le_of_ble_eq_true rfl) rfl rfl (Nat.le_of_ble_eq_true rfl)
theorem c151_80 : mcode 151 80 = some (.ireturn, 1, 0, 0, 0) := rfl
theorem r151_80 : Rn 151 (80, [x0, x1, x2], [.int i], a, h) = some (some (.int i), a, h) := Rn_ireti c151_80
theorem c152_0 : mcode 152 0 = some (.iload_n 0, 1, 0, 0, 0) := rfl
theorem r152_0 : Rn 152 (0, [some (.int i)], st, a, h) = Rn 152 (1, [some (.int i)], .int i :: st, a, h) := Rn_go c152_0 rfl
theorem c152_1 : mcode 152 1 = some (.ifCond .ne 8, 3, 0, 0, 0) := rfl
theorem r152_1 : Rn 152 (1, [x0], .int i :: st, a, h) = if i = 0 then Rn 152 (4, [x0], st, a, h) else Rn 152 (9, [x0], st, a, h) := Rn_ifcn c152_1 mc_ne rfl rfl
theorem c152_4 : mcode 152 4 = some (.bipush 6, 2, 0, 0, 0) := rfl
theorem r152_4 : Rn 152 (4, [x0], st, a, h) = Rn 152 (6, [x0], .int (6 : Int32) :: st, a, h) := Rn_go c152_4 rfl
theorem c152_6 : mcode 152 6 = some (.goto 25, 3, 0, 0, 0) := rfl
theorem r152_6 : Rn 152 (6, [x0], st, a, h) = Rn 152 (31, [x0], st, a, h) := Rn_goto c152_6 rfl
theorem c152_9 : mcode 152 9 = some (.iload_n 0, 1, 0, 0, 0) := rfl
theorem r152_9 : Rn 152 (9, [some (.int i)], st, a, h) = Rn 152 (10, [some (.int i)], .int i :: st, a, h) := Rn_go c152_9 rfl
theorem c152_10 : mcode 152 10 = some (.iconst 1, 1, 0, 0, 0) := rfl
theorem r152_10 : Rn 152 (10, [x0], st, a, h) = Rn 152 (11, [x0], .int (1 : Int32) :: st, a, h) := Rn_go c152_10 rfl
theorem c152_11 : mcode 152 11 = some (.if_icmp .ne 8, 3, 0, 0, 0) := rfl
theorem r152_11 : Rn 152 (11, [x0], .int j :: .int i :: st, a, h) = if i = j then Rn 152 (14, [x0], st, a, h) else Rn 152 (19, [x0], st, a, h) := Rn_icmpn c152_11 mc_ne rfl rfl
theorem c152_14 : mcode 152 14 = some (.bipush 7, 2, 0, 0, 0) := rfl
theorem r152_14 : Rn 152 (14, [x0], st, a, h) = Rn 152 (16, [x0], .int (7 : Int32) :: st, a, h) := Rn_go c152_14 rfl
theorem c152_16 : mcode 152 16 = some (.goto 15, 3, 0, 0, 0) := rfl
theorem r152_16 : Rn 152 (16, [x0], st, a, h) = Rn 152 (31, [x0], st, a, h) := Rn_goto c152_16 rfl
theorem c152_19 : mcode 152 19 = some (.iload_n 0, 1, 0, 0, 0) := rfl
theorem r152_19 : Rn 152 (19, [some (.int i)], st, a, h) = Rn 152 (20, [some (.int i)], .int i :: st, a, h) := Rn_go c152_19 rfl
theorem c152_20 : mcode 152 20 = some (.iconst 2, 1, 0, 0, 0) := rfl
theorem r152_20 : Rn 152 (20, [x0], st, a, h) = Rn 152 (21, [x0], .int (2 : Int32) :: st, a, h) := Rn_go c152_20 rfl
theorem c152_21 : mcode 152 21 = some (.if_icmp .ne 7, 3, 0, 0, 0) := rfl
theorem r152_21 : Rn 152 (21, [x0], .int j :: .int i :: st, a, h) = if i = j then Rn 152 (24, [x0], st, a, h) else Rn 152 (28, [x0], st, a, h) := Rn_icmpn c152_21 mc_ne rfl rfl
theorem c152_24 : mcode 152 24 = some (.iconst 2, 1, 0, 0, 0) := rfl
theorem r152_24 : Rn 152 (24, [x0], st, a, h) = Rn 152 (25, [x0], .int (2 : Int32) :: st, a, h) := Rn_go c152_24 rfl
theorem c152_25 : mcode 152 25 = some (.goto 6, 3, 0, 0, 0) := rfl
theorem r152_25 : Rn 152 (25, [x0], st, a, h) = Rn 152 (31, [x0], st, a, h) := Rn_goto c152_25 rfl
theorem c152_28 : mcode 152 28 = some (.sipush 999, 3, 0, 0, 0) := rfl
theorem r152_28 : Rn 152 (28, [x0], st, a, h) = Rn 152 (31, [x0], .int (999 : Int32) :: st, a, h) := Rn_go c152_28 rfl
theorem c152_31 : mcode 152 31 = some (.ireturn, 1, 0, 0, 0) := rfl
theorem r152_31 : Rn 152 (31, [x0], [.int i], a, h) = some (some (.int i), a, h) := Rn_ireti c152_31
theorem c153_0 : mcode 153 0 = some (.aload_n 0, 1, 0, 0, 0) := rfl
theorem r153_0 : Rn 153 (0, [some (.ref q), x1, x2, x3, x4], st, a, h) = Rn 153 (1, [some (.ref q), x1, x2, x3, x4], .ref q :: st, a, h) := Rn_go c153_0 rfl
theorem c153_1 : mcode 153 1 = some (.iload_n 1, 1, 0, 0, 0) := rfl
theorem r153_1 : Rn 153 (1, [x0, some (.int i), x2, x3, x4], st, a, h) = Rn 153 (2, [x0, some (.int i), x2, x3, x4], .int i :: st, a, h) := Rn_go c153_1 rfl
theorem c153_2 : mcode 153 2 = some (.invokevirtual 98, 3, 130, 1, 6) := rfl
theorem r153_2 : Rn 153 (2, [x0, x1, x2, x3, x4], [v0, .ref q], a, h) = if mis h q 6 = true then Bk 153 5 [x0, x1, x2, x3, x4] [] (Ec 130 [.ref q, v0] a h) else none := Rn_call1 c153_2 rfl (Nat.le_of_ble_eq_true rfl) rfl rfl (Nat.le_of_ble_eq_true rfl)
theorem c153_5 : mcode 153 5 = some (.ifCond .eq 33, 3, 0, 0, 0) := rfl
theorem r153_5 : Rn 153 (5, [x0, x1, x2, x3, x4], .int i :: st, a, h) = if i = 0 then Rn 153 (38, [x0, x1, x2, x3, x4], st, a, h) else Rn 153 (8, [x0, x1, x2, x3, x4], st, a, h) := Rn_ifc c153_5 mc_eq rfl rfl
theorem c153_8 : mcode 153 8 = some (.iload_n 2, 1, 0, 0, 0) := rfl
theorem r153_8 : Rn 153 (8, [x0, x1, some (.int i), x3, x4], st, a, h) = Rn 153 (9, [x0, x1, some (.int i), x3, x4], .int i :: st, a, h) := Rn_go c153_8 rfl
theorem c153_9 : mcode 153 9 = some (.i2l, 1, 0, 0, 0) := rfl
theorem r153_9 : Rn 153 (9, [x0, x1, x2, x3, x4], .int i :: st, a, h) = Rn 153 (10, [x0, x1, x2, x3, x4], .long i.toInt64 :: st, a, h) := Rn_go c153_9 rfl
theorem c153_10 : mcode 153 10 = some (.lconst 0, 1, 0, 0, 0) := rfl
theorem r153_10 : Rn 153 (10, [x0, x1, x2, x3, x4], st, a, h) = Rn 153 (11, [x0, x1, x2, x3, x4], .long (0 : Int64) :: st, a, h) := Rn_go c153_10 rfl
theorem c153_11 : mcode 153 11 = some (.ldc2_w 66, 3, 0, 0, 5) := rfl
theorem r153_11 : Rn 153 (11, [x0, x1, x2, x3, x4], st, a, h) = Rn 153 (14, [x0, x1, x2, x3, x4], .long (5 : Int64) :: st, a, h) := Rn_go c153_11 rfl
theorem c153_14 : mcode 153 14 = some (.invokestatic 52, 3, 124, 3, 0) := rfl
theorem r153_14 : Rn 153 (14, [x0, x1, x2, x3, x4], [v2, v1, v0], a, h) = Bk 153 17 [x0, x1, x2, x3, x4] [] (Ec 124 [v0, v1, v2] a h) := Rn_call0 c153_14 (fun z => nomatch z) rfl (Nat.le_of_ble_eq_true rfl) rfl rfl (Nat.le_of_ble_eq_true rfl)
theorem c153_17 : mcode 153 17 = some (.ifCond .eq 21, 3, 0, 0, 0) := rfl
theorem r153_17 : Rn 153 (17, [x0, x1, x2, x3, x4], .int i :: st, a, h) = if i = 0 then Rn 153 (38, [x0, x1, x2, x3, x4], st, a, h) else Rn 153 (20, [x0, x1, x2, x3, x4], st, a, h) := Rn_ifc c153_17 mc_eq rfl rfl
theorem c153_20 : mcode 153 20 = some (.iload_n 3, 1, 0, 0, 0) := rfl
theorem r153_20 : Rn 153 (20, [x0, x1, x2, some (.int i), x4], st, a, h) = Rn 153 (21, [x0, x1, x2, some (.int i), x4], .int i :: st, a, h) := Rn_go c153_20 rfl
theorem c153_21 : mcode 153 21 = some (.i2l, 1, 0, 0, 0) := rfl
theorem r153_21 : Rn 153 (21, [x0, x1, x2, x3, x4], .int i :: st, a, h) = Rn 153 (22, [x0, x1, x2, x3, x4], .long i.toInt64 :: st, a, h) := Rn_go c153_21 rfl
theorem c153_22 : mcode 153 22 = some (.lconst 0, 1, 0, 0, 0) := rfl
theorem r153_22 : Rn 153 (22, [x0, x1, x2, x3, x4], st, a, h) = Rn 153 (23, [x0, x1, x2, x3, x4], .long (0 : Int64) :: st, a, h) := Rn_go c153_22 rfl
theorem c153_23 : mcode 153 23 = some (.iload_n 2, 1, 0, 0, 0) := rfl
theorem r153_23 : Rn 153 (23, [x0, x1, some (.int i), x3, x4], st, a, h) = Rn 153 (24, [x0, x1, some (.int i), x3, x4], .int i :: st, a, h) := Rn_go c153_23 rfl
theorem c153_24 : mcode 153 24 = some (.invokestatic 112, 3, 152, 1, 0) := rfl
theorem r153_24 : Rn 153 (24, [x0, x1, x2, x3, x4], [v0, .long l0, .long l1], a, h) = Bk 153 27 [x0, x1, x2, x3, x4] [.long l0, .long l1] (Ec 152 [v0] a h) := Rn_call0 c153_24 (fun z => nomatch z) rfl (Nat.le_of_ble_eq_true rfl) rfl rfl (Nat.le_of_ble_eq_true rfl)
theorem c153_27 : mcode 153 27 = some (.i2l, 1, 0, 0, 0) := rfl
theorem r153_27 : Rn 153 (27, [x0, x1, x2, x3, x4], .int i :: st, a, h) = Rn 153 (28, [x0, x1, x2, x3, x4], .long i.toInt64 :: st, a, h) := Rn_go c153_27 rfl
theorem c153_28 : mcode 153 28 = some (.invokestatic 52, 3, 124, 3, 0) := rfl
theorem r153_28 : Rn 153 (28, [x0, x1, x2, x3, x4], [v2, v1, v0], a, h) = Bk 153 31 [x0, x1, x2, x3, x4] [] (Ec 124 [v0, v1, v2] a h) := Rn_call0 c153_28 (fun z => nomatch z) rfl (Nat.le_of_ble_eq_true rfl) rfl rfl (Nat.le_of_ble_eq_true rfl)
theorem c153_31 : mcode 153 31 = some (.ifCond .eq 7, 3, 0, 0, 0) := rfl
theorem r153_31 : Rn 153 (31, [x0, x1, x2, x3, x4], .int i :: st, a, h) = if i = 0 then Rn 153 (38, [x0, x1, x2, x3, x4], st, a, h) else Rn 153 (34, [x0, x1, x2, x3, x4], st, a, h) := Rn_ifc c153_31 mc_eq rfl rfl
theorem c153_34 : mcode 153 34 = some (.iconst 1, 1, 0, 0, 0) := rfl
theorem r153_34 : Rn 153 (34, [x0, x1, x2, x3, x4], st, a, h) = Rn 153 (35, [x0, x1, x2, x3, x4], .int (1 : Int32) :: st, a, h) := Rn_go c153_34 rfl
theorem c153_35 : mcode 153 35 = some (.goto 4, 3, 0, 0, 0) := rfl
theorem r153_35 : Rn 153 (35, [x0, x1, x2, x3, x4], st, a, h) = Rn 153 (39, [x0, x1, x2, x3, x4], st, a, h) := Rn_goto c153_35 rfl
theorem c153_38 : mcode 153 38 = some (.iconst 0, 1, 0, 0, 0) := rfl
theorem r153_38 : Rn 153 (38, [x0, x1, x2, x3, x4], st, a, h) = Rn 153 (39, [x0, x1, x2, x3, x4], .int (0 : Int32) :: st, a, h) := Rn_go c153_38 rfl
theorem c153_39 : mcode 153 39 = some (.istore 4, 2, 0, 0, 0) := rfl
theorem r153_39 : Rn 153 (39, [x0, x1, x2, x3, x4], .int i :: st, a, h) = Nl x3 (Rn 153 (41, [x0, x1, x2, x3, some (.int i)], st, a, h)) := Rn_st1 (k := 4) (v := .int i) x3 c153_39 rfl rfl rfl rfl
theorem c153_41 : mcode 153 41 = some (.iload 4, 2, 0, 0, 0) := rfl
theorem r153_41 : Rn 153 (41, [x0, x1, x2, x3, some (.int i)], st, a, h) = Rn 153 (43, [x0, x1, x2, x3, some (.int i)], .int i :: st, a, h) := Rn_go c153_41 rfl
theorem c153_43 : mcode 153 43 = some (.ifCond .eq 16, 3, 0, 0, 0) := rfl
theorem r153_43 : Rn 153 (43, [x0, x1, x2, x3, x4], .int i :: st, a, h) = if i = 0 then Rn 153 (59, [x0, x1, x2, x3, x4], st, a, h) else Rn 153 (46, [x0, x1, x2, x3, x4], st, a, h) := Rn_ifc c153_43 mc_eq rfl rfl
theorem c153_46 : mcode 153 46 = some (.aload_n 0, 1, 0, 0, 0) := rfl
theorem r153_46 : Rn 153 (46, [some (.ref q), x1, x2, x3, x4], st, a, h) = Rn 153 (47, [some (.ref q), x1, x2, x3, x4], .ref q :: st, a, h) := Rn_go c153_46 rfl
theorem c153_47 : mcode 153 47 = some (.iload_n 1, 1, 0, 0, 0) := rfl
theorem r153_47 : Rn 153 (47, [x0, some (.int i), x2, x3, x4], st, a, h) = Rn 153 (48, [x0, some (.int i), x2, x3, x4], .int i :: st, a, h) := Rn_go c153_47 rfl
theorem c153_48 : mcode 153 48 = some (.iload_n 2, 1, 0, 0, 0) := rfl
theorem r153_48 : Rn 153 (48, [x0, x1, some (.int i), x3, x4], st, a, h) = Rn 153 (49, [x0, x1, some (.int i), x3, x4], .int i :: st, a, h) := Rn_go c153_48 rfl
theorem c153_49 : mcode 153 49 = some (.invokestatic 79, 3, 131, 2, 0) := rfl
theorem r153_49 : Rn 153 (49, [x0, x1, x2, x3, x4], [v1, v0, .ref q0], a, h) = Bk 153 52 [x0, x1, x2, x3, x4] [.ref q0] (Ec 131 [v0, v1] a h) := Rn_call0 c153_49 (fun z => nomatch z) rfl (Nat.le_of_ble_eq_true rfl) rfl rfl (Nat.le_of_ble_eq_true rfl)
theorem c153_52 : mcode 153 52 = some (.iload_n 3, 1, 0, 0, 0) := rfl
theorem r153_52 : Rn 153 (52, [x0, x1, x2, some (.int i), x4], st, a, h) = Rn 153 (53, [x0, x1, x2, some (.int i), x4], .int i :: st, a, h) := Rn_go c153_52 rfl
theorem c153_53 : mcode 153 53 = some (.invokevirtual 56, 3, 126, 2, 6) := rfl
theorem r153_53 : Rn 153 (53, [x0, x1, x2, x3, x4], [v1, v0, .ref q], a, h) = if mis h q 6 = true then Bk 153 56 [x0, x1, x2, x3, x4] [] (Ec 126 [.ref q, v0, v1] a h) else none := Rn_call1 c153_53 rfl (Nat.le_of_ble_eq_true rfl) rfl rfl (Nat.le_of_ble_eq_true rfl)
theorem c153_56 : mcode 153 56 = some (.goto 9, 3, 0, 0, 0) := rfl
theorem r153_56 : Rn 153 (56, [x0, x1, x2, x3, x4], st, a, h) = Rn 153 (65, [x0, x1, x2, x3, x4], st, a, h) := Rn_goto c153_56 rfl
theorem c153_59 : mcode 153 59 = some (.aload_n 0, 1, 0, 0, 0) := rfl
theorem r153_59 : Rn 153 (59, [some (.ref q), x1, x2, x3, x4], st, a, h) = Rn 153 (60, [some (.ref q), x1, x2, x3, x4], .ref q :: st, a, h) := Rn_go c153_59 rfl
theorem c153_60 : mcode 153 60 = some (.ldc 37, 2, 0, 0, -1000001) := rfl
theorem r153_60 : Rn 153 (60, [x0, x1, x2, x3, x4], st, a, h) = Rn 153 (62, [x0, x1, x2, x3, x4], .int (-1000001 : Int32) :: st, a, h) := Rn_go c153_60 rfl
theorem c153_62 : mcode 153 62 = some (.invokevirtual 39, 3, 125, 1, 6) := rfl
theorem r153_62 : Rn 153 (62, [x0, x1, x2, x3, x4], [v0, .ref q], a, h) = if mis h q 6 = true then Bk 153 65 [x0, x1, x2, x3, x4] [] (Ec 125 [.ref q, v0] a h) else none := Rn_call1 c153_62 rfl (Nat.le_of_ble_eq_true rfl) rfl rfl (Nat.le_of_ble_eq_true rfl)
theorem c153_65 : mcode 153 65 = some (.ireturn, 1, 0, 0, 0) := rfl
theorem r153_65 : Rn 153 (65, [x0, x1, x2, x3, x4], [.int i], a, h) = some (some (.int i), a, h) := Rn_ireti c153_65
theorem c154_0 : mcode 154 0 = some (.aload_n 0, 1, 0, 0, 0) := rfl
theorem r154_0 : Rn 154 (0, [some (.ref q), x1, x2, x3], st, a, h) = Rn 154 (1, [some (.ref q), x1, x2, x3], .ref q :: st, a, h) := Rn_go c154_0 rfl
theorem c154_1 : mcode 154 1 = some (.iload_n 1, 1, 0, 0, 0) := rfl
theorem r154_1 : Rn 154 (1, [x0, some (.int i), x2, x3], st, a, h) = Rn 154 (2, [x0, some (.int i), x2, x3], .int i :: st, a, h) := Rn_go c154_1 rfl
theorem c154_2 : mcode 154 2 = some (.invokevirtual 103, 3, 148, 1, 6) := rfl
theorem r154_2 : Rn 154 (2, [x0, x1, x2, x3], [v0, .ref q], a, h) = if mis h q 6 = true then Bk 154 5 [x0, x1, x2, x3] [] (Ec 148 [.ref q, v0] a h) else none := Rn_call1 c154_2 rfl (Nat.le_of_ble_eq_true rfl) rfl rfl (Nat.le_of_ble_eq_true rfl)
theorem c154_5 : mcode 154 5 = some (.aload_n 0, 1, 0, 0, 0) := rfl
theorem r154_5 : Rn 154 (5, [some (.ref q), x1, x2, x3], st, a, h) = Rn 154 (6, [some (.ref q), x1, x2, x3], .ref q :: st, a, h) := Rn_go c154_5 rfl
theorem c154_6 : mcode 154 6 = some (.iload_n 1, 1, 0, 0, 0) := rfl
theorem r154_6 : Rn 154 (6, [x0, some (.int i), x2, x3], st, a, h) = Rn 154 (7, [x0, some (.int i), x2, x3], .int i :: st, a, h) := Rn_go c154_6 rfl
theorem c154_7 : mcode 154 7 = some (.iconst 3, 1, 0, 0, 0) := rfl
theorem r154_7 : Rn 154 (7, [x0, x1, x2, x3], st, a, h) = Rn 154 (8, [x0, x1, x2, x3], .int (3 : Int32) :: st, a, h) := Rn_go c154_7 rfl
theorem c154_8 : mcode 154 8 = some (.invokevirtual 63, 3, 132, 2, 6) := rfl
theorem r154_8 : Rn 154 (8, [x0, x1, x2, x3], [v1, v0, .ref q, .int i0], a, h) = if mis h q 6 = true then Bk 154 11 [x0, x1, x2, x3] [.int i0] (Ec 132 [.ref q, v0, v1] a h) else none := Rn_call1 c154_8 rfl (Nat.le_of_ble_eq_true rfl) rfl rfl (Nat.le_of_ble_eq_true rfl)
theorem c154_11 : mcode 154 11 = some (.invokestatic 95, 3, 134, 2, 0) := rfl
theorem r154_11 : Rn 154 (11, [x0, x1, x2, x3], [v1, v0], a, h) = Bk 154 14 [x0, x1, x2, x3] [] (Ec 134 [v0, v1] a h) := Rn_call0 c154_11 (fun z => nomatch z) rfl (Nat.le_of_ble_eq_true rfl) rfl rfl (Nat.le_of_ble_eq_true rfl)
theorem c154_14 : mcode 154 14 = some (.istore_n 2, 1, 0, 0, 0) := rfl
theorem r154_14 : Rn 154 (14, [x0, x1, x2, x3], .int i :: st, a, h) = Nl x1 (Rn 154 (15, [x0, x1, some (.int i), x3], st, a, h)) := Rn_st1 (k := 2) (v := .int i) x1 c154_14 rfl rfl rfl rfl
theorem c154_15 : mcode 154 15 = some (.iconst 4, 1, 0, 0, 0) := rfl
theorem r154_15 : Rn 154 (15, [x0, x1, x2, x3], st, a, h) = Rn 154 (16, [x0, x1, x2, x3], .int (4 : Int32) :: st, a, h) := Rn_go c154_15 rfl
theorem c154_16 : mcode 154 16 = some (.iconst 3, 1, 0, 0, 0) := rfl
theorem r154_16 : Rn 154 (16, [x0, x1, x2, x3], st, a, h) = Rn 154 (17, [x0, x1, x2, x3], .int (3 : Int32) :: st, a, h) := Rn_go c154_16 rfl
theorem c154_17 : mcode 154 17 = some (.aload_n 0, 1, 0, 0, 0) := rfl
theorem r154_17 : Rn 154 (17, [some (.ref q), x1, x2, x3], st, a, h) = Rn 154 (18, [some (.ref q), x1, x2, x3], .ref q :: st, a, h) := Rn_go c154_17 rfl
theorem c154_18 : mcode 154 18 = some (.iload_n 1, 1, 0, 0, 0) := rfl
theorem r154_18 : Rn 154 (18, [x0, some (.int i), x2, x3], st, a, h) = Rn 154 (19, [x0, some (.int i), x2, x3], .int i :: st, a, h) := Rn_go c154_18 rfl
theorem c154_19 : mcode 154 19 = some (.iconst 1, 1, 0, 0, 0) := rfl
theorem r154_19 : Rn 154 (19, [x0, x1, x2, x3], st, a, h) = Rn 154 (20, [x0, x1, x2, x3], .int (1 : Int32) :: st, a, h) := Rn_go c154_19 rfl
theorem c154_20 : mcode 154 20 = some (.invokevirtual 63, 3, 132, 2, 6) := rfl
theorem r154_20 : Rn 154 (20, [x0, x1, x2, x3], [v1, v0, .ref q, .int i0, .int i1], a, h) = if mis h q 6 = true then Bk 154 23 [x0, x1, x2, x3] [.int i0, .int i1] (Ec 132 [.ref q, v0, v1] a h) else none := Rn_call1 c154_20 rfl (Nat.le_of_ble_eq_true rfl) rfl rfl (Nat.le_of_ble_eq_true rfl)
theorem c154_23 : mcode 154 23 = some (.imul, 1, 0, 0, 0) := rfl
theorem r154_23 : Rn 154 (23, [x0, x1, x2, x3], .int j :: .int i :: st, a, h) = Rn 154 (24, [x0, x1, x2, x3], .int (i * j) :: st, a, h) := Rn_go c154_23 rfl
theorem c154_24 : mcode 154 24 = some (.iadd, 1, 0, 0, 0) := rfl
theorem r154_24 : Rn 154 (24, [x0, x1, x2, x3], .int j :: .int i :: st, a, h) = Rn 154 (25, [x0, x1, x2, x3], .int (i + j) :: st, a, h) := Rn_go c154_24 rfl
theorem c154_25 : mcode 154 25 = some (.aload_n 0, 1, 0, 0, 0) := rfl
theorem r154_25 : Rn 154 (25, [some (.ref q), x1, x2, x3], st, a, h) = Rn 154 (26, [some (.ref q), x1, x2, x3], .ref q :: st, a, h) := Rn_go c154_25 rfl
theorem c154_26 : mcode 154 26 = some (.iload_n 1, 1, 0, 0, 0) := rfl
theorem r154_26 : Rn 154 (26, [x0, some (.int i), x2, x3], st, a, h) = Rn 154 (27, [x0, some (.int i), x2, x3], .int i :: st, a, h) := Rn_go c154_26 rfl
theorem c154_27 : mcode 154 27 = some (.iconst 2, 1, 0, 0, 0) := rfl
theorem r154_27 : Rn 154 (27, [x0, x1, x2, x3], st, a, h) = Rn 154 (28, [x0, x1, x2, x3], .int (2 : Int32) :: st, a, h) := Rn_go c154_27 rfl
theorem c154_28 : mcode 154 28 = some (.invokevirtual 63, 3, 132, 2, 6) := rfl
theorem r154_28 : Rn 154 (28, [x0, x1, x2, x3], [v1, v0, .ref q, .int i0], a, h) = if mis h q 6 = true then Bk 154 31 [x0, x1, x2, x3] [.int i0] (Ec 132 [.ref q, v0, v1] a h) else none := Rn_call1 c154_28 rfl (Nat.le_of_ble_eq_true rfl) rfl rfl (Nat.le_of_ble_eq_true rfl)
theorem c154_31 : mcode 154 31 = some (.iadd, 1, 0, 0, 0) := rfl
theorem r154_31 : Rn 154 (31, [x0, x1, x2, x3], .int j :: .int i :: st, a, h) = Rn 154 (32, [x0, x1, x2, x3], .int (i + j) :: st, a, h) := Rn_go c154_31 rfl
theorem c154_32 : mcode 154 32 = some (.istore_n 3, 1, 0, 0, 0) := rfl
theorem r154_32 : Rn 154 (32, [x0, x1, x2, x3], .int i :: st, a, h) = Nl x2 (Rn 154 (33, [x0, x1, x2, some (.int i)], st, a, h)) := Rn_st1 (k := 3) (v := .int i) x2 c154_32 rfl rfl rfl rfl
theorem c154_33 : mcode 154 33 = some (.aload_n 0, 1, 0, 0, 0) := rfl
theorem r154_33 : Rn 154 (33, [some (.ref q), x1, x2, x3], st, a, h) = Rn 154 (34, [some (.ref q), x1, x2, x3], .ref q :: st, a, h) := Rn_go c154_33 rfl
theorem c154_34 : mcode 154 34 = some (.getfield 7, 3, 6, 0, 0) := rfl
theorem r154_34 : Rn 154 (34, [x0, x1, x2, x3], .ref q :: st, a, h) = Kv 154 37 [x0, x1, x2, x3] st a h (mgf h q 6 0) := Rn_getf c154_34 rfl
theorem c154_37 : mcode 154 37 = some (.iload_n 1, 1, 0, 0, 0) := rfl
theorem r154_37 : Rn 154 (37, [x0, some (.int i), x2, x3], st, a, h) = Rn 154 (38, [x0, some (.int i), x2, x3], .int i :: st, a, h) := Rn_go c154_37 rfl
theorem c154_38 : mcode 154 38 = some (.iconst 3, 1, 0, 0, 0) := rfl
theorem r154_38 : Rn 154 (38, [x0, x1, x2, x3], st, a, h) = Rn 154 (39, [x0, x1, x2, x3], .int (3 : Int32) :: st, a, h) := Rn_go c154_38 rfl
theorem c154_39 : mcode 154 39 = some (.invokestatic 79, 3, 131, 2, 0) := rfl
theorem r154_39 : Rn 154 (39, [x0, x1, x2, x3], [v1, v0, .ref q0], a, h) = Bk 154 42 [x0, x1, x2, x3] [.ref q0] (Ec 131 [v0, v1] a h) := Rn_call0 c154_39 (fun z => nomatch z) rfl (Nat.le_of_ble_eq_true rfl) rfl rfl (Nat.le_of_ble_eq_true rfl)
theorem c154_42 : mcode 154 42 = some (.dup2, 1, 0, 0, 0) := rfl
theorem r154_42 : Rn 154 (42, [x0, x1, x2, x3], .int i :: .ref p :: st, a, h) = Rn 154 (43, [x0, x1, x2, x3], .int i :: .ref p :: .int i :: .ref p :: st, a, h) := Rn_go c154_42 rfl
theorem c154_43 : mcode 154 43 = some (.iaload, 1, 0, 0, 0) := rfl
theorem r154_43 : Rn 154 (43, [x0, x1, x2, x3], .int i :: .ref q :: st, a, h) = Ki 154 44 [x0, x1, x2, x3] st a h (mld h q i false) := Rn_iald c154_43 rfl
theorem c154_44 : mcode 154 44 = some (.iload_n 2, 1, 0, 0, 0) := rfl
theorem r154_44 : Rn 154 (44, [x0, x1, some (.int i), x3], st, a, h) = Rn 154 (45, [x0, x1, some (.int i), x3], .int i :: st, a, h) := Rn_go c154_44 rfl
theorem c154_45 : mcode 154 45 = some (.isub, 1, 0, 0, 0) := rfl
theorem r154_45 : Rn 154 (45, [x0, x1, x2, x3], .int j :: .int i :: st, a, h) = Rn 154 (46, [x0, x1, x2, x3], .int (i - j) :: st, a, h) := Rn_go c154_45 rfl
theorem c154_46 : mcode 154 46 = some (.iastore, 1, 0, 0, 0) := rfl
theorem r154_46 : Rn 154 (46, [x0, x1, x2, x3], .int j :: .int i :: .ref q :: st, a, h) = Kh 154 47 [x0, x1, x2, x3] st a (mias h q i j) := Rn_iast c154_46 rfl
theorem c154_47 : mcode 154 47 = some (.aload_n 0, 1, 0, 0, 0) := rfl
theorem r154_47 : Rn 154 (47, [some (.ref q), x1, x2, x3], st, a, h) = Rn 154 (48, [some (.ref q), x1, x2, x3], .ref q :: st, a, h) := Rn_go c154_47 rfl
theorem c154_48 : mcode 154 48 = some (.getfield 7, 3, 6, 0, 0) := rfl
theorem r154_48 : Rn 154 (48, [x0, x1, x2, x3], .ref q :: st, a, h) = Kv 154 51 [x0, x1, x2, x3] st a h (mgf h q 6 0) := Rn_getf c154_48 rfl
theorem c154_51 : mcode 154 51 = some (.iload_n 3, 1, 0, 0, 0) := rfl
theorem r154_51 : Rn 154 (51, [x0, x1, x2, some (.int i)], st, a, h) = Rn 154 (52, [x0, x1, x2, some (.int i)], .int i :: st, a, h) := Rn_go c154_51 rfl
theorem c154_52 : mcode 154 52 = some (.sipush 999, 3, 0, 0, 0) := rfl
theorem r154_52 : Rn 154 (52, [x0, x1, x2, x3], st, a, h) = Rn 154 (55, [x0, x1, x2, x3], .int (999 : Int32) :: st, a, h) := Rn_go c154_52 rfl
theorem c154_55 : mcode 154 55 = some (.aload_n 0, 1, 0, 0, 0) := rfl
theorem r154_55 : Rn 154 (55, [some (.ref q), x1, x2, x3], st, a, h) = Rn 154 (56, [some (.ref q), x1, x2, x3], .ref q :: st, a, h) := Rn_go c154_55 rfl
theorem c154_56 : mcode 154 56 = some (.getfield 7, 3, 6, 0, 0) := rfl
theorem r154_56 : Rn 154 (56, [x0, x1, x2, x3], .ref q :: st, a, h) = Kv 154 59 [x0, x1, x2, x3] st a h (mgf h q 6 0) := Rn_getf c154_56 rfl
theorem c154_59 : mcode 154 59 = some (.iload_n 3, 1, 0, 0, 0) := rfl
theorem r154_59 : Rn 154 (59, [x0, x1, x2, some (.int i)], st, a, h) = Rn 154 (60, [x0, x1, x2, some (.int i)], .int i :: st, a, h) := Rn_go c154_59 rfl
theorem c154_60 : mcode 154 60 = some (.iaload, 1, 0, 0, 0) := rfl
theorem r154_60 : Rn 154 (60, [x0, x1, x2, x3], .int i :: .ref q :: st, a, h) = Ki 154 61 [x0, x1, x2, x3] st a h (mld h q i false) := Rn_iald c154_60 rfl
theorem c154_61 : mcode 154 61 = some (.iload_n 2, 1, 0, 0, 0) := rfl
theorem r154_61 : Rn 154 (61, [x0, x1, some (.int i), x3], st, a, h) = Rn 154 (62, [x0, x1, some (.int i), x3], .int i :: st, a, h) := Rn_go c154_61 rfl
theorem c154_62 : mcode 154 62 = some (.iadd, 1, 0, 0, 0) := rfl
theorem r154_62 : Rn 154 (62, [x0, x1, x2, x3], .int j :: .int i :: st, a, h) = Rn 154 (63, [x0, x1, x2, x3], .int (i + j) :: st, a, h) := Rn_go c154_62 rfl
theorem c154_63 : mcode 154 63 = some (.invokestatic 95, 3, 134, 2, 0) := rfl
theorem r154_63 : Rn 154 (63, [x0, x1, x2, x3], [v1, v0, .int i0, .ref q1], a, h) = Bk 154 66 [x0, x1, x2, x3] [.int i0, .ref q1] (Ec 134 [v0, v1] a h) := Rn_call0 c154_63 (fun z => nomatch z) rfl (Nat.le_of_ble_eq_true rfl) rfl rfl (Nat.le_of_ble_eq_true rfl)
theorem c154_66 : mcode 154 66 = some (.iastore, 1, 0, 0, 0) := rfl
theorem r154_66 : Rn 154 (66, [x0, x1, x2, x3], .int j :: .int i :: .ref q :: st, a, h) = Kh 154 67 [x0, x1, x2, x3] st a (mias h q i j) := Rn_iast c154_66 rfl
theorem c154_67 : mcode 154 67 = some (.return_, 1, 0, 0, 0) := rfl
theorem r154_67 : Rn 154 (67, [x0, x1, x2, x3], [], a, h) = some (none, a, h) := Rn_act c154_67
theorem c155_0 : mcode 155 0 = some (.bipush 20, 2, 0, 0, 0) := rfl
theorem r155_0 : Rn 155 (0, [x0, x1, x2], st, a, h) = Rn 155 (2, [x0, x1, x2], .int (20 : Int32) :: st, a, h) := Rn_go c155_0 rfl
theorem c155_2 : mcode 155 2 = some (.istore_n 1, 1, 0, 0, 0) := rfl
theorem r155_2 : Rn 155 (2, [x0, x1, x2], .int i :: st, a, h) = Nl x0 (Rn 155 (3, [x0, some (.int i), x2], st, a, h)) := Rn_st1 (k := 1) (v := .int i) x0 c155_2 rfl rfl rfl rfl
theorem c155_3 : mcode 155 3 = some (.iload_n 1, 1, 0, 0, 0) := rfl
theorem r155_3 : Rn 155 (3, [x0, some (.int i), x2], st, a, h) = Rn 155 (4, [x0, some (.int i), x2], .int i :: st, a, h) := Rn_go c155_3 rfl
theorem c155_4 : mcode 155 4 = some (.ifCond .lt 60, 3, 0, 0, 0) := rfl
theorem r155_4 : Rn 155 (4, [x0, x1, x2], .int i :: st, a, h) = if i < 0 then Rn 155 (64, [x0, x1, x2], st, a, h) else Rn 155 (7, [x0, x1, x2], st, a, h) := Rn_ifc c155_4 mc_lt rfl rfl
theorem c155_7 : mcode 155 7 = some (.aload_n 0, 1, 0, 0, 0) := rfl
theorem r155_7 : Rn 155 (7, [some (.ref q), x1, x2], st, a, h) = Rn 155 (8, [some (.ref q), x1, x2], .ref q :: st, a, h) := Rn_go c155_7 rfl
theorem c155_8 : mcode 155 8 = some (.getfield 7, 3, 6, 0, 0) := rfl
theorem r155_8 : Rn 155 (8, [x0, x1, x2], .ref q :: st, a, h) = Kv 155 11 [x0, x1, x2] st a h (mgf h q 6 0) := Rn_getf c155_8 rfl
theorem c155_11 : mcode 155 11 = some (.iconst 4, 1, 0, 0, 0) := rfl
theorem r155_11 : Rn 155 (11, [x0, x1, x2], st, a, h) = Rn 155 (12, [x0, x1, x2], .int (4 : Int32) :: st, a, h) := Rn_go c155_11 rfl
theorem c155_12 : mcode 155 12 = some (.iload_n 1, 1, 0, 0, 0) := rfl
theorem r155_12 : Rn 155 (12, [x0, some (.int i), x2], st, a, h) = Rn 155 (13, [x0, some (.int i), x2], .int i :: st, a, h) := Rn_go c155_12 rfl
theorem c155_13 : mcode 155 13 = some (.iadd, 1, 0, 0, 0) := rfl
theorem r155_13 : Rn 155 (13, [x0, x1, x2], .int j :: .int i :: st, a, h) = Rn 155 (14, [x0, x1, x2], .int (i + j) :: st, a, h) := Rn_go c155_13 rfl
theorem c155_14 : mcode 155 14 = some (.iaload, 1, 0, 0, 0) := rfl
theorem r155_14 : Rn 155 (14, [x0, x1, x2], .int i :: .ref q :: st, a, h) = Ki 155 15 [x0, x1, x2] st a h (mld h q i false) := Rn_iald c155_14 rfl
theorem c155_15 : mcode 155 15 = some (.iconst 4, 1, 0, 0, 0) := rfl
theorem r155_15 : Rn 155 (15, [x0, x1, x2], st, a, h) = Rn 155 (16, [x0, x1, x2], .int (4 : Int32) :: st, a, h) := Rn_go c155_15 rfl
theorem c155_16 : mcode 155 16 = some (.idiv, 1, 0, 0, 0) := rfl
theorem r155_16 : Rn 155 (16, [x0, x1, x2], .int j :: .int i :: st, a, h) = if j = 0 then none else Rn 155 (17, [x0, x1, x2], .int (i / j) :: st, a, h) := Rn_idiv c155_16 rfl
theorem c155_17 : mcode 155 17 = some (.istore_n 2, 1, 0, 0, 0) := rfl
theorem r155_17 : Rn 155 (17, [x0, x1, x2], .int i :: st, a, h) = Nl x1 (Rn 155 (18, [x0, x1, some (.int i)], st, a, h)) := Rn_st1 (k := 2) (v := .int i) x1 c155_17 rfl rfl rfl rfl
theorem c155_18 : mcode 155 18 = some (.aload_n 0, 1, 0, 0, 0) := rfl
theorem r155_18 : Rn 155 (18, [some (.ref q), x1, x2], st, a, h) = Rn 155 (19, [some (.ref q), x1, x2], .ref q :: st, a, h) := Rn_go c155_18 rfl
theorem c155_19 : mcode 155 19 = some (.getfield 7, 3, 6, 0, 0) := rfl
theorem r155_19 : Rn 155 (19, [x0, x1, x2], .ref q :: st, a, h) = Kv 155 22 [x0, x1, x2] st a h (mgf h q 6 0) := Rn_getf c155_19 rfl
theorem c155_22 : mcode 155 22 = some (.iconst 4, 1, 0, 0, 0) := rfl
theorem r155_22 : Rn 155 (22, [x0, x1, x2], st, a, h) = Rn 155 (23, [x0, x1, x2], .int (4 : Int32) :: st, a, h) := Rn_go c155_22 rfl
theorem c155_23 : mcode 155 23 = some (.iload_n 1, 1, 0, 0, 0) := rfl
theorem r155_23 : Rn 155 (23, [x0, some (.int i), x2], st, a, h) = Rn 155 (24, [x0, some (.int i), x2], .int i :: st, a, h) := Rn_go c155_23 rfl
theorem c155_24 : mcode 155 24 = some (.iadd, 1, 0, 0, 0) := rfl
theorem r155_24 : Rn 155 (24, [x0, x1, x2], .int j :: .int i :: st, a, h) = Rn 155 (25, [x0, x1, x2], .int (i + j) :: st, a, h) := Rn_go c155_24 rfl
theorem c155_25 : mcode 155 25 = some (.dup2, 1, 0, 0, 0) := rfl
theorem r155_25 : Rn 155 (25, [x0, x1, x2], .int i :: .ref p :: st, a, h) = Rn 155 (26, [x0, x1, x2], .int i :: .ref p :: .int i :: .ref p :: st, a, h) := Rn_go c155_25 rfl
theorem c155_26 : mcode 155 26 = some (.iaload, 1, 0, 0, 0) := rfl
theorem r155_26 : Rn 155 (26, [x0, x1, x2], .int i :: .ref q :: st, a, h) = Ki 155 27 [x0, x1, x2] st a h (mld h q i false) := Rn_iald c155_26 rfl
theorem c155_27 : mcode 155 27 = some (.iload_n 2, 1, 0, 0, 0) := rfl
theorem r155_27 : Rn 155 (27, [x0, x1, some (.int i)], st, a, h) = Rn 155 (28, [x0, x1, some (.int i)], .int i :: st, a, h) := Rn_go c155_27 rfl
theorem c155_28 : mcode 155 28 = some (.isub, 1, 0, 0, 0) := rfl
theorem r155_28 : Rn 155 (28, [x0, x1, x2], .int j :: .int i :: st, a, h) = Rn 155 (29, [x0, x1, x2], .int (i - j) :: st, a, h) := Rn_go c155_28 rfl
theorem c155_29 : mcode 155 29 = some (.iastore, 1, 0, 0, 0) := rfl
theorem r155_29 : Rn 155 (29, [x0, x1, x2], .int j :: .int i :: .ref q :: st, a, h) = Kh 155 30 [x0, x1, x2] st a (mias h q i j) := Rn_iast c155_29 rfl
theorem c155_30 : mcode 155 30 = some (.aload_n 0, 1, 0, 0, 0) := rfl
theorem r155_30 : Rn 155 (30, [some (.ref q), x1, x2], st, a, h) = Rn 155 (31, [some (.ref q), x1, x2], .ref q :: st, a, h) := Rn_go c155_30 rfl
theorem c155_31 : mcode 155 31 = some (.getfield 7, 3, 6, 0, 0) := rfl
theorem r155_31 : Rn 155 (31, [x0, x1, x2], .ref q :: st, a, h) = Kv 155 34 [x0, x1, x2] st a h (mgf h q 6 0) := Rn_getf c155_31 rfl
theorem c155_34 : mcode 155 34 = some (.iconst 4, 1, 0, 0, 0) := rfl
theorem r155_34 : Rn 155 (34, [x0, x1, x2], st, a, h) = Rn 155 (35, [x0, x1, x2], .int (4 : Int32) :: st, a, h) := Rn_go c155_34 rfl
theorem c155_35 : mcode 155 35 = some (.iload_n 1, 1, 0, 0, 0) := rfl
theorem r155_35 : Rn 155 (35, [x0, some (.int i), x2], st, a, h) = Rn 155 (36, [x0, some (.int i), x2], .int i :: st, a, h) := Rn_go c155_35 rfl
theorem c155_36 : mcode 155 36 = some (.iadd, 1, 0, 0, 0) := rfl
theorem r155_36 : Rn 155 (36, [x0, x1, x2], .int j :: .int i :: st, a, h) = Rn 155 (37, [x0, x1, x2], .int (i + j) :: st, a, h) := Rn_go c155_36 rfl
theorem c155_37 : mcode 155 37 = some (.iconst 3, 1, 0, 0, 0) := rfl
theorem r155_37 : Rn 155 (37, [x0, x1, x2], st, a, h) = Rn 155 (38, [x0, x1, x2], .int (3 : Int32) :: st, a, h) := Rn_go c155_37 rfl
theorem c155_38 : mcode 155 38 = some (.iadd, 1, 0, 0, 0) := rfl
theorem r155_38 : Rn 155 (38, [x0, x1, x2], .int j :: .int i :: st, a, h) = Rn 155 (39, [x0, x1, x2], .int (i + j) :: st, a, h) := Rn_go c155_38 rfl
theorem c155_39 : mcode 155 39 = some (.sipush 999, 3, 0, 0, 0) := rfl
theorem r155_39 : Rn 155 (39, [x0, x1, x2], st, a, h) = Rn 155 (42, [x0, x1, x2], .int (999 : Int32) :: st, a, h) := Rn_go c155_39 rfl
theorem c155_42 : mcode 155 42 = some (.aload_n 0, 1, 0, 0, 0) := rfl
theorem r155_42 : Rn 155 (42, [some (.ref q), x1, x2], st, a, h) = Rn 155 (43, [some (.ref q), x1, x2], .ref q :: st, a, h) := Rn_go c155_42 rfl
theorem c155_43 : mcode 155 43 = some (.getfield 7, 3, 6, 0, 0) := rfl
theorem r155_43 : Rn 155 (43, [x0, x1, x2], .ref q :: st, a, h) = Kv 155 46 [x0, x1, x2] st a h (mgf h q 6 0) := Rn_getf c155_43 rfl
theorem c155_46 : mcode 155 46 = some (.iconst 4, 1, 0, 0, 0) := rfl
theorem r155_46 : Rn 155 (46, [x0, x1, x2], st, a, h) = Rn 155 (47, [x0, x1, x2], .int (4 : Int32) :: st, a, h) := Rn_go c155_46 rfl
theorem c155_47 : mcode 155 47 = some (.iload_n 1, 1, 0, 0, 0) := rfl
theorem r155_47 : Rn 155 (47, [x0, some (.int i), x2], st, a, h) = Rn 155 (48, [x0, some (.int i), x2], .int i :: st, a, h) := Rn_go c155_47 rfl
theorem c155_48 : mcode 155 48 = some (.iadd, 1, 0, 0, 0) := rfl
theorem r155_48 : Rn 155 (48, [x0, x1, x2], .int j :: .int i :: st, a, h) = Rn 155 (49, [x0, x1, x2], .int (i + j) :: st, a, h) := Rn_go c155_48 rfl
theorem c155_49 : mcode 155 49 = some (.iconst 3, 1, 0, 0, 0) := rfl
theorem r155_49 : Rn 155 (49, [x0, x1, x2], st, a, h) = Rn 155 (50, [x0, x1, x2], .int (3 : Int32) :: st, a, h) := Rn_go c155_49 rfl
theorem c155_50 : mcode 155 50 = some (.iadd, 1, 0, 0, 0) := rfl
theorem r155_50 : Rn 155 (50, [x0, x1, x2], .int j :: .int i :: st, a, h) = Rn 155 (51, [x0, x1, x2], .int (i + j) :: st, a, h) := Rn_go c155_50 rfl
theorem c155_51 : mcode 155 51 = some (.iaload, 1, 0, 0, 0) := rfl
theorem r155_51 : Rn 155 (51, [x0, x1, x2], .int i :: .ref q :: st, a, h) = Ki 155 52 [x0, x1, x2] st a h (mld h q i false) := Rn_iald c155_51 rfl
theorem c155_52 : mcode 155 52 = some (.iload_n 2, 1, 0, 0, 0) := rfl
theorem r155_52 : Rn 155 (52, [x0, x1, some (.int i)], st, a, h) = Rn 155 (53, [x0, x1, some (.int i)], .int i :: st, a, h) := Rn_go c155_52 rfl
theorem c155_53 : mcode 155 53 = some (.iadd, 1, 0, 0, 0) := rfl
theorem r155_53 : Rn 155 (53, [x0, x1, x2], .int j :: .int i :: st, a, h) = Rn 155 (54, [x0, x1, x2], .int (i + j) :: st, a, h) := Rn_go c155_53 rfl
theorem c155_54 : mcode 155 54 = some (.invokestatic 95, 3, 134, 2, 0) := rfl
theorem r155_54 : Rn 155 (54, [x0, x1, x2], [v1, v0, .int i0, .ref q1], a, h) = Bk 155 57 [x0, x1, x2] [.int i0, .ref q1] (Ec 134 [v0, v1] a h) := Rn_call0 c155_54 (fun z => nomatch z) rfl (Nat.le_of_ble_eq_true rfl) rfl rfl (Nat.le_of_ble_eq_true rfl)
theorem c155_57 : mcode 155 57 = some (.iastore, 1, 0, 0, 0) := rfl
theorem r155_57 : Rn 155 (57, [x0, x1, x2], .int j :: .int i :: .ref q :: st, a, h) = Kh 155 58 [x0, x1, x2] st a (mias h q i j) := Rn_iast c155_57 rfl
theorem c155_58 : mcode 155 58 = some (.iinc 1 (-1), 3, 0, 0, 0) := rfl
theorem r155_58 : Rn 155 (58, [x0, some (.int i), x2], st, a, h) = Nl x0 (Rn 155 (61, [x0, some (.int (i + (-1 : Int32))), x2], st, a, h)) := Rn_st1 (k := 1) (v := .int (i + (-1 : Int32))) x0 c155_58 rfl rfl rfl rfl
theorem c155_61 : mcode 155 61 = some (.goto (-58), 3, 0, 0, 0) := rfl
theorem r155_61 : Rn 155 (61, [x0, x1, x2], st, a, h) = Rn 155 (3, [x0, x1, x2], st, a, h) := Rn_goto c155_61 rfl
theorem c155_64 : mcode 155 64 = some (.return_, 1, 0, 0, 0) := rfl
theorem r155_64 : Rn 155 (64, [x0, x1, x2], [], a, h) = some (none, a, h) := Rn_act c155_64
theorem c156_0 : mcode 156 0 = some (.aload_n 0, 1, 0, 0, 0) := rfl
theorem r156_0 : Rn 156 (0, [some (.ref q), x1, x2, x3, x4, x5], st, a, h) = Rn 156 (1, [some (.ref q), x1, x2, x3, x4, x5], .ref q :: st, a, h) := Rn_go c156_0 rfl
theorem c156_1 : mcode 156 1 = some (.iload_n 1, 1, 0, 0, 0) := rfl
theorem r156_1 : Rn 156 (1, [x0, some (.int i), x2, x3, x4, x5], st, a, h) = Rn 156 (2, [x0, some (.int i), x2, x3, x4, x5], .int i :: st, a, h) := Rn_go c156_1 rfl
theorem c156_2 : mcode 156 2 = some (.iconst 2, 1, 0, 0, 0) := rfl
theorem r156_2 : Rn 156 (2, [x0, x1, x2, x3, x4, x5], st, a, h) = Rn 156 (3, [x0, x1, x2, x3, x4, x5], .int (2 : Int32) :: st, a, h) := Rn_go c156_2 rfl
theorem c156_3 : mcode 156 3 = some (.invokevirtual 63, 3, 132, 2, 6) := rfl
theorem r156_3 : Rn 156 (3, [x0, x1, x2, x3, x4, x5], [v1, v0, .ref q], a, h) = if mis h q 6 = true then Bk 156 6 [x0, x1, x2, x3, x4, x5] [] (Ec 132 [.ref q, v0, v1] a h) else none := Rn_call1 c156_3 rfl (Nat.le_of_ble_eq_true rfl) rfl rfl (Nat.le_of_ble_eq_true rfl)
theorem c156_6 : mcode 156 6 = some (.istore_n 2, 1, 0, 0, 0) := rfl
theorem r156_6 : Rn 156 (6, [x0, x1, x2, x3, x4, x5], .int i :: st, a, h) = Nl x1 (Rn 156 (7, [x0, x1, some (.int i), x3, x4, x5], st, a, h)) := Rn_st1 (k := 2) (v := .int i) x1 c156_6 rfl rfl rfl rfl
theorem c156_7 : mcode 156 7 = some (.aload_n 0, 1, 0, 0, 0) := rfl
theorem r156_7 : Rn 156 (7, [some (.ref q), x1, x2, x3, x4, x5], st, a, h) = Rn 156 (8, [some (.ref q), x1, x2, x3, x4, x5], .ref q :: st, a, h) := Rn_go c156_7 rfl
theorem c156_8 : mcode 156 8 = some (.iload_n 1, 1, 0, 0, 0) := rfl
theorem r156_8 : Rn 156 (8, [x0, some (.int i), x2, x3, x4, x5], st, a, h) = Rn 156 (9, [x0, some (.int i), x2, x3, x4, x5], .int i :: st, a, h) := Rn_go c156_8 rfl
theorem c156_9 : mcode 156 9 = some (.iconst 1, 1, 0, 0, 0) := rfl
theorem r156_9 : Rn 156 (9, [x0, x1, x2, x3, x4, x5], st, a, h) = Rn 156 (10, [x0, x1, x2, x3, x4, x5], .int (1 : Int32) :: st, a, h) := Rn_go c156_9 rfl
theorem c156_10 : mcode 156 10 = some (.invokevirtual 63, 3, 132, 2, 6) := rfl
theorem r156_10 : Rn 156 (10, [x0, x1, x2, x3, x4, x5], [v1, v0, .ref q], a, h) = if mis h q 6 = true then Bk 156 13 [x0, x1, x2, x3, x4, x5] [] (Ec 132 [.ref q, v0, v1] a h) else none := Rn_call1 c156_10 rfl (Nat.le_of_ble_eq_true rfl) rfl rfl (Nat.le_of_ble_eq_true rfl)
theorem c156_13 : mcode 156 13 = some (.istore_n 3, 1, 0, 0, 0) := rfl
theorem r156_13 : Rn 156 (13, [x0, x1, x2, x3, x4, x5], .int i :: st, a, h) = Nl x2 (Rn 156 (14, [x0, x1, x2, some (.int i), x4, x5], st, a, h)) := Rn_st1 (k := 3) (v := .int i) x2 c156_13 rfl rfl rfl rfl
theorem c156_14 : mcode 156 14 = some (.iconst (-1), 1, 0, 0, 0) := rfl
theorem r156_14 : Rn 156 (14, [x0, x1, x2, x3, x4, x5], st, a, h) = Rn 156 (15, [x0, x1, x2, x3, x4, x5], .int (-1 : Int32) :: st, a, h) := Rn_go c156_14 rfl
theorem c156_15 : mcode 156 15 = some (.istore 4, 2, 0, 0, 0) := rfl
theorem r156_15 : Rn 156 (15, [x0, x1, x2, x3, x4, x5], .int i :: st, a, h) = Nl x3 (Rn 156 (17, [x0, x1, x2, x3, some (.int i), x5], st, a, h)) := Rn_st1 (k := 4) (v := .int i) x3 c156_15 rfl rfl rfl rfl
theorem c156_17 : mcode 156 17 = some (.iconst 0, 1, 0, 0, 0) := rfl
theorem r156_17 : Rn 156 (17, [x0, x1, x2, x3, x4, x5], st, a, h) = Rn 156 (18, [x0, x1, x2, x3, x4, x5], .int (0 : Int32) :: st, a, h) := Rn_go c156_17 rfl
theorem c156_18 : mcode 156 18 = some (.istore 5, 2, 0, 0, 0) := rfl
theorem r156_18 : Rn 156 (18, [x0, x1, x2, x3, x4, x5], .int i :: st, a, h) = Nl x4 (Rn 156 (20, [x0, x1, x2, x3, x4, some (.int i)], st, a, h)) := Rn_st1 (k := 5) (v := .int i) x4 c156_18 rfl rfl rfl rfl
theorem c156_20 : mcode 156 20 = some (.iload 5, 2, 0, 0, 0) := rfl
theorem r156_20 : Rn 156 (20, [x0, x1, x2, x3, x4, some (.int i)], st, a, h) = Rn 156 (22, [x0, x1, x2, x3, x4, some (.int i)], .int i :: st, a, h) := Rn_go c156_20 rfl
theorem c156_22 : mcode 156 22 = some (.iconst 3, 1, 0, 0, 0) := rfl
theorem r156_22 : Rn 156 (22, [x0, x1, x2, x3, x4, x5], st, a, h) = Rn 156 (23, [x0, x1, x2, x3, x4, x5], .int (3 : Int32) :: st, a, h) := Rn_go c156_22 rfl
theorem c156_23 : mcode 156 23 = some (.if_icmp .ge 46, 3, 0, 0, 0) := rfl
theorem r156_23 : Rn 156 (23, [x0, x1, x2, x3, x4, x5], .int j :: .int i :: st, a, h) = if i < j then Rn 156 (26, [x0, x1, x2, x3, x4, x5], st, a, h) else Rn 156 (69, [x0, x1, x2, x3, x4, x5], st, a, h) := Rn_icmpn c156_23 mc_ge rfl rfl
theorem c156_26 : mcode 156 26 = some (.iload 5, 2, 0, 0, 0) := rfl
theorem r156_26 : Rn 156 (26, [x0, x1, x2, x3, x4, some (.int i)], st, a, h) = Rn 156 (28, [x0, x1, x2, x3, x4, some (.int i)], .int i :: st, a, h) := Rn_go c156_26 rfl
theorem c156_28 : mcode 156 28 = some (.iload_n 2, 1, 0, 0, 0) := rfl
theorem r156_28 : Rn 156 (28, [x0, x1, some (.int i), x3, x4, x5], st, a, h) = Rn 156 (29, [x0, x1, some (.int i), x3, x4, x5], .int i :: st, a, h) := Rn_go c156_28 rfl
theorem c156_29 : mcode 156 29 = some (.if_icmp .eq 30, 3, 0, 0, 0) := rfl
theorem r156_29 : Rn 156 (29, [x0, x1, x2, x3, x4, x5], .int j :: .int i :: st, a, h) = if i = j then Rn 156 (59, [x0, x1, x2, x3, x4, x5], st, a, h) else Rn 156 (32, [x0, x1, x2, x3, x4, x5], st, a, h) := Rn_icmp c156_29 mc_eq rfl rfl
theorem c156_32 : mcode 156 32 = some (.iload 4, 2, 0, 0, 0) := rfl
theorem r156_32 : Rn 156 (32, [x0, x1, x2, x3, some (.int i), x5], st, a, h) = Rn 156 (34, [x0, x1, x2, x3, some (.int i), x5], .int i :: st, a, h) := Rn_go c156_32 rfl
theorem c156_34 : mcode 156 34 = some (.ifCond .lt 20, 3, 0, 0, 0) := rfl
theorem r156_34 : Rn 156 (34, [x0, x1, x2, x3, x4, x5], .int i :: st, a, h) = if i < 0 then Rn 156 (54, [x0, x1, x2, x3, x4, x5], st, a, h) else Rn 156 (37, [x0, x1, x2, x3, x4, x5], st, a, h) := Rn_ifc c156_34 mc_lt rfl rfl
theorem c156_37 : mcode 156 37 = some (.aload_n 0, 1, 0, 0, 0) := rfl
theorem r156_37 : Rn 156 (37, [some (.ref q), x1, x2, x3, x4, x5], st, a, h) = Rn 156 (38, [some (.ref q), x1, x2, x3, x4, x5], .ref q :: st, a, h) := Rn_go c156_37 rfl
theorem c156_38 : mcode 156 38 = some (.iload_n 3, 1, 0, 0, 0) := rfl
theorem r156_38 : Rn 156 (38, [x0, x1, x2, some (.int i), x4, x5], st, a, h) = Rn 156 (39, [x0, x1, x2, some (.int i), x4, x5], .int i :: st, a, h) := Rn_go c156_38 rfl
theorem c156_39 : mcode 156 39 = some (.iload 5, 2, 0, 0, 0) := rfl
theorem r156_39 : Rn 156 (39, [x0, x1, x2, x3, x4, some (.int i)], st, a, h) = Rn 156 (41, [x0, x1, x2, x3, x4, some (.int i)], .int i :: st, a, h) := Rn_go c156_39 rfl
theorem c156_41 : mcode 156 41 = some (.invokevirtual 60, 3, 133, 2, 6) := rfl
theorem r156_41 : Rn 156 (41, [x0, x1, x2, x3, x4, x5], [v1, v0, .ref q], a, h) = if mis h q 6 = true then Bk 156 44 [x0, x1, x2, x3, x4, x5] [] (Ec 133 [.ref q, v0, v1] a h) else none := Rn_call1 c156_41 rfl (Nat.le_of_ble_eq_true rfl) rfl rfl (Nat.le_of_ble_eq_true rfl)
theorem c156_44 : mcode 156 44 = some (.aload_n 0, 1, 0, 0, 0) := rfl
theorem r156_44 : Rn 156 (44, [some (.ref q), x1, x2, x3, x4, x5], st, a, h) = Rn 156 (45, [some (.ref q), x1, x2, x3, x4, x5], .ref q :: st, a, h) := Rn_go c156_44 rfl
theorem c156_45 : mcode 156 45 = some (.iload_n 3, 1, 0, 0, 0) := rfl
theorem r156_45 : Rn 156 (45, [x0, x1, x2, some (.int i), x4, x5], st, a, h) = Rn 156 (46, [x0, x1, x2, some (.int i), x4, x5], .int i :: st, a, h) := Rn_go c156_45 rfl
theorem c156_46 : mcode 156 46 = some (.iload 4, 2, 0, 0, 0) := rfl
theorem r156_46 : Rn 156 (46, [x0, x1, x2, x3, some (.int i), x5], st, a, h) = Rn 156 (48, [x0, x1, x2, x3, some (.int i), x5], .int i :: st, a, h) := Rn_go c156_46 rfl
theorem c156_48 : mcode 156 48 = some (.invokevirtual 60, 3, 133, 2, 6) := rfl
theorem r156_48 : Rn 156 (48, [x0, x1, x2, x3, x4, x5], [v1, v0, .ref q, .int i0], a, h) = if mis h q 6 = true then Bk 156 51 [x0, x1, x2, x3, x4, x5] [.int i0] (Ec 133 [.ref q, v0, v1] a h) else none := Rn_call1 c156_48 rfl (Nat.le_of_ble_eq_true rfl) rfl rfl (Nat.le_of_ble_eq_true rfl)
theorem c156_51 : mcode 156 51 = some (.if_icmp .le 8, 3, 0, 0, 0) := rfl
theorem r156_51 : Rn 156 (51, [x0, x1, x2, x3, x4, x5], .int j :: .int i :: st, a, h) = if j < i then Rn 156 (54, [x0, x1, x2, x3, x4, x5], st, a, h) else Rn 156 (59, [x0, x1, x2, x3, x4, x5], st, a, h) := Rn_icmpn c156_51 mc_le rfl rfl
theorem c156_54 : mcode 156 54 = some (.iload 5, 2, 0, 0, 0) := rfl
theorem r156_54 : Rn 156 (54, [x0, x1, x2, x3, x4, some (.int i)], st, a, h) = Rn 156 (56, [x0, x1, x2, x3, x4, some (.int i)], .int i :: st, a, h) := Rn_go c156_54 rfl
theorem c156_56 : mcode 156 56 = some (.goto 5, 3, 0, 0, 0) := rfl
theorem r156_56 : Rn 156 (56, [x0, x1, x2, x3, x4, x5], st, a, h) = Rn 156 (61, [x0, x1, x2, x3, x4, x5], st, a, h) := Rn_goto c156_56 rfl
theorem c156_59 : mcode 156 59 = some (.iload 4, 2, 0, 0, 0) := rfl
theorem r156_59 : Rn 156 (59, [x0, x1, x2, x3, some (.int i), x5], st, a, h) = Rn 156 (61, [x0, x1, x2, x3, some (.int i), x5], .int i :: st, a, h) := Rn_go c156_59 rfl
theorem c156_61 : mcode 156 61 = some (.istore 4, 2, 0, 0, 0) := rfl
theorem r156_61 : Rn 156 (61, [x0, x1, x2, x3, x4, x5], .int i :: st, a, h) = Nl x3 (Rn 156 (63, [x0, x1, x2, x3, some (.int i), x5], st, a, h)) := Rn_st1 (k := 4) (v := .int i) x3 c156_61 rfl rfl rfl rfl
theorem c156_63 : mcode 156 63 = some (.iinc 5 1, 3, 0, 0, 0) := rfl
theorem r156_63 : Rn 156 (63, [x0, x1, x2, x3, x4, some (.int i)], st, a, h) = Nl x4 (Rn 156 (66, [x0, x1, x2, x3, x4, some (.int (i + (1 : Int32)))], st, a, h)) := Rn_st1 (k := 5) (v := .int (i + (1 : Int32))) x4 c156_63 rfl rfl rfl rfl
theorem c156_66 : mcode 156 66 = some (.goto (-46), 3, 0, 0, 0) := rfl
theorem r156_66 : Rn 156 (66, [x0, x1, x2, x3, x4, x5], st, a, h) = Rn 156 (20, [x0, x1, x2, x3, x4, x5], st, a, h) := Rn_goto c156_66 rfl
theorem c156_69 : mcode 156 69 = some (.aload_n 0, 1, 0, 0, 0) := rfl
theorem r156_69 : Rn 156 (69, [some (.ref q), x1, x2, x3, x4, x5], st, a, h) = Rn 156 (70, [some (.ref q), x1, x2, x3, x4, x5], .ref q :: st, a, h) := Rn_go c156_69 rfl
theorem c156_70 : mcode 156 70 = some (.iload_n 3, 1, 0, 0, 0) := rfl
theorem r156_70 : Rn 156 (70, [x0, x1, x2, some (.int i), x4, x5], st, a, h) = Rn 156 (71, [x0, x1, x2, some (.int i), x4, x5], .int i :: st, a, h) := Rn_go c156_70 rfl
theorem c156_71 : mcode 156 71 = some (.iload 4, 2, 0, 0, 0) := rfl
theorem r156_71 : Rn 156 (71, [x0, x1, x2, x3, some (.int i), x5], st, a, h) = Rn 156 (73, [x0, x1, x2, x3, some (.int i), x5], .int i :: st, a, h) := Rn_go c156_71 rfl
theorem c156_73 : mcode 156 73 = some (.invokevirtual 60, 3, 133, 2, 6) := rfl
theorem r156_73 : Rn 156 (73, [x0, x1, x2, x3, x4, x5], [v1, v0, .ref q], a, h) = if mis h q 6 = true then Bk 156 76 [x0, x1, x2, x3, x4, x5] [] (Ec 133 [.ref q, v0, v1] a h) else none := Rn_call1 c156_73 rfl (Nat.le_of_ble_eq_true rfl) rfl rfl (Nat.le_of_ble_eq_true rfl)
theorem c156_76 : mcode 156 76 = some (.aload_n 0, 1, 0, 0, 0) := rfl
theorem r156_76 : Rn 156 (76, [some (.ref q), x1, x2, x3, x4, x5], st, a, h) = Rn 156 (77, [some (.ref q), x1, x2, x3, x4, x5], .ref q :: st, a, h) := Rn_go c156_76 rfl
theorem c156_77 : mcode 156 77 = some (.iload_n 1, 1, 0, 0, 0) := rfl
theorem r156_77 : Rn 156 (77, [x0, some (.int i), x2, x3, x4, x5], st, a, h) = Rn 156 (78, [x0, some (.int i), x2, x3, x4, x5], .int i :: st, a, h) := Rn_go c156_77 rfl
theorem c156_78 : mcode 156 78 = some (.invokevirtual 109, 3, 150, 1, 6) := rfl
theorem r156_78 : Rn 156 (78, [x0, x1, x2, x3, x4, x5], [v0, .ref q, .int i0], a, h) = if mis h q 6 = true then Bk 156 81 [x0, x1, x2, x3, x4, x5] [.int i0] (Ec 150 [.ref q, v0] a h) else none := Rn_call1 c156_78 rfl (Nat.le_of_ble_eq_true rfl) rfl rfl (Nat.le_of_ble_eq_true rfl)
theorem c156_81 : mcode 156 81 = some (.if_icmp .le 56, 3, 0, 0, 0) := rfl
theorem r156_81 : Rn 156 (81, [x0, x1, x2, x3, x4, x5], .int j :: .int i :: st, a, h) = if j < i then Rn 156 (84, [x0, x1, x2, x3, x4, x5], st, a, h) else Rn 156 (137, [x0, x1, x2, x3, x4, x5], st, a, h) := Rn_icmpn c156_81 mc_le rfl rfl
theorem c156_84 : mcode 156 84 = some (.aload_n 0, 1, 0, 0, 0) := rfl
theorem r156_84 : Rn 156 (84, [some (.ref q), x1, x2, x3, x4, x5], st, a, h) = Rn 156 (85, [some (.ref q), x1, x2, x3, x4, x5], .ref q :: st, a, h) := Rn_go c156_84 rfl
theorem c156_85 : mcode 156 85 = some (.iload_n 3, 1, 0, 0, 0) := rfl
theorem r156_85 : Rn 156 (85, [x0, x1, x2, some (.int i), x4, x5], st, a, h) = Rn 156 (86, [x0, x1, x2, some (.int i), x4, x5], .int i :: st, a, h) := Rn_go c156_85 rfl
theorem c156_86 : mcode 156 86 = some (.iload 4, 2, 0, 0, 0) := rfl
theorem r156_86 : Rn 156 (86, [x0, x1, x2, x3, some (.int i), x5], st, a, h) = Rn 156 (88, [x0, x1, x2, x3, some (.int i), x5], .int i :: st, a, h) := Rn_go c156_86 rfl
theorem c156_88 : mcode 156 88 = some (.invokevirtual 60, 3, 133, 2, 6) := rfl
theorem r156_88 : Rn 156 (88, [x0, x1, x2, x3, x4, x5], [v1, v0, .ref q], a, h) = if mis h q 6 = true then Bk 156 91 [x0, x1, x2, x3, x4, x5] [] (Ec 133 [.ref q, v0, v1] a h) else none := Rn_call1 c156_88 rfl (Nat.le_of_ble_eq_true rfl) rfl rfl (Nat.le_of_ble_eq_true rfl)
theorem c156_91 : mcode 156 91 = some (.aload_n 0, 1, 0, 0, 0) := rfl
theorem r156_91 : Rn 156 (91, [some (.ref q), x1, x2, x3, x4, x5], st, a, h) = Rn 156 (92, [some (.ref q), x1, x2, x3, x4, x5], .ref q :: st, a, h) := Rn_go c156_91 rfl
theorem c156_92 : mcode 156 92 = some (.iload_n 3, 1, 0, 0, 0) := rfl
theorem r156_92 : Rn 156 (92, [x0, x1, x2, some (.int i), x4, x5], st, a, h) = Rn 156 (93, [x0, x1, x2, some (.int i), x4, x5], .int i :: st, a, h) := Rn_go c156_92 rfl
theorem c156_93 : mcode 156 93 = some (.iload_n 2, 1, 0, 0, 0) := rfl
theorem r156_93 : Rn 156 (93, [x0, x1, some (.int i), x3, x4, x5], st, a, h) = Rn 156 (94, [x0, x1, some (.int i), x3, x4, x5], .int i :: st, a, h) := Rn_go c156_93 rfl
theorem c156_94 : mcode 156 94 = some (.invokevirtual 60, 3, 133, 2, 6) := rfl
theorem r156_94 : Rn 156 (94, [x0, x1, x2, x3, x4, x5], [v1, v0, .ref q, .int i0], a, h) = if mis h q 6 = true then Bk 156 97 [x0, x1, x2, x3, x4, x5] [.int i0] (Ec 133 [.ref q, v0, v1] a h) else none := Rn_call1 c156_94 rfl (Nat.le_of_ble_eq_true rfl) rfl rfl (Nat.le_of_ble_eq_true rfl)
theorem c156_97 : mcode 156 97 = some (.if_icmp .le 40, 3, 0, 0, 0) := rfl
theorem r156_97 : Rn 156 (97, [x0, x1, x2, x3, x4, x5], .int j :: .int i :: st, a, h) = if j < i then Rn 156 (100, [x0, x1, x2, x3, x4, x5], st, a, h) else Rn 156 (137, [x0, x1, x2, x3, x4, x5], st, a, h) := Rn_icmpn c156_97 mc_le rfl rfl
theorem c156_100 : mcode 156 100 = some (.aload_n 0, 1, 0, 0, 0) := rfl
theorem r156_100 : Rn 156 (100, [some (.ref q), x1, x2, x3, x4, x5], st, a, h) = Rn 156 (101, [some (.ref q), x1, x2, x3, x4, x5], .ref q :: st, a, h) := Rn_go c156_100 rfl
theorem c156_101 : mcode 156 101 = some (.getfield 7, 3, 6, 0, 0) := rfl
theorem r156_101 : Rn 156 (101, [x0, x1, x2, x3, x4, x5], .ref q :: st, a, h) = Kv 156 104 [x0, x1, x2, x3, x4, x5] st a h (mgf h q 6 0) := Rn_getf c156_101 rfl
theorem c156_104 : mcode 156 104 = some (.iload_n 1, 1, 0, 0, 0) := rfl
theorem r156_104 : Rn 156 (104, [x0, some (.int i), x2, x3, x4, x5], st, a, h) = Rn 156 (105, [x0, some (.int i), x2, x3, x4, x5], .int i :: st, a, h) := Rn_go c156_104 rfl
theorem c156_105 : mcode 156 105 = some (.iconst 2, 1, 0, 0, 0) := rfl
theorem r156_105 : Rn 156 (105, [x0, x1, x2, x3, x4, x5], st, a, h) = Rn 156 (106, [x0, x1, x2, x3, x4, x5], .int (2 : Int32) :: st, a, h) := Rn_go c156_105 rfl
theorem c156_106 : mcode 156 106 = some (.invokestatic 79, 3, 131, 2, 0) := rfl
theorem r156_106 : Rn 156 (106, [x0, x1, x2, x3, x4, x5], [v1, v0, .ref q0], a, h) = Bk 156 109 [x0, x1, x2, x3, x4, x5] [.ref q0] (Ec 131 [v0, v1] a h) := Rn_call0 c156_106 (fun z => nomatch z) rfl (Nat.le_of_ble_eq_true rfl) rfl rfl (Nat.le_of_ble_eq_true rfl)
theorem c156_109 : mcode 156 109 = some (.iload 4, 2, 0, 0, 0) := rfl
theorem r156_109 : Rn 156 (109, [x0, x1, x2, x3, some (.int i), x5], st, a, h) = Rn 156 (111, [x0, x1, x2, x3, some (.int i), x5], .int i :: st, a, h) := Rn_go c156_109 rfl
theorem c156_111 : mcode 156 111 = some (.iastore, 1, 0, 0, 0) := rfl
theorem r156_111 : Rn 156 (111, [x0, x1, x2, x3, x4, x5], .int j :: .int i :: .ref q :: st, a, h) = Kh 156 112 [x0, x1, x2, x3, x4, x5] st a (mias h q i j) := Rn_iast c156_111 rfl
theorem c156_112 : mcode 156 112 = some (.aload_n 0, 1, 0, 0, 0) := rfl
theorem r156_112 : Rn 156 (112, [some (.ref q), x1, x2, x3, x4, x5], st, a, h) = Rn 156 (113, [some (.ref q), x1, x2, x3, x4, x5], .ref q :: st, a, h) := Rn_go c156_112 rfl
theorem c156_113 : mcode 156 113 = some (.getfield 7, 3, 6, 0, 0) := rfl
theorem r156_113 : Rn 156 (113, [x0, x1, x2, x3, x4, x5], .ref q :: st, a, h) = Kv 156 116 [x0, x1, x2, x3, x4, x5] st a h (mgf h q 6 0) := Rn_getf c156_113 rfl
theorem c156_116 : mcode 156 116 = some (.iload_n 1, 1, 0, 0, 0) := rfl
theorem r156_116 : Rn 156 (116, [x0, some (.int i), x2, x3, x4, x5], st, a, h) = Rn 156 (117, [x0, some (.int i), x2, x3, x4, x5], .int i :: st, a, h) := Rn_go c156_116 rfl
theorem c156_117 : mcode 156 117 = some (.iconst 3, 1, 0, 0, 0) := rfl
theorem r156_117 : Rn 156 (117, [x0, x1, x2, x3, x4, x5], st, a, h) = Rn 156 (118, [x0, x1, x2, x3, x4, x5], .int (3 : Int32) :: st, a, h) := Rn_go c156_117 rfl
theorem c156_118 : mcode 156 118 = some (.invokestatic 79, 3, 131, 2, 0) := rfl
theorem r156_118 : Rn 156 (118, [x0, x1, x2, x3, x4, x5], [v1, v0, .ref q0], a, h) = Bk 156 121 [x0, x1, x2, x3, x4, x5] [.ref q0] (Ec 131 [v0, v1] a h) := Rn_call0 c156_118 (fun z => nomatch z) rfl (Nat.le_of_ble_eq_true rfl) rfl rfl (Nat.le_of_ble_eq_true rfl)
theorem c156_121 : mcode 156 121 = some (.sipush 999, 3, 0, 0, 0) := rfl
theorem r156_121 : Rn 156 (121, [x0, x1, x2, x3, x4, x5], st, a, h) = Rn 156 (124, [x0, x1, x2, x3, x4, x5], .int (999 : Int32) :: st, a, h) := Rn_go c156_121 rfl
theorem c156_124 : mcode 156 124 = some (.aload_n 0, 1, 0, 0, 0) := rfl
theorem r156_124 : Rn 156 (124, [some (.ref q), x1, x2, x3, x4, x5], st, a, h) = Rn 156 (125, [some (.ref q), x1, x2, x3, x4, x5], .ref q :: st, a, h) := Rn_go c156_124 rfl
theorem c156_125 : mcode 156 125 = some (.iload_n 1, 1, 0, 0, 0) := rfl
theorem r156_125 : Rn 156 (125, [x0, some (.int i), x2, x3, x4, x5], st, a, h) = Rn 156 (126, [x0, some (.int i), x2, x3, x4, x5], .int i :: st, a, h) := Rn_go c156_125 rfl
theorem c156_126 : mcode 156 126 = some (.iconst 3, 1, 0, 0, 0) := rfl
theorem r156_126 : Rn 156 (126, [x0, x1, x2, x3, x4, x5], st, a, h) = Rn 156 (127, [x0, x1, x2, x3, x4, x5], .int (3 : Int32) :: st, a, h) := Rn_go c156_126 rfl
theorem c156_127 : mcode 156 127 = some (.invokevirtual 63, 3, 132, 2, 6) := rfl
theorem r156_127 : Rn 156 (127, [x0, x1, x2, x3, x4, x5], [v1, v0, .ref q, .int i0, .int i1, .ref q2], a, h) = if mis h q 6 = true then Bk 156 130 [x0, x1, x2, x3, x4, x5] [.int i0, .int i1, .ref q2] (Ec 132 [.ref q, v0, v1] a h) else none := Rn_call1 c156_127 rfl (Nat.le_of_ble_eq_true rfl) rfl rfl (Nat.le_of_ble_eq_true rfl)
theorem c156_130 : mcode 156 130 = some (.bipush 10, 2, 0, 0, 0) := rfl
theorem r156_130 : Rn 156 (130, [x0, x1, x2, x3, x4, x5], st, a, h) = Rn 156 (132, [x0, x1, x2, x3, x4, x5], .int (10 : Int32) :: st, a, h) := Rn_go c156_130 rfl
theorem c156_132 : mcode 156 132 = some (.iadd, 1, 0, 0, 0) := rfl
theorem r156_132 : Rn 156 (132, [x0, x1, x2, x3, x4, x5], .int j :: .int i :: st, a, h) = Rn 156 (133, [x0, x1, x2, x3, x4, x5], .int (i + j) :: st, a, h) := Rn_go c156_132 rfl
theorem c156_133 : mcode 156 133 = some (.invokestatic 95, 3, 134, 2, 0) := rfl
theorem r156_133 : Rn 156 (133, [x0, x1, x2, x3, x4, x5], [v1, v0, .int i0, .ref q1], a, h) = Bk 156 136 [x0, x1, x2, x3, x4, x5] [.int i0, .ref q1] (Ec 134 [v0, v1] a h) := Rn_call0 c156_133 (fun z => nomatch z) rfl (Nat.le_of_ble_eq_true rfl) rfl rfl (Nat.le_of_ble_eq_true rfl)
theorem c156_136 : mcode 156 136 = some (.iastore, 1, 0, 0, 0) := rfl
theorem r156_136 : Rn 156 (136, [x0, x1, x2, x3, x4, x5], .int j :: .int i :: .ref q :: st, a, h) = Kh 156 137 [x0, x1, x2, x3, x4, x5] st a (mias h q i j) := Rn_iast c156_136 rfl
theorem c156_137 : mcode 156 137 = some (.return_, 1, 0, 0, 0) := rfl
theorem r156_137 : Rn 156 (137, [x0, x1, x2, x3, x4, x5], [], a, h) = some (none, a, h) := Rn_act c156_137
theorem c157_0 : mcode 157 0 = some (.aload_n 0, 1, 0, 0, 0) := rfl
theorem r157_0 : Rn 157 (0, [some (.ref q), x1, x2, x3], st, a, h) = Rn 157 (1, [some (.ref q), x1, x2, x3], .ref q :: st, a, h) := Rn_go c157_0 rfl
theorem c157_1 : mcode 157 1 = some (.iload_n 1, 1, 0, 0, 0) := rfl
theorem r157_1 : Rn 157 (1, [x0, some (.int i), x2, x3], st, a, h) = Rn 157 (2, [x0, some (.int i), x2, x3], .int i :: st, a, h) := Rn_go c157_1 rfl
theorem c157_2 : mcode 157 2 = some (.iconst 1, 1, 0, 0, 0) := rfl
theorem r157_2 : Rn 157 (2, [x0, x1, x2, x3], st, a, h) = Rn 157 (3, [x0, x1, x2, x3], .int (1 : Int32) :: st, a, h) := Rn_go c157_2 rfl
theorem c157_3 : mcode 157 3 = some (.invokevirtual 63, 3, 132, 2, 6) := rfl
theorem r157_3 : Rn 157 (3, [x0, x1, x2, x3], [v1, v0, .ref q], a, h) = if mis h q 6 = true then Bk 157 6 [x0, x1, x2, x3] [] (Ec 132 [.ref q, v0, v1] a h) else none := Rn_call1 c157_3 rfl (Nat.le_of_ble_eq_true rfl) rfl rfl (Nat.le_of_ble_eq_true rfl)
theorem c157_6 : mcode 157 6 = some (.istore_n 2, 1, 0, 0, 0) := rfl
theorem r157_6 : Rn 157 (6, [x0, x1, x2, x3], .int i :: st, a, h) = Nl x1 (Rn 157 (7, [x0, x1, some (.int i), x3], st, a, h)) := Rn_st1 (k := 2) (v := .int i) x1 c157_6 rfl rfl rfl rfl
theorem c157_7 : mcode 157 7 = some (.iconst 0, 1, 0, 0, 0) := rfl
theorem r157_7 : Rn 157 (7, [x0, x1, x2, x3], st, a, h) = Rn 157 (8, [x0, x1, x2, x3], .int (0 : Int32) :: st, a, h) := Rn_go c157_7 rfl
theorem c157_8 : mcode 157 8 = some (.bipush 7, 2, 0, 0, 0) := rfl
theorem r157_8 : Rn 157 (8, [x0, x1, x2, x3], st, a, h) = Rn 157 (10, [x0, x1, x2, x3], .int (7 : Int32) :: st, a, h) := Rn_go c157_8 rfl
theorem c157_10 : mcode 157 10 = some (.iload_n 2, 1, 0, 0, 0) := rfl
theorem r157_10 : Rn 157 (10, [x0, x1, some (.int i), x3], st, a, h) = Rn 157 (11, [x0, x1, some (.int i), x3], .int i :: st, a, h) := Rn_go c157_10 rfl
theorem c157_11 : mcode 157 11 = some (.aload_n 0, 1, 0, 0, 0) := rfl
theorem r157_11 : Rn 157 (11, [some (.ref q), x1, x2, x3], st, a, h) = Rn 157 (12, [some (.ref q), x1, x2, x3], .ref q :: st, a, h) := Rn_go c157_11 rfl
theorem c157_12 : mcode 157 12 = some (.iload_n 1, 1, 0, 0, 0) := rfl
theorem r157_12 : Rn 157 (12, [x0, some (.int i), x2, x3], st, a, h) = Rn 157 (13, [x0, some (.int i), x2, x3], .int i :: st, a, h) := Rn_go c157_12 rfl
theorem c157_13 : mcode 157 13 = some (.invokevirtual 106, 3, 149, 1, 6) := rfl
theorem r157_13 : Rn 157 (13, [x0, x1, x2, x3], [v0, .ref q, .int i0, .int i1, .int i2], a, h) = if mis h q 6 = true then Bk 157 16 [x0, x1, x2, x3] [.int i0, .int i1, .int i2] (Ec 149 [.ref q, v0] a h) else none := Rn_call1 c157_13 rfl (Nat.le_of_ble_eq_true rfl) rfl rfl (Nat.le_of_ble_eq_true rfl)
theorem c157_16 : mcode 157 16 = some (.isub, 1, 0, 0, 0) := rfl
theorem r157_16 : Rn 157 (16, [x0, x1, x2, x3], .int j :: .int i :: st, a, h) = Rn 157 (17, [x0, x1, x2, x3], .int (i - j) :: st, a, h) := Rn_go c157_16 rfl
theorem c157_17 : mcode 157 17 = some (.invokestatic 95, 3, 134, 2, 0) := rfl
theorem r157_17 : Rn 157 (17, [x0, x1, x2, x3], [v1, v0, .int i0], a, h) = Bk 157 20 [x0, x1, x2, x3] [.int i0] (Ec 134 [v0, v1] a h) := Rn_call0 c157_17 (fun z => nomatch z) rfl (Nat.le_of_ble_eq_true rfl) rfl rfl (Nat.le_of_ble_eq_true rfl)
theorem c157_20 : mcode 157 20 = some (.invokestatic 115, 3, 135, 2, 0) := rfl
theorem r157_20 : Rn 157 (20, [x0, x1, x2, x3], [v1, v0], a, h) = Bk 157 23 [x0, x1, x2, x3] [] (Ec 135 [v0, v1] a h) := Rn_call0 c157_20 (fun z => nomatch z) rfl (Nat.le_of_ble_eq_true rfl) rfl rfl (Nat.le_of_ble_eq_true rfl)
theorem c157_23 : mcode 157 23 = some (.istore_n 3, 1, 0, 0, 0) := rfl
theorem r157_23 : Rn 157 (23, [x0, x1, x2, x3], .int i :: st, a, h) = Nl x2 (Rn 157 (24, [x0, x1, x2, some (.int i)], st, a, h)) := Rn_st1 (k := 3) (v := .int i) x2 c157_23 rfl rfl rfl rfl
theorem c157_24 : mcode 157 24 = some (.aload_n 0, 1, 0, 0, 0) := rfl
theorem r157_24 : Rn 157 (24, [some (.ref q), x1, x2, x3], st, a, h) = Rn 157 (25, [some (.ref q), x1, x2, x3], .ref q :: st, a, h) := Rn_go c157_24 rfl
theorem c157_25 : mcode 157 25 = some (.getfield 7, 3, 6, 0, 0) := rfl
theorem r157_25 : Rn 157 (25, [x0, x1, x2, x3], .ref q :: st, a, h) = Kv 157 28 [x0, x1, x2, x3] st a h (mgf h q 6 0) := Rn_getf c157_25 rfl
theorem c157_28 : mcode 157 28 = some (.iload_n 1, 1, 0, 0, 0) := rfl
theorem r157_28 : Rn 157 (28, [x0, some (.int i), x2, x3], st, a, h) = Rn 157 (29, [x0, some (.int i), x2, x3], .int i :: st, a, h) := Rn_go c157_28 rfl
theorem c157_29 : mcode 157 29 = some (.iconst 1, 1, 0, 0, 0) := rfl
theorem r157_29 : Rn 157 (29, [x0, x1, x2, x3], st, a, h) = Rn 157 (30, [x0, x1, x2, x3], .int (1 : Int32) :: st, a, h) := Rn_go c157_29 rfl
theorem c157_30 : mcode 157 30 = some (.invokestatic 79, 3, 131, 2, 0) := rfl
theorem r157_30 : Rn 157 (30, [x0, x1, x2, x3], [v1, v0, .ref q0], a, h) = Bk 157 33 [x0, x1, x2, x3] [.ref q0] (Ec 131 [v0, v1] a h) := Rn_call0 c157_30 (fun z => nomatch z) rfl (Nat.le_of_ble_eq_true rfl) rfl rfl (Nat.le_of_ble_eq_true rfl)
theorem c157_33 : mcode 157 33 = some (.iload_n 3, 1, 0, 0, 0) := rfl
theorem r157_33 : Rn 157 (33, [x0, x1, x2, some (.int i)], st, a, h) = Rn 157 (34, [x0, x1, x2, some (.int i)], .int i :: st, a, h) := Rn_go c157_33 rfl
theorem c157_34 : mcode 157 34 = some (.iastore, 1, 0, 0, 0) := rfl
theorem r157_34 : Rn 157 (34, [x0, x1, x2, x3], .int j :: .int i :: .ref q :: st, a, h) = Kh 157 35 [x0, x1, x2, x3] st a (mias h q i j) := Rn_iast c157_34 rfl
theorem c157_35 : mcode 157 35 = some (.aload_n 0, 1, 0, 0, 0) := rfl
theorem r157_35 : Rn 157 (35, [some (.ref q), x1, x2, x3], st, a, h) = Rn 157 (36, [some (.ref q), x1, x2, x3], .ref q :: st, a, h) := Rn_go c157_35 rfl
theorem c157_36 : mcode 157 36 = some (.getfield 7, 3, 6, 0, 0) := rfl
theorem r157_36 : Rn 157 (36, [x0, x1, x2, x3], .ref q :: st, a, h) = Kv 157 39 [x0, x1, x2, x3] st a h (mgf h q 6 0) := Rn_getf c157_36 rfl
theorem c157_39 : mcode 157 39 = some (.iload_n 1, 1, 0, 0, 0) := rfl
theorem r157_39 : Rn 157 (39, [x0, some (.int i), x2, x3], st, a, h) = Rn 157 (40, [x0, some (.int i), x2, x3], .int i :: st, a, h) := Rn_go c157_39 rfl
theorem c157_40 : mcode 157 40 = some (.iconst 5, 1, 0, 0, 0) := rfl
theorem r157_40 : Rn 157 (40, [x0, x1, x2, x3], st, a, h) = Rn 157 (41, [x0, x1, x2, x3], .int (5 : Int32) :: st, a, h) := Rn_go c157_40 rfl
theorem c157_41 : mcode 157 41 = some (.invokestatic 79, 3, 131, 2, 0) := rfl
theorem r157_41 : Rn 157 (41, [x0, x1, x2, x3], [v1, v0, .ref q0], a, h) = Bk 157 44 [x0, x1, x2, x3] [.ref q0] (Ec 131 [v0, v1] a h) := Rn_call0 c157_41 (fun z => nomatch z) rfl (Nat.le_of_ble_eq_true rfl) rfl rfl (Nat.le_of_ble_eq_true rfl)
theorem c157_44 : mcode 157 44 = some (.iload_n 2, 1, 0, 0, 0) := rfl
theorem r157_44 : Rn 157 (44, [x0, x1, some (.int i), x3], st, a, h) = Rn 157 (45, [x0, x1, some (.int i), x3], .int i :: st, a, h) := Rn_go c157_44 rfl
theorem c157_45 : mcode 157 45 = some (.ifCond .le 24, 3, 0, 0, 0) := rfl
theorem r157_45 : Rn 157 (45, [x0, x1, x2, x3], .int i :: st, a, h) = if 0 < i then Rn 157 (48, [x0, x1, x2, x3], st, a, h) else Rn 157 (69, [x0, x1, x2, x3], st, a, h) := Rn_ifcn c157_45 mc_le rfl rfl
theorem c157_48 : mcode 157 48 = some (.iload_n 3, 1, 0, 0, 0) := rfl
theorem r157_48 : Rn 157 (48, [x0, x1, x2, some (.int i)], st, a, h) = Rn 157 (49, [x0, x1, x2, some (.int i)], .int i :: st, a, h) := Rn_go c157_48 rfl
theorem c157_49 : mcode 157 49 = some (.ifCond .ne 20, 3, 0, 0, 0) := rfl
theorem r157_49 : Rn 157 (49, [x0, x1, x2, x3], .int i :: st, a, h) = if i = 0 then Rn 157 (52, [x0, x1, x2, x3], st, a, h) else Rn 157 (69, [x0, x1, x2, x3], st, a, h) := Rn_ifcn c157_49 mc_ne rfl rfl
theorem c157_52 : mcode 157 52 = some (.sipush 999, 3, 0, 0, 0) := rfl
theorem r157_52 : Rn 157 (52, [x0, x1, x2, x3], st, a, h) = Rn 157 (55, [x0, x1, x2, x3], .int (999 : Int32) :: st, a, h) := Rn_go c157_52 rfl
theorem c157_55 : mcode 157 55 = some (.aload_n 0, 1, 0, 0, 0) := rfl
theorem r157_55 : Rn 157 (55, [some (.ref q), x1, x2, x3], st, a, h) = Rn 157 (56, [some (.ref q), x1, x2, x3], .ref q :: st, a, h) := Rn_go c157_55 rfl
theorem c157_56 : mcode 157 56 = some (.iload_n 1, 1, 0, 0, 0) := rfl
theorem r157_56 : Rn 157 (56, [x0, some (.int i), x2, x3], st, a, h) = Rn 157 (57, [x0, some (.int i), x2, x3], .int i :: st, a, h) := Rn_go c157_56 rfl
theorem c157_57 : mcode 157 57 = some (.iconst 5, 1, 0, 0, 0) := rfl
theorem r157_57 : Rn 157 (57, [x0, x1, x2, x3], st, a, h) = Rn 157 (58, [x0, x1, x2, x3], .int (5 : Int32) :: st, a, h) := Rn_go c157_57 rfl
theorem c157_58 : mcode 157 58 = some (.invokevirtual 63, 3, 132, 2, 6) := rfl
theorem r157_58 : Rn 157 (58, [x0, x1, x2, x3], [v1, v0, .ref q, .int i0, .int i1, .ref q2], a, h) = if mis h q 6 = true then Bk 157 61 [x0, x1, x2, x3] [.int i0, .int i1, .ref q2] (Ec 132 [.ref q, v0, v1] a h) else none := Rn_call1 c157_58 rfl (Nat.le_of_ble_eq_true rfl) rfl rfl (Nat.le_of_ble_eq_true rfl)
theorem c157_61 : mcode 157 61 = some (.iconst 1, 1, 0, 0, 0) := rfl
theorem r157_61 : Rn 157 (61, [x0, x1, x2, x3], st, a, h) = Rn 157 (62, [x0, x1, x2, x3], .int (1 : Int32) :: st, a, h) := Rn_go c157_61 rfl
theorem c157_62 : mcode 157 62 = some (.iadd, 1, 0, 0, 0) := rfl
theorem r157_62 : Rn 157 (62, [x0, x1, x2, x3], .int j :: .int i :: st, a, h) = Rn 157 (63, [x0, x1, x2, x3], .int (i + j) :: st, a, h) := Rn_go c157_62 rfl
theorem c157_63 : mcode 157 63 = some (.invokestatic 95, 3, 134, 2, 0) := rfl
theorem r157_63 : Rn 157 (63, [x0, x1, x2, x3], [v1, v0, .int i0, .ref q1], a, h) = Bk 157 66 [x0, x1, x2, x3] [.int i0, .ref q1] (Ec 134 [v0, v1] a h) := Rn_call0 c157_63 (fun z => nomatch z) rfl (Nat.le_of_ble_eq_true rfl) rfl rfl (Nat.le_of_ble_eq_true rfl)
theorem c157_66 : mcode 157 66 = some (.goto 9, 3, 0, 0, 0) := rfl
theorem r157_66 : Rn 157 (66, [x0, x1, x2, x3], st, a, h) = Rn 157 (75, [x0, x1, x2, x3], st, a, h) := Rn_goto c157_66 rfl
theorem c157_69 : mcode 157 69 = some (.aload_n 0, 1, 0, 0, 0) := rfl
theorem r157_69 : Rn 157 (69, [some (.ref q), x1, x2, x3], st, a, h) = Rn 157 (70, [some (.ref q), x1, x2, x3], .ref q :: st, a, h) := Rn_go c157_69 rfl
theorem c157_70 : mcode 157 70 = some (.iload_n 1, 1, 0, 0, 0) := rfl
theorem r157_70 : Rn 157 (70, [x0, some (.int i), x2, x3], st, a, h) = Rn 157 (71, [x0, some (.int i), x2, x3], .int i :: st, a, h) := Rn_go c157_70 rfl
theorem c157_71 : mcode 157 71 = some (.iconst 5, 1, 0, 0, 0) := rfl
theorem r157_71 : Rn 157 (71, [x0, x1, x2, x3], st, a, h) = Rn 157 (72, [x0, x1, x2, x3], .int (5 : Int32) :: st, a, h) := Rn_go c157_71 rfl
theorem c157_72 : mcode 157 72 = some (.invokevirtual 63, 3, 132, 2, 6) := rfl
theorem r157_72 : Rn 157 (72, [x0, x1, x2, x3], [v1, v0, .ref q, .int i0, .ref q1], a, h) = if mis h q 6 = true then Bk 157 75 [x0, x1, x2, x3] [.int i0, .ref q1] (Ec 132 [.ref q, v0, v1] a h) else none := Rn_call1 c157_72 rfl (Nat.le_of_ble_eq_true rfl) rfl rfl (Nat.le_of_ble_eq_true rfl)
theorem c157_75 : mcode 157 75 = some (.iastore, 1, 0, 0, 0) := rfl
theorem r157_75 : Rn 157 (75, [x0, x1, x2, x3], .int j :: .int i :: .ref q :: st, a, h) = Kh 157 76 [x0, x1, x2, x3] st a (mias h q i j) := Rn_iast c157_75 rfl
theorem c157_76 : mcode 157 76 = some (.aload_n 0, 1, 0, 0, 0) := rfl
theorem r157_76 : Rn 157 (76, [some (.ref q), x1, x2, x3], st, a, h) = Rn 157 (77, [some (.ref q), x1, x2, x3], .ref q :: st, a, h) := Rn_go c157_76 rfl
theorem c157_77 : mcode 157 77 = some (.getfield 7, 3, 6, 0, 0) := rfl
theorem r157_77 : Rn 157 (77, [x0, x1, x2, x3], .ref q :: st, a, h) = Kv 157 80 [x0, x1, x2, x3] st a h (mgf h q 6 0) := Rn_getf c157_77 rfl
theorem c157_80 : mcode 157 80 = some (.iload_n 1, 1, 0, 0, 0) := rfl
theorem r157_80 : Rn 157 (80, [x0, some (.int i), x2, x3], st, a, h) = Rn 157 (81, [x0, some (.int i), x2, x3], .int i :: st, a, h) := Rn_go c157_80 rfl
theorem c157_81 : mcode 157 81 = some (.iconst 4, 1, 0, 0, 0) := rfl
theorem r157_81 : Rn 157 (81, [x0, x1, x2, x3], st, a, h) = Rn 157 (82, [x0, x1, x2, x3], .int (4 : Int32) :: st, a, h) := Rn_go c157_81 rfl
theorem c157_82 : mcode 157 82 = some (.invokestatic 79, 3, 131, 2, 0) := rfl
theorem r157_82 : Rn 157 (82, [x0, x1, x2, x3], [v1, v0, .ref q0], a, h) = Bk 157 85 [x0, x1, x2, x3] [.ref q0] (Ec 131 [v0, v1] a h) := Rn_call0 c157_82 (fun z => nomatch z) rfl (Nat.le_of_ble_eq_true rfl) rfl rfl (Nat.le_of_ble_eq_true rfl)
theorem c157_85 : mcode 157 85 = some (.sipush 999, 3, 0, 0, 0) := rfl
theorem r157_85 : Rn 157 (85, [x0, x1, x2, x3], st, a, h) = Rn 157 (88, [x0, x1, x2, x3], .int (999 : Int32) :: st, a, h) := Rn_go c157_85 rfl
theorem c157_88 : mcode 157 88 = some (.aload_n 0, 1, 0, 0, 0) := rfl
theorem r157_88 : Rn 157 (88, [some (.ref q), x1, x2, x3], st, a, h) = Rn 157 (89, [some (.ref q), x1, x2, x3], .ref q :: st, a, h) := Rn_go c157_88 rfl
theorem c157_89 : mcode 157 89 = some (.iload_n 1, 1, 0, 0, 0) := rfl
theorem r157_89 : Rn 157 (89, [x0, some (.int i), x2, x3], st, a, h) = Rn 157 (90, [x0, some (.int i), x2, x3], .int i :: st, a, h) := Rn_go c157_89 rfl
theorem c157_90 : mcode 157 90 = some (.iconst 4, 1, 0, 0, 0) := rfl
theorem r157_90 : Rn 157 (90, [x0, x1, x2, x3], st, a, h) = Rn 157 (91, [x0, x1, x2, x3], .int (4 : Int32) :: st, a, h) := Rn_go c157_90 rfl
theorem c157_91 : mcode 157 91 = some (.invokevirtual 63, 3, 132, 2, 6) := rfl
theorem r157_91 : Rn 157 (91, [x0, x1, x2, x3], [v1, v0, .ref q, .int i0, .int i1, .ref q2], a, h) = if mis h q 6 = true then Bk 157 94 [x0, x1, x2, x3] [.int i0, .int i1, .ref q2] (Ec 132 [.ref q, v0, v1] a h) else none := Rn_call1 c157_91 rfl (Nat.le_of_ble_eq_true rfl) rfl rfl (Nat.le_of_ble_eq_true rfl)
theorem c157_94 : mcode 157 94 = some (.iconst 1, 1, 0, 0, 0) := rfl
theorem r157_94 : Rn 157 (94, [x0, x1, x2, x3], st, a, h) = Rn 157 (95, [x0, x1, x2, x3], .int (1 : Int32) :: st, a, h) := Rn_go c157_94 rfl
theorem c157_95 : mcode 157 95 = some (.iadd, 1, 0, 0, 0) := rfl
theorem r157_95 : Rn 157 (95, [x0, x1, x2, x3], .int j :: .int i :: st, a, h) = Rn 157 (96, [x0, x1, x2, x3], .int (i + j) :: st, a, h) := Rn_go c157_95 rfl
theorem c157_96 : mcode 157 96 = some (.invokestatic 95, 3, 134, 2, 0) := rfl
theorem r157_96 : Rn 157 (96, [x0, x1, x2, x3], [v1, v0, .int i0, .ref q1], a, h) = Bk 157 99 [x0, x1, x2, x3] [.int i0, .ref q1] (Ec 134 [v0, v1] a h) := Rn_call0 c157_96 (fun z => nomatch z) rfl (Nat.le_of_ble_eq_true rfl) rfl rfl (Nat.le_of_ble_eq_true rfl)
theorem c157_99 : mcode 157 99 = some (.iastore, 1, 0, 0, 0) := rfl
theorem r157_99 : Rn 157 (99, [x0, x1, x2, x3], .int j :: .int i :: .ref q :: st, a, h) = Kh 157 100 [x0, x1, x2, x3] st a (mias h q i j) := Rn_iast c157_99 rfl
theorem c157_100 : mcode 157 100 = some (.return_, 1, 0, 0, 0) := rfl
theorem r157_100 : Rn 157 (100, [x0, x1, x2, x3], [], a, h) = some (none, a, h) := Rn_act c157_100
theorem c158_0 : mcode 158 0 = some (.iconst 0, 1, 0, 0, 0) := rfl
theorem r158_0 : Rn 158 (0, [x0, x1, x2], st, a, h) = Rn 158 (1, [x0, x1, x2], .int (0 : Int32) :: st, a, h) := Rn_go c158_0 rfl
theorem c158_1 : mcode 158 1 = some (.istore_n 2, 1, 0, 0, 0) := rfl
theorem r158_1 : Rn 158 (1, [x0, x1, x2], .int i :: st, a, h) = Nl x1 (Rn 158 (2, [x0, x1, some (.int i)], st, a, h)) := Rn_st1 (k := 2) (v := .int i) x1 c158_1 rfl rfl rfl rfl
theorem c158_2 : mcode 158 2 = some (.iload_n 2, 1, 0, 0, 0) := rfl
theorem r158_2 : Rn 158 (2, [x0, x1, some (.int i)], st, a, h) = Rn 158 (3, [x0, x1, some (.int i)], .int i :: st, a, h) := Rn_go c158_2 rfl
theorem c158_3 : mcode 158 3 = some (.aload_n 0, 1, 0, 0, 0) := rfl
theorem r158_3 : Rn 158 (3, [some (.ref q), x1, x2], st, a, h) = Rn 158 (4, [some (.ref q), x1, x2], .ref q :: st, a, h) := Rn_go c158_3 rfl
theorem c158_4 : mcode 158 4 = some (.getfield 7, 3, 6, 0, 0) := rfl
theorem r158_4 : Rn 158 (4, [x0, x1, x2], .ref q :: st, a, h) = Kv 158 7 [x0, x1, x2] st a h (mgf h q 6 0) := Rn_getf c158_4 rfl
theorem c158_7 : mcode 158 7 = some (.iconst 0, 1, 0, 0, 0) := rfl
theorem r158_7 : Rn 158 (7, [x0, x1, x2], st, a, h) = Rn 158 (8, [x0, x1, x2], .int (0 : Int32) :: st, a, h) := Rn_go c158_7 rfl
theorem c158_8 : mcode 158 8 = some (.iaload, 1, 0, 0, 0) := rfl
theorem r158_8 : Rn 158 (8, [x0, x1, x2], .int i :: .ref q :: st, a, h) = Ki 158 9 [x0, x1, x2] st a h (mld h q i false) := Rn_iald c158_8 rfl
theorem c158_9 : mcode 158 9 = some (.if_icmp .ge 22, 3, 0, 0, 0) := rfl
theorem r158_9 : Rn 158 (9, [x0, x1, x2], .int j :: .int i :: st, a, h) = if i < j then Rn 158 (12, [x0, x1, x2], st, a, h) else Rn 158 (31, [x0, x1, x2], st, a, h) := Rn_icmpn c158_9 mc_ge rfl rfl
theorem c158_12 : mcode 158 12 = some (.iload_n 1, 1, 0, 0, 0) := rfl
theorem r158_12 : Rn 158 (12, [x0, some (.int i), x2], st, a, h) = Rn 158 (13, [x0, some (.int i), x2], .int i :: st, a, h) := Rn_go c158_12 rfl
theorem c158_13 : mcode 158 13 = some (.iload_n 2, 1, 0, 0, 0) := rfl
theorem r158_13 : Rn 158 (13, [x0, x1, some (.int i)], st, a, h) = Rn 158 (14, [x0, x1, some (.int i)], .int i :: st, a, h) := Rn_go c158_13 rfl
theorem c158_14 : mcode 158 14 = some (.ishr, 1, 0, 0, 0) := rfl
theorem r158_14 : Rn 158 (14, [x0, x1, x2], .int j :: .int i :: st, a, h) = Rn 158 (15, [x0, x1, x2], .int (i >>> (j &&& 31)) :: st, a, h) := Rn_go c158_14 rfl
theorem c158_15 : mcode 158 15 = some (.iconst 1, 1, 0, 0, 0) := rfl
theorem r158_15 : Rn 158 (15, [x0, x1, x2], st, a, h) = Rn 158 (16, [x0, x1, x2], .int (1 : Int32) :: st, a, h) := Rn_go c158_15 rfl
theorem c158_16 : mcode 158 16 = some (.iand, 1, 0, 0, 0) := rfl
theorem r158_16 : Rn 158 (16, [x0, x1, x2], .int j :: .int i :: st, a, h) = Rn 158 (17, [x0, x1, x2], .int (i &&& j) :: st, a, h) := Rn_go c158_16 rfl
theorem c158_17 : mcode 158 17 = some (.ifCond .ne 8, 3, 0, 0, 0) := rfl
theorem r158_17 : Rn 158 (17, [x0, x1, x2], .int i :: st, a, h) = if i = 0 then Rn 158 (20, [x0, x1, x2], st, a, h) else Rn 158 (25, [x0, x1, x2], st, a, h) := Rn_ifcn c158_17 mc_ne rfl rfl
theorem c158_20 : mcode 158 20 = some (.aload_n 0, 1, 0, 0, 0) := rfl
theorem r158_20 : Rn 158 (20, [some (.ref q), x1, x2], st, a, h) = Rn 158 (21, [some (.ref q), x1, x2], .ref q :: st, a, h) := Rn_go c158_20 rfl
theorem c158_21 : mcode 158 21 = some (.iload_n 2, 1, 0, 0, 0) := rfl
theorem r158_21 : Rn 158 (21, [x0, x1, some (.int i)], st, a, h) = Rn 158 (22, [x0, x1, some (.int i)], .int i :: st, a, h) := Rn_go c158_21 rfl
theorem c158_22 : mcode 158 22 = some (.invokevirtual 118, 3, 154, 1, 6) := rfl
theorem r158_22 : Rn 158 (22, [x0, x1, x2], [v0, .ref q], a, h) = if mis h q 6 = true then Bk 158 25 [x0, x1, x2] [] (Ec 154 [.ref q, v0] a h) else none := Rn_call1 c158_22 rfl (Nat.le_of_ble_eq_true rfl) rfl rfl (Nat.le_of_ble_eq_true rfl)
theorem c158_25 : mcode 158 25 = some (.iinc 2 1, 3, 0, 0, 0) := rfl
theorem r158_25 : Rn 158 (25, [x0, x1, some (.int i)], st, a, h) = Nl x1 (Rn 158 (28, [x0, x1, some (.int (i + (1 : Int32)))], st, a, h)) := Rn_st1 (k := 2) (v := .int (i + (1 : Int32))) x1 c158_25 rfl rfl rfl rfl
theorem c158_28 : mcode 158 28 = some (.goto (-26), 3, 0, 0, 0) := rfl
theorem r158_28 : Rn 158 (28, [x0, x1, x2], st, a, h) = Rn 158 (2, [x0, x1, x2], st, a, h) := Rn_goto c158_28 rfl
theorem c158_31 : mcode 158 31 = some (.aload_n 0, 1, 0, 0, 0) := rfl
theorem r158_31 : Rn 158 (31, [some (.ref q), x1, x2], st, a, h) = Rn 158 (32, [some (.ref q), x1, x2], .ref q :: st, a, h) := Rn_go c158_31 rfl
theorem c158_32 : mcode 158 32 = some (.invokevirtual 122, 3, 155, 0, 6) := rfl
theorem r158_32 : Rn 158 (32, [x0, x1, x2], [.ref q], a, h) = if mis h q 6 = true then Bk 158 35 [x0, x1, x2] [] (Ec 155 [.ref q] a h) else none := Rn_call1 c158_32 rfl (Nat.le_of_ble_eq_true rfl) rfl rfl (Nat.le_of_ble_eq_true rfl)
theorem c158_35 : mcode 158 35 = some (.iconst 0, 1, 0, 0, 0) := rfl
theorem r158_35 : Rn 158 (35, [x0, x1, x2], st, a, h) = Rn 158 (36, [x0, x1, x2], .int (0 : Int32) :: st, a, h) := Rn_go c158_35 rfl
theorem c158_36 : mcode 158 36 = some (.istore_n 2, 1, 0, 0, 0) := rfl
theorem r158_36 : Rn 158 (36, [x0, x1, x2], .int i :: st, a, h) = Nl x1 (Rn 158 (37, [x0, x1, some (.int i)], st, a, h)) := Rn_st1 (k := 2) (v := .int i) x1 c158_36 rfl rfl rfl rfl
theorem c158_37 : mcode 158 37 = some (.iload_n 2, 1, 0, 0, 0) := rfl
theorem r158_37 : Rn 158 (37, [x0, x1, some (.int i)], st, a, h) = Rn 158 (38, [x0, x1, some (.int i)], .int i :: st, a, h) := Rn_go c158_37 rfl
theorem c158_38 : mcode 158 38 = some (.aload_n 0, 1, 0, 0, 0) := rfl
theorem r158_38 : Rn 158 (38, [some (.ref q), x1, x2], st, a, h) = Rn 158 (39, [some (.ref q), x1, x2], .ref q :: st, a, h) := Rn_go c158_38 rfl
theorem c158_39 : mcode 158 39 = some (.getfield 7, 3, 6, 0, 0) := rfl
theorem r158_39 : Rn 158 (39, [x0, x1, x2], .ref q :: st, a, h) = Kv 158 42 [x0, x1, x2] st a h (mgf h q 6 0) := Rn_getf c158_39 rfl
theorem c158_42 : mcode 158 42 = some (.iconst 0, 1, 0, 0, 0) := rfl
theorem r158_42 : Rn 158 (42, [x0, x1, x2], st, a, h) = Rn 158 (43, [x0, x1, x2], .int (0 : Int32) :: st, a, h) := Rn_go c158_42 rfl
theorem c158_43 : mcode 158 43 = some (.iaload, 1, 0, 0, 0) := rfl
theorem r158_43 : Rn 158 (43, [x0, x1, x2], .int i :: .ref q :: st, a, h) = Ki 158 44 [x0, x1, x2] st a h (mld h q i false) := Rn_iald c158_43 rfl
theorem c158_44 : mcode 158 44 = some (.if_icmp .ge 14, 3, 0, 0, 0) := rfl
theorem r158_44 : Rn 158 (44, [x0, x1, x2], .int j :: .int i :: st, a, h) = if i < j then Rn 158 (47, [x0, x1, x2], st, a, h) else Rn 158 (58, [x0, x1, x2], st, a, h) := Rn_icmpn c158_44 mc_ge rfl rfl
theorem c158_47 : mcode 158 47 = some (.aload_n 0, 1, 0, 0, 0) := rfl
theorem r158_47 : Rn 158 (47, [some (.ref q), x1, x2], st, a, h) = Rn 158 (48, [some (.ref q), x1, x2], .ref q :: st, a, h) := Rn_go c158_47 rfl
theorem c158_48 : mcode 158 48 = some (.iload_n 2, 1, 0, 0, 0) := rfl
theorem r158_48 : Rn 158 (48, [x0, x1, some (.int i)], st, a, h) = Rn 158 (49, [x0, x1, some (.int i)], .int i :: st, a, h) := Rn_go c158_48 rfl
theorem c158_49 : mcode 158 49 = some (.invokevirtual 125, 3, 156, 1, 6) := rfl
theorem r158_49 : Rn 158 (49, [x0, x1, x2], [v0, .ref q], a, h) = if mis h q 6 = true then Bk 158 52 [x0, x1, x2] [] (Ec 156 [.ref q, v0] a h) else none := Rn_call1 c158_49 rfl (Nat.le_of_ble_eq_true rfl) rfl rfl (Nat.le_of_ble_eq_true rfl)
theorem c158_52 : mcode 158 52 = some (.iinc 2 1, 3, 0, 0, 0) := rfl
theorem r158_52 : Rn 158 (52, [x0, x1, some (.int i)], st, a, h) = Nl x1 (Rn 158 (55, [x0, x1, some (.int (i + (1 : Int32)))], st, a, h)) := Rn_st1 (k := 2) (v := .int (i + (1 : Int32))) x1 c158_52 rfl rfl rfl rfl
theorem c158_55 : mcode 158 55 = some (.goto (-18), 3, 0, 0, 0) := rfl
theorem r158_55 : Rn 158 (55, [x0, x1, x2], st, a, h) = Rn 158 (37, [x0, x1, x2], st, a, h) := Rn_goto c158_55 rfl
theorem c158_58 : mcode 158 58 = some (.iconst 0, 1, 0, 0, 0) := rfl
theorem r158_58 : Rn 158 (58, [x0, x1, x2], st, a, h) = Rn 158 (59, [x0, x1, x2], .int (0 : Int32) :: st, a, h) := Rn_go c158_58 rfl
theorem c158_59 : mcode 158 59 = some (.istore_n 2, 1, 0, 0, 0) := rfl
theorem r158_59 : Rn 158 (59, [x0, x1, x2], .int i :: st, a, h) = Nl x1 (Rn 158 (60, [x0, x1, some (.int i)], st, a, h)) := Rn_st1 (k := 2) (v := .int i) x1 c158_59 rfl rfl rfl rfl
theorem c158_60 : mcode 158 60 = some (.iload_n 2, 1, 0, 0, 0) := rfl
theorem r158_60 : Rn 158 (60, [x0, x1, some (.int i)], st, a, h) = Rn 158 (61, [x0, x1, some (.int i)], .int i :: st, a, h) := Rn_go c158_60 rfl
theorem c158_61 : mcode 158 61 = some (.aload_n 0, 1, 0, 0, 0) := rfl
theorem r158_61 : Rn 158 (61, [some (.ref q), x1, x2], st, a, h) = Rn 158 (62, [some (.ref q), x1, x2], .ref q :: st, a, h) := Rn_go c158_61 rfl
theorem c158_62 : mcode 158 62 = some (.getfield 7, 3, 6, 0, 0) := rfl
theorem r158_62 : Rn 158 (62, [x0, x1, x2], .ref q :: st, a, h) = Kv 158 65 [x0, x1, x2] st a h (mgf h q 6 0) := Rn_getf c158_62 rfl
theorem c158_65 : mcode 158 65 = some (.iconst 0, 1, 0, 0, 0) := rfl
theorem r158_65 : Rn 158 (65, [x0, x1, x2], st, a, h) = Rn 158 (66, [x0, x1, x2], .int (0 : Int32) :: st, a, h) := Rn_go c158_65 rfl
theorem c158_66 : mcode 158 66 = some (.iaload, 1, 0, 0, 0) := rfl
theorem r158_66 : Rn 158 (66, [x0, x1, x2], .int i :: .ref q :: st, a, h) = Ki 158 67 [x0, x1, x2] st a h (mld h q i false) := Rn_iald c158_66 rfl
theorem c158_67 : mcode 158 67 = some (.if_icmp .ge 14, 3, 0, 0, 0) := rfl
theorem r158_67 : Rn 158 (67, [x0, x1, x2], .int j :: .int i :: st, a, h) = if i < j then Rn 158 (70, [x0, x1, x2], st, a, h) else Rn 158 (81, [x0, x1, x2], st, a, h) := Rn_icmpn c158_67 mc_ge rfl rfl
theorem c158_70 : mcode 158 70 = some (.aload_n 0, 1, 0, 0, 0) := rfl
theorem r158_70 : Rn 158 (70, [some (.ref q), x1, x2], st, a, h) = Rn 158 (71, [some (.ref q), x1, x2], .ref q :: st, a, h) := Rn_go c158_70 rfl
theorem c158_71 : mcode 158 71 = some (.iload_n 2, 1, 0, 0, 0) := rfl
theorem r158_71 : Rn 158 (71, [x0, x1, some (.int i)], st, a, h) = Rn 158 (72, [x0, x1, some (.int i)], .int i :: st, a, h) := Rn_go c158_71 rfl
theorem c158_72 : mcode 158 72 = some (.invokevirtual 128, 3, 157, 1, 6) := rfl
theorem r158_72 : Rn 158 (72, [x0, x1, x2], [v0, .ref q], a, h) = if mis h q 6 = true then Bk 158 75 [x0, x1, x2] [] (Ec 157 [.ref q, v0] a h) else none := Rn_call1 c158_72 rfl (Nat.le_of_ble_eq_true rfl) rfl rfl (Nat.le_of_ble_eq_true rfl)
theorem c158_75 : mcode 158 75 = some (.iinc 2 1, 3, 0, 0, 0) := rfl
theorem r158_75 : Rn 158 (75, [x0, x1, some (.int i)], st, a, h) = Nl x1 (Rn 158 (78, [x0, x1, some (.int (i + (1 : Int32)))], st, a, h)) := Rn_st1 (k := 2) (v := .int (i + (1 : Int32))) x1 c158_75 rfl rfl rfl rfl
theorem c158_78 : mcode 158 78 = some (.goto (-18), 3, 0, 0, 0) := rfl
theorem r158_78 : Rn 158 (78, [x0, x1, x2], st, a, h) = Rn 158 (60, [x0, x1, x2], st, a, h) := Rn_goto c158_78 rfl
theorem c158_81 : mcode 158 81 = some (.aload_n 0, 1, 0, 0, 0) := rfl
theorem r158_81 : Rn 158 (81, [some (.ref q), x1, x2], st, a, h) = Rn 158 (82, [some (.ref q), x1, x2], .ref q :: st, a, h) := Rn_go c158_81 rfl
theorem c158_82 : mcode 158 82 = some (.getfield 7, 3, 6, 0, 0) := rfl
theorem r158_82 : Rn 158 (82, [x0, x1, x2], .ref q :: st, a, h) = Kv 158 85 [x0, x1, x2] st a h (mgf h q 6 0) := Rn_getf c158_82 rfl
theorem c158_85 : mcode 158 85 = some (.iconst 1, 1, 0, 0, 0) := rfl
theorem r158_85 : Rn 158 (85, [x0, x1, x2], st, a, h) = Rn 158 (86, [x0, x1, x2], .int (1 : Int32) :: st, a, h) := Rn_go c158_85 rfl
theorem c158_86 : mcode 158 86 = some (.dup2, 1, 0, 0, 0) := rfl
theorem r158_86 : Rn 158 (86, [x0, x1, x2], .int i :: .ref p :: st, a, h) = Rn 158 (87, [x0, x1, x2], .int i :: .ref p :: .int i :: .ref p :: st, a, h) := Rn_go c158_86 rfl
theorem c158_87 : mcode 158 87 = some (.iaload, 1, 0, 0, 0) := rfl
theorem r158_87 : Rn 158 (87, [x0, x1, x2], .int i :: .ref q :: st, a, h) = Ki 158 88 [x0, x1, x2] st a h (mld h q i false) := Rn_iald c158_87 rfl
theorem c158_88 : mcode 158 88 = some (.iconst 1, 1, 0, 0, 0) := rfl
theorem r158_88 : Rn 158 (88, [x0, x1, x2], st, a, h) = Rn 158 (89, [x0, x1, x2], .int (1 : Int32) :: st, a, h) := Rn_go c158_88 rfl
theorem c158_89 : mcode 158 89 = some (.iadd, 1, 0, 0, 0) := rfl
theorem r158_89 : Rn 158 (89, [x0, x1, x2], .int j :: .int i :: st, a, h) = Rn 158 (90, [x0, x1, x2], .int (i + j) :: st, a, h) := Rn_go c158_89 rfl
theorem c158_90 : mcode 158 90 = some (.iastore, 1, 0, 0, 0) := rfl
theorem r158_90 : Rn 158 (90, [x0, x1, x2], .int j :: .int i :: .ref q :: st, a, h) = Kh 158 91 [x0, x1, x2] st a (mias h q i j) := Rn_iast c158_90 rfl
theorem c158_91 : mcode 158 91 = some (.return_, 1, 0, 0, 0) := rfl
theorem r158_91 : Rn 158 (91, [x0, x1, x2], [], a, h) = some (none, a, h) := Rn_act c158_91
theorem c159_0 : mcode 159 0 = some (.iconst 0, 1, 0, 0, 0) := rfl
theorem r159_0 : Rn 159 (0, [x0, x1, x2], st, a, h) = Rn 159 (1, [x0, x1, x2], .int (0 : Int32) :: st, a, h) := Rn_go c159_0 rfl
theorem c159_1 : mcode 159 1 = some (.istore_n 2, 1, 0, 0, 0) := rfl
theorem r159_1 : Rn 159 (1, [x0, x1, x2], .int i :: st, a, h) = Nl x1 (Rn 159 (2, [x0, x1, some (.int i)], st, a, h)) := Rn_st1 (k := 2) (v := .int i) x1 c159_1 rfl rfl rfl rfl
theorem c159_2 : mcode 159 2 = some (.iload_n 2, 1, 0, 0, 0) := rfl
theorem r159_2 : Rn 159 (2, [x0, x1, some (.int i)], st, a, h) = Rn 159 (3, [x0, x1, some (.int i)], .int i :: st, a, h) := Rn_go c159_2 rfl
theorem c159_3 : mcode 159 3 = some (.iload_n 1, 1, 0, 0, 0) := rfl
theorem r159_3 : Rn 159 (3, [x0, some (.int i), x2], st, a, h) = Rn 159 (4, [x0, some (.int i), x2], .int i :: st, a, h) := Rn_go c159_3 rfl
theorem c159_4 : mcode 159 4 = some (.if_icmp .ge 14, 3, 0, 0, 0) := rfl
theorem r159_4 : Rn 159 (4, [x0, x1, x2], .int j :: .int i :: st, a, h) = if i < j then Rn 159 (7, [x0, x1, x2], st, a, h) else Rn 159 (18, [x0, x1, x2], st, a, h) := Rn_icmpn c159_4 mc_ge rfl rfl
theorem c159_7 : mcode 159 7 = some (.aload_n 0, 1, 0, 0, 0) := rfl
theorem r159_7 : Rn 159 (7, [some (.ref q), x1, x2], st, a, h) = Rn 159 (8, [some (.ref q), x1, x2], .ref q :: st, a, h) := Rn_go c159_7 rfl
theorem c159_8 : mcode 159 8 = some (.iconst 0, 1, 0, 0, 0) := rfl
theorem r159_8 : Rn 159 (8, [x0, x1, x2], st, a, h) = Rn 159 (9, [x0, x1, x2], .int (0 : Int32) :: st, a, h) := Rn_go c159_8 rfl
theorem c159_9 : mcode 159 9 = some (.invokevirtual 131, 3, 158, 1, 6) := rfl
theorem r159_9 : Rn 159 (9, [x0, x1, x2], [v0, .ref q], a, h) = if mis h q 6 = true then Bk 159 12 [x0, x1, x2] [] (Ec 158 [.ref q, v0] a h) else none := Rn_call1 c159_9 rfl (Nat.le_of_ble_eq_true rfl) rfl rfl (Nat.le_of_ble_eq_true rfl)
theorem c159_12 : mcode 159 12 = some (.iinc 2 1, 3, 0, 0, 0) := rfl
theorem r159_12 : Rn 159 (12, [x0, x1, some (.int i)], st, a, h) = Nl x1 (Rn 159 (15, [x0, x1, some (.int (i + (1 : Int32)))], st, a, h)) := Rn_st1 (k := 2) (v := .int (i + (1 : Int32))) x1 c159_12 rfl rfl rfl rfl
theorem c159_15 : mcode 159 15 = some (.goto (-13), 3, 0, 0, 0) := rfl
theorem r159_15 : Rn 159 (15, [x0, x1, x2], st, a, h) = Rn 159 (2, [x0, x1, x2], st, a, h) := Rn_goto c159_15 rfl
theorem c159_18 : mcode 159 18 = some (.return_, 1, 0, 0, 0) := rfl
theorem r159_18 : Rn 159 (18, [x0, x1, x2], [], a, h) = some (none, a, h) := Rn_act c159_18
theorem c160_0 : mcode 160 0 = some (.iconst 0, 1, 0, 0, 0) := rfl
theorem r160_0 : Rn 160 (0, [x0, x1, x2], st, a, h) = Rn 160 (1, [x0, x1, x2], .int (0 : Int32) :: st, a, h) := Rn_go c160_0 rfl
theorem c160_1 : mcode 160 1 = some (.istore_n 1, 1, 0, 0, 0) := rfl
theorem r160_1 : Rn 160 (1, [x0, x1, x2], .int i :: st, a, h) = Nl x0 (Rn 160 (2, [x0, some (.int i), x2], st, a, h)) := Rn_st1 (k := 1) (v := .int i) x0 c160_1 rfl rfl rfl rfl
theorem c160_2 : mcode 160 2 = some (.iconst 0, 1, 0, 0, 0) := rfl
theorem r160_2 : Rn 160 (2, [x0, x1, x2], st, a, h) = Rn 160 (3, [x0, x1, x2], .int (0 : Int32) :: st, a, h) := Rn_go c160_2 rfl
theorem c160_3 : mcode 160 3 = some (.istore_n 2, 1, 0, 0, 0) := rfl
theorem r160_3 : Rn 160 (3, [x0, x1, x2], .int i :: st, a, h) = Nl x1 (Rn 160 (4, [x0, x1, some (.int i)], st, a, h)) := Rn_st1 (k := 2) (v := .int i) x1 c160_3 rfl rfl rfl rfl
theorem c160_4 : mcode 160 4 = some (.iload_n 2, 1, 0, 0, 0) := rfl
theorem r160_4 : Rn 160 (4, [x0, x1, some (.int i)], st, a, h) = Rn 160 (5, [x0, x1, some (.int i)], .int i :: st, a, h) := Rn_go c160_4 rfl
theorem c160_5 : mcode 160 5 = some (.bipush 24, 2, 0, 0, 0) := rfl
theorem r160_5 : Rn 160 (5, [x0, x1, x2], st, a, h) = Rn 160 (7, [x0, x1, x2], .int (24 : Int32) :: st, a, h) := Rn_go c160_5 rfl
theorem c160_7 : mcode 160 7 = some (.if_icmp .ge 20, 3, 0, 0, 0) := rfl
theorem r160_7 : Rn 160 (7, [x0, x1, x2], .int j :: .int i :: st, a, h) = if i < j then Rn 160 (10, [x0, x1, x2], st, a, h) else Rn 160 (27, [x0, x1, x2], st, a, h) := Rn_icmpn c160_7 mc_ge rfl rfl
theorem c160_10 : mcode 160 10 = some (.iload_n 1, 1, 0, 0, 0) := rfl
theorem r160_10 : Rn 160 (10, [x0, some (.int i), x2], st, a, h) = Rn 160 (11, [x0, some (.int i), x2], .int i :: st, a, h) := Rn_go c160_10 rfl
theorem c160_11 : mcode 160 11 = some (.aload_n 0, 1, 0, 0, 0) := rfl
theorem r160_11 : Rn 160 (11, [some (.ref q), x1, x2], st, a, h) = Rn 160 (12, [some (.ref q), x1, x2], .ref q :: st, a, h) := Rn_go c160_11 rfl
theorem c160_12 : mcode 160 12 = some (.getfield 7, 3, 6, 0, 0) := rfl
theorem r160_12 : Rn 160 (12, [x0, x1, x2], .ref q :: st, a, h) = Kv 160 15 [x0, x1, x2] st a h (mgf h q 6 0) := Rn_getf c160_12 rfl
theorem c160_15 : mcode 160 15 = some (.iconst 4, 1, 0, 0, 0) := rfl
theorem r160_15 : Rn 160 (15, [x0, x1, x2], st, a, h) = Rn 160 (16, [x0, x1, x2], .int (4 : Int32) :: st, a, h) := Rn_go c160_15 rfl
theorem c160_16 : mcode 160 16 = some (.iload_n 2, 1, 0, 0, 0) := rfl
theorem r160_16 : Rn 160 (16, [x0, x1, some (.int i)], st, a, h) = Rn 160 (17, [x0, x1, some (.int i)], .int i :: st, a, h) := Rn_go c160_16 rfl
theorem c160_17 : mcode 160 17 = some (.iadd, 1, 0, 0, 0) := rfl
theorem r160_17 : Rn 160 (17, [x0, x1, x2], .int j :: .int i :: st, a, h) = Rn 160 (18, [x0, x1, x2], .int (i + j) :: st, a, h) := Rn_go c160_17 rfl
theorem c160_18 : mcode 160 18 = some (.iaload, 1, 0, 0, 0) := rfl
theorem r160_18 : Rn 160 (18, [x0, x1, x2], .int i :: .ref q :: st, a, h) = Ki 160 19 [x0, x1, x2] st a h (mld h q i false) := Rn_iald c160_18 rfl
theorem c160_19 : mcode 160 19 = some (.iadd, 1, 0, 0, 0) := rfl
theorem r160_19 : Rn 160 (19, [x0, x1, x2], .int j :: .int i :: st, a, h) = Rn 160 (20, [x0, x1, x2], .int (i + j) :: st, a, h) := Rn_go c160_19 rfl
theorem c160_20 : mcode 160 20 = some (.istore_n 1, 1, 0, 0, 0) := rfl
theorem r160_20 : Rn 160 (20, [x0, x1, x2], .int i :: st, a, h) = Nl x0 (Rn 160 (21, [x0, some (.int i), x2], st, a, h)) := Rn_st1 (k := 1) (v := .int i) x0 c160_20 rfl rfl rfl rfl
theorem c160_21 : mcode 160 21 = some (.iinc 2 1, 3, 0, 0, 0) := rfl
theorem r160_21 : Rn 160 (21, [x0, x1, some (.int i)], st, a, h) = Nl x1 (Rn 160 (24, [x0, x1, some (.int (i + (1 : Int32)))], st, a, h)) := Rn_st1 (k := 2) (v := .int (i + (1 : Int32))) x1 c160_21 rfl rfl rfl rfl
theorem c160_24 : mcode 160 24 = some (.goto (-20), 3, 0, 0, 0) := rfl
theorem r160_24 : Rn 160 (24, [x0, x1, x2], st, a, h) = Rn 160 (4, [x0, x1, x2], st, a, h) := Rn_goto c160_24 rfl
theorem c160_27 : mcode 160 27 = some (.iload_n 1, 1, 0, 0, 0) := rfl
theorem r160_27 : Rn 160 (27, [x0, some (.int i), x2], st, a, h) = Rn 160 (28, [x0, some (.int i), x2], .int i :: st, a, h) := Rn_go c160_27 rfl
theorem c160_28 : mcode 160 28 = some (.ireturn, 1, 0, 0, 0) := rfl
theorem r160_28 : Rn 160 (28, [x0, x1, x2], [.int i], a, h) = some (some (.int i), a, h) := Rn_ireti c160_28
theorem c161_0 : mcode 161 0 = some (.iconst 0, 1, 0, 0, 0) := rfl
theorem r161_0 : Rn 161 (0, [x0, x1, x2, x3], st, a, h) = Rn 161 (1, [x0, x1, x2, x3], .int (0 : Int32) :: st, a, h) := Rn_go c161_0 rfl
theorem c161_1 : mcode 161 1 = some (.istore_n 2, 1, 0, 0, 0) := rfl
theorem r161_1 : Rn 161 (1, [x0, x1, x2, x3], .int i :: st, a, h) = Nl x1 (Rn 161 (2, [x0, x1, some (.int i), x3], st, a, h)) := Rn_st1 (k := 2) (v := .int i) x1 c161_1 rfl rfl rfl rfl
theorem c161_2 : mcode 161 2 = some (.iconst 0, 1, 0, 0, 0) := rfl
theorem r161_2 : Rn 161 (2, [x0, x1, x2, x3], st, a, h) = Rn 161 (3, [x0, x1, x2, x3], .int (0 : Int32) :: st, a, h) := Rn_go c161_2 rfl
theorem c161_3 : mcode 161 3 = some (.istore_n 3, 1, 0, 0, 0) := rfl
theorem r161_3 : Rn 161 (3, [x0, x1, x2, x3], .int i :: st, a, h) = Nl x2 (Rn 161 (4, [x0, x1, x2, some (.int i)], st, a, h)) := Rn_st1 (k := 3) (v := .int i) x2 c161_3 rfl rfl rfl rfl
theorem c161_4 : mcode 161 4 = some (.iload_n 3, 1, 0, 0, 0) := rfl
theorem r161_4 : Rn 161 (4, [x0, x1, x2, some (.int i)], st, a, h) = Rn 161 (5, [x0, x1, x2, some (.int i)], .int i :: st, a, h) := Rn_go c161_4 rfl
theorem c161_5 : mcode 161 5 = some (.aload_n 0, 1, 0, 0, 0) := rfl
theorem r161_5 : Rn 161 (5, [some (.ref q), x1, x2, x3], st, a, h) = Rn 161 (6, [some (.ref q), x1, x2, x3], .ref q :: st, a, h) := Rn_go c161_5 rfl
theorem c161_6 : mcode 161 6 = some (.getfield 7, 3, 6, 0, 0) := rfl
theorem r161_6 : Rn 161 (6, [x0, x1, x2, x3], .ref q :: st, a, h) = Kv 161 9 [x0, x1, x2, x3] st a h (mgf h q 6 0) := Rn_getf c161_6 rfl
theorem c161_9 : mcode 161 9 = some (.iconst 0, 1, 0, 0, 0) := rfl
theorem r161_9 : Rn 161 (9, [x0, x1, x2, x3], st, a, h) = Rn 161 (10, [x0, x1, x2, x3], .int (0 : Int32) :: st, a, h) := Rn_go c161_9 rfl
theorem c161_10 : mcode 161 10 = some (.iaload, 1, 0, 0, 0) := rfl
theorem r161_10 : Rn 161 (10, [x0, x1, x2, x3], .int i :: .ref q :: st, a, h) = Ki 161 11 [x0, x1, x2, x3] st a h (mld h q i false) := Rn_iald c161_10 rfl
theorem c161_11 : mcode 161 11 = some (.if_icmp .ge 18, 3, 0, 0, 0) := rfl
theorem r161_11 : Rn 161 (11, [x0, x1, x2, x3], .int j :: .int i :: st, a, h) = if i < j then Rn 161 (14, [x0, x1, x2, x3], st, a, h) else Rn 161 (29, [x0, x1, x2, x3], st, a, h) := Rn_icmpn c161_11 mc_ge rfl rfl
theorem c161_14 : mcode 161 14 = some (.iload_n 2, 1, 0, 0, 0) := rfl
theorem r161_14 : Rn 161 (14, [x0, x1, some (.int i), x3], st, a, h) = Rn 161 (15, [x0, x1, some (.int i), x3], .int i :: st, a, h) := Rn_go c161_14 rfl
theorem c161_15 : mcode 161 15 = some (.aload_n 0, 1, 0, 0, 0) := rfl
theorem r161_15 : Rn 161 (15, [some (.ref q), x1, x2, x3], st, a, h) = Rn 161 (16, [some (.ref q), x1, x2, x3], .ref q :: st, a, h) := Rn_go c161_15 rfl
theorem c161_16 : mcode 161 16 = some (.iload_n 3, 1, 0, 0, 0) := rfl
theorem r161_16 : Rn 161 (16, [x0, x1, x2, some (.int i)], st, a, h) = Rn 161 (17, [x0, x1, x2, some (.int i)], .int i :: st, a, h) := Rn_go c161_16 rfl
theorem c161_17 : mcode 161 17 = some (.iload_n 1, 1, 0, 0, 0) := rfl
theorem r161_17 : Rn 161 (17, [x0, some (.int i), x2, x3], st, a, h) = Rn 161 (18, [x0, some (.int i), x2, x3], .int i :: st, a, h) := Rn_go c161_17 rfl
theorem c161_18 : mcode 161 18 = some (.invokevirtual 63, 3, 132, 2, 6) := rfl
theorem r161_18 : Rn 161 (18, [x0, x1, x2, x3], [v1, v0, .ref q, .int i0], a, h) = if mis h q 6 = true then Bk 161 21 [x0, x1, x2, x3] [.int i0] (Ec 132 [.ref q, v0, v1] a h) else none := Rn_call1 c161_18 rfl (Nat.le_of_ble_eq_true rfl) rfl rfl (Nat.le_of_ble_eq_true rfl)
theorem c161_21 : mcode 161 21 = some (.iadd, 1, 0, 0, 0) := rfl
theorem r161_21 : Rn 161 (21, [x0, x1, x2, x3], .int j :: .int i :: st, a, h) = Rn 161 (22, [x0, x1, x2, x3], .int (i + j) :: st, a, h) := Rn_go c161_21 rfl
theorem c161_22 : mcode 161 22 = some (.istore_n 2, 1, 0, 0, 0) := rfl
theorem r161_22 : Rn 161 (22, [x0, x1, x2, x3], .int i :: st, a, h) = Nl x1 (Rn 161 (23, [x0, x1, some (.int i), x3], st, a, h)) := Rn_st1 (k := 2) (v := .int i) x1 c161_22 rfl rfl rfl rfl
theorem c161_23 : mcode 161 23 = some (.iinc 3 1, 3, 0, 0, 0) := rfl
theorem r161_23 : Rn 161 (23, [x0, x1, x2, some (.int i)], st, a, h) = Nl x2 (Rn 161 (26, [x0, x1, x2, some (.int (i + (1 : Int32)))], st, a, h)) := Rn_st1 (k := 3) (v := .int (i + (1 : Int32))) x2 c161_23 rfl rfl rfl rfl
theorem c161_26 : mcode 161 26 = some (.goto (-22), 3, 0, 0, 0) := rfl
theorem r161_26 : Rn 161 (26, [x0, x1, x2, x3], st, a, h) = Rn 161 (4, [x0, x1, x2, x3], st, a, h) := Rn_goto c161_26 rfl
theorem c161_29 : mcode 161 29 = some (.iload_n 2, 1, 0, 0, 0) := rfl
theorem r161_29 : Rn 161 (29, [x0, x1, some (.int i), x3], st, a, h) = Rn 161 (30, [x0, x1, some (.int i), x3], .int i :: st, a, h) := Rn_go c161_29 rfl
theorem c161_30 : mcode 161 30 = some (.ireturn, 1, 0, 0, 0) := rfl
theorem r161_30 : Rn 161 (30, [x0, x1, x2, x3], [.int i], a, h) = some (some (.int i), a, h) := Rn_ireti c161_30
theorem c162_0 : mcode 162 0 = some (.iload_n 1, 1, 0, 0, 0) := rfl
theorem r162_0 : Rn 162 (0, [x0, some (.int i)], st, a, h) = Rn 162 (1, [x0, some (.int i)], .int i :: st, a, h) := Rn_go c162_0 rfl
theorem c162_1 : mcode 162 1 = some (.i2l, 1, 0, 0, 0) := rfl
theorem r162_1 : Rn 162 (1, [x0, x1], .int i :: st, a, h) = Rn 162 (2, [x0, x1], .long i.toInt64 :: st, a, h) := Rn_go c162_1 rfl
theorem c162_2 : mcode 162 2 = some (.lconst 1, 1, 0, 0, 0) := rfl
theorem r162_2 : Rn 162 (2, [x0, x1], st, a, h) = Rn 162 (3, [x0, x1], .long (1 : Int64) :: st, a, h) := Rn_go c162_2 rfl
theorem c162_3 : mcode 162 3 = some (.ldc2_w 134, 3, 0, 0, 60) := rfl
theorem r162_3 : Rn 162 (3, [x0, x1], st, a, h) = Rn 162 (6, [x0, x1], .long (60 : Int64) :: st, a, h) := Rn_go c162_3 rfl
theorem c162_6 : mcode 162 6 = some (.invokestatic 52, 3, 124, 3, 0) := rfl
theorem r162_6 : Rn 162 (6, [x0, x1], [v2, v1, v0], a, h) = Bk 162 9 [x0, x1] [] (Ec 124 [v0, v1, v2] a h) := Rn_call0 c162_6 (fun z => nomatch z) rfl (Nat.le_of_ble_eq_true rfl) rfl rfl (Nat.le_of_ble_eq_true rfl)
theorem c162_9 : mcode 162 9 = some (.ifCond .ne 10, 3, 0, 0, 0) := rfl
theorem r162_9 : Rn 162 (9, [x0, x1], .int i :: st, a, h) = if i = 0 then Rn 162 (12, [x0, x1], st, a, h) else Rn 162 (19, [x0, x1], st, a, h) := Rn_ifcn c162_9 mc_ne rfl rfl
theorem c162_12 : mcode 162 12 = some (.aload_n 0, 1, 0, 0, 0) := rfl
theorem r162_12 : Rn 162 (12, [some (.ref q), x1], st, a, h) = Rn 162 (13, [some (.ref q), x1], .ref q :: st, a, h) := Rn_go c162_12 rfl
theorem c162_13 : mcode 162 13 = some (.ldc 37, 2, 0, 0, -1000001) := rfl
theorem r162_13 : Rn 162 (13, [x0, x1], st, a, h) = Rn 162 (15, [x0, x1], .int (-1000001 : Int32) :: st, a, h) := Rn_go c162_13 rfl
theorem c162_15 : mcode 162 15 = some (.invokevirtual 39, 3, 125, 1, 6) := rfl
theorem r162_15 : Rn 162 (15, [x0, x1], [v0, .ref q], a, h) = if mis h q 6 = true then Bk 162 18 [x0, x1] [] (Ec 125 [.ref q, v0] a h) else none := Rn_call1 c162_15 rfl (Nat.le_of_ble_eq_true rfl) rfl rfl (Nat.le_of_ble_eq_true rfl)
theorem c162_18 : mcode 162 18 = some (.ireturn, 1, 0, 0, 0) := rfl
theorem r162_18 : Rn 162 (18, [x0, x1], [.int i], a, h) = some (some (.int i), a, h) := Rn_ireti c162_18
theorem c162_19 : mcode 162 19 = some (.aload_n 0, 1, 0, 0, 0) := rfl
theorem r162_19 : Rn 162 (19, [some (.ref q), x1], st, a, h) = Rn 162 (20, [some (.ref q), x1], .ref q :: st, a, h) := Rn_go c162_19 rfl
theorem c162_20 : mcode 162 20 = some (.getfield 7, 3, 6, 0, 0) := rfl
theorem r162_20 : Rn 162 (20, [x0, x1], .ref q :: st, a, h) = Kv 162 23 [x0, x1] st a h (mgf h q 6 0) := Rn_getf c162_20 rfl
theorem c162_23 : mcode 162 23 = some (.iconst 1, 1, 0, 0, 0) := rfl
theorem r162_23 : Rn 162 (23, [x0, x1], st, a, h) = Rn 162 (24, [x0, x1], .int (1 : Int32) :: st, a, h) := Rn_go c162_23 rfl
theorem c162_24 : mcode 162 24 = some (.iaload, 1, 0, 0, 0) := rfl
theorem r162_24 : Rn 162 (24, [x0, x1], .int i :: .ref q :: st, a, h) = Ki 162 25 [x0, x1] st a h (mld h q i false) := Rn_iald c162_24 rfl
theorem c162_25 : mcode 162 25 = some (.iload_n 1, 1, 0, 0, 0) := rfl
theorem r162_25 : Rn 162 (25, [x0, some (.int i)], st, a, h) = Rn 162 (26, [x0, some (.int i)], .int i :: st, a, h) := Rn_go c162_25 rfl
theorem c162_26 : mcode 162 26 = some (.iadd, 1, 0, 0, 0) := rfl
theorem r162_26 : Rn 162 (26, [x0, x1], .int j :: .int i :: st, a, h) = Rn 162 (27, [x0, x1], .int (i + j) :: st, a, h) := Rn_go c162_26 rfl
theorem c162_27 : mcode 162 27 = some (.ldc 136, 2, 0, 0, 99999) := rfl
theorem r162_27 : Rn 162 (27, [x0, x1], st, a, h) = Rn 162 (29, [x0, x1], .int (99999 : Int32) :: st, a, h) := Rn_go c162_27 rfl
theorem c162_29 : mcode 162 29 = some (.if_icmp .le 10, 3, 0, 0, 0) := rfl
theorem r162_29 : Rn 162 (29, [x0, x1], .int j :: .int i :: st, a, h) = if j < i then Rn 162 (32, [x0, x1], st, a, h) else Rn 162 (39, [x0, x1], st, a, h) := Rn_icmpn c162_29 mc_le rfl rfl
theorem c162_32 : mcode 162 32 = some (.aload_n 0, 1, 0, 0, 0) := rfl
theorem r162_32 : Rn 162 (32, [some (.ref q), x1], st, a, h) = Rn 162 (33, [some (.ref q), x1], .ref q :: st, a, h) := Rn_go c162_32 rfl
theorem c162_33 : mcode 162 33 = some (.ldc 137, 2, 0, 0, -1000005) := rfl
theorem r162_33 : Rn 162 (33, [x0, x1], st, a, h) = Rn 162 (35, [x0, x1], .int (-1000005 : Int32) :: st, a, h) := Rn_go c162_33 rfl
theorem c162_35 : mcode 162 35 = some (.invokevirtual 39, 3, 125, 1, 6) := rfl
theorem r162_35 : Rn 162 (35, [x0, x1], [v0, .ref q], a, h) = if mis h q 6 = true then Bk 162 38 [x0, x1] [] (Ec 125 [.ref q, v0] a h) else none := Rn_call1 c162_35 rfl (Nat.le_of_ble_eq_true rfl) rfl rfl (Nat.le_of_ble_eq_true rfl)
theorem c162_38 : mcode 162 38 = some (.ireturn, 1, 0, 0, 0) := rfl
theorem r162_38 : Rn 162 (38, [x0, x1], [.int i], a, h) = some (some (.int i), a, h) := Rn_ireti c162_38
theorem c162_39 : mcode 162 39 = some (.aload_n 0, 1, 0, 0, 0) := rfl
theorem r162_39 : Rn 162 (39, [some (.ref q), x1], st, a, h) = Rn 162 (40, [some (.ref q), x1], .ref q :: st, a, h) := Rn_go c162_39 rfl
theorem c162_40 : mcode 162 40 = some (.iload_n 1, 1, 0, 0, 0) := rfl
theorem r162_40 : Rn 162 (40, [x0, some (.int i)], st, a, h) = Rn 162 (41, [x0, some (.int i)], .int i :: st, a, h) := Rn_go c162_40 rfl
theorem c162_41 : mcode 162 41 = some (.invokevirtual 138, 3, 159, 1, 6) := rfl
theorem r162_41 : Rn 162 (41, [x0, x1], [v0, .ref q], a, h) = if mis h q 6 = true then Bk 162 44 [x0, x1] [] (Ec 159 [.ref q, v0] a h) else none := Rn_call1 c162_41 rfl (Nat.le_of_ble_eq_true rfl) rfl rfl (Nat.le_of_ble_eq_true rfl)
theorem c162_44 : mcode 162 44 = some (.aload_n 0, 1, 0, 0, 0) := rfl
theorem r162_44 : Rn 162 (44, [some (.ref q), x1], st, a, h) = Rn 162 (45, [some (.ref q), x1], .ref q :: st, a, h) := Rn_go c162_44 rfl
theorem c162_45 : mcode 162 45 = some (.invokevirtual 141, 3, 160, 0, 6) := rfl
theorem r162_45 : Rn 162 (45, [x0, x1], [.ref q], a, h) = if mis h q 6 = true then Bk 162 48 [x0, x1] [] (Ec 160 [.ref q] a h) else none := Rn_call1 c162_45 rfl (Nat.le_of_ble_eq_true rfl) rfl rfl (Nat.le_of_ble_eq_true rfl)
theorem c162_48 : mcode 162 48 = some (.ireturn, 1, 0, 0, 0) := rfl
theorem r162_48 : Rn 162 (48, [x0, x1], [.int i], a, h) = some (some (.int i), a, h) := Rn_ireti c162_48
theorem c163_0 : mcode 163 0 = some (.aload_n 0, 1, 0, 0, 0) := rfl
theorem r163_0 : Rn 163 (0, [some (.ref q), x1], st, a, h) = Rn 163 (1, [some (.ref q), x1], .ref q :: st, a, h) := Rn_go c163_0 rfl
theorem c163_1 : mcode 163 1 = some (.iload_n 1, 1, 0, 0, 0) := rfl
theorem r163_1 : Rn 163 (1, [x0, some (.int i)], st, a, h) = Rn 163 (2, [x0, some (.int i)], .int i :: st, a, h) := Rn_go c163_1 rfl
theorem c163_2 : mcode 163 2 = some (.invokevirtual 68, 3, 139, 1, 6) := rfl
theorem r163_2 : Rn 163 (2, [x0, x1], [v0, .ref q], a, h) = if mis h q 6 = true then Bk 163 5 [x0, x1] [] (Ec 139 [.ref q, v0] a h) else none := Rn_call1 c163_2 rfl (Nat.le_of_ble_eq_true rfl) rfl rfl (Nat.le_of_ble_eq_true rfl)
theorem c163_5 : mcode 163 5 = some (.bipush 9, 2, 0, 0, 0) := rfl
theorem r163_5 : Rn 163 (5, [x0, x1], st, a, h) = Rn 163 (7, [x0, x1], .int (9 : Int32) :: st, a, h) := Rn_go c163_5 rfl
theorem c163_7 : mcode 163 7 = some (.if_icmp .gt 7, 3, 0, 0, 0) := rfl
theorem r163_7 : Rn 163 (7, [x0, x1], .int j :: .int i :: st, a, h) = if j < i then Rn 163 (14, [x0, x1], st, a, h) else Rn 163 (10, [x0, x1], st, a, h) := Rn_icmp c163_7 mc_gt rfl rfl
theorem c163_10 : mcode 163 10 = some (.iconst 1, 1, 0, 0, 0) := rfl
theorem r163_10 : Rn 163 (10, [x0, x1], st, a, h) = Rn 163 (11, [x0, x1], .int (1 : Int32) :: st, a, h) := Rn_go c163_10 rfl
theorem c163_11 : mcode 163 11 = some (.goto 4, 3, 0, 0, 0) := rfl
theorem r163_11 : Rn 163 (11, [x0, x1], st, a, h) = Rn 163 (15, [x0, x1], st, a, h) := Rn_goto c163_11 rfl
theorem c163_14 : mcode 163 14 = some (.iconst 0, 1, 0, 0, 0) := rfl
theorem r163_14 : Rn 163 (14, [x0, x1], st, a, h) = Rn 163 (15, [x0, x1], .int (0 : Int32) :: st, a, h) := Rn_go c163_14 rfl
theorem c163_15 : mcode 163 15 = some (.ireturn, 1, 1, 0, 0) := rfl
theorem r163_15 : Rn 163 (15, [x0, x1], [.int i], a, h) = if mrt 1 i = true then some (some (.int i), a, h) else none := Rn_iretz c163_15
theorem c164_0 : mcode 164 0 = some (.iconst 0, 1, 0, 0, 0) := rfl
theorem r164_0 : Rn 164 (0, [x0, x1, x2], st, a, h) = Rn 164 (1, [x0, x1, x2], .int (0 : Int32) :: st, a, h) := Rn_go c164_0 rfl
theorem c164_1 : mcode 164 1 = some (.istore_n 1, 1, 0, 0, 0) := rfl
theorem r164_1 : Rn 164 (1, [x0, x1, x2], .int i :: st, a, h) = Nl x0 (Rn 164 (2, [x0, some (.int i), x2], st, a, h)) := Rn_st1 (k := 1) (v := .int i) x0 c164_1 rfl rfl rfl rfl
theorem c164_2 : mcode 164 2 = some (.iconst 0, 1, 0, 0, 0) := rfl
theorem r164_2 : Rn 164 (2, [x0, x1, x2], st, a, h) = Rn 164 (3, [x0, x1, x2], .int (0 : Int32) :: st, a, h) := Rn_go c164_2 rfl
theorem c164_3 : mcode 164 3 = some (.istore_n 2, 1, 0, 0, 0) := rfl
theorem r164_3 : Rn 164 (3, [x0, x1, x2], .int i :: st, a, h) = Nl x1 (Rn 164 (4, [x0, x1, some (.int i)], st, a, h)) := Rn_st1 (k := 2) (v := .int i) x1 c164_3 rfl rfl rfl rfl
theorem c164_4 : mcode 164 4 = some (.iload_n 2, 1, 0, 0, 0) := rfl
theorem r164_4 : Rn 164 (4, [x0, x1, some (.int i)], st, a, h) = Rn 164 (5, [x0, x1, some (.int i)], .int i :: st, a, h) := Rn_go c164_4 rfl
theorem c164_5 : mcode 164 5 = some (.bipush 8, 2, 0, 0, 0) := rfl
theorem r164_5 : Rn 164 (5, [x0, x1, x2], st, a, h) = Rn 164 (7, [x0, x1, x2], .int (8 : Int32) :: st, a, h) := Rn_go c164_5 rfl
theorem c164_7 : mcode 164 7 = some (.if_icmp .ge 27, 3, 0, 0, 0) := rfl
theorem r164_7 : Rn 164 (7, [x0, x1, x2], .int j :: .int i :: st, a, h) = if i < j then Rn 164 (10, [x0, x1, x2], st, a, h) else Rn 164 (34, [x0, x1, x2], st, a, h) := Rn_icmpn c164_7 mc_ge rfl rfl
theorem c164_10 : mcode 164 10 = some (.iload_n 1, 1, 0, 0, 0) := rfl
theorem r164_10 : Rn 164 (10, [x0, some (.int i), x2], st, a, h) = Rn 164 (11, [x0, some (.int i), x2], .int i :: st, a, h) := Rn_go c164_10 rfl
theorem c164_11 : mcode 164 11 = some (.aload_n 0, 1, 0, 0, 0) := rfl
theorem r164_11 : Rn 164 (11, [some (.ref q), x1, x2], st, a, h) = Rn 164 (12, [some (.ref q), x1, x2], .ref q :: st, a, h) := Rn_go c164_11 rfl
theorem c164_12 : mcode 164 12 = some (.iload_n 2, 1, 0, 0, 0) := rfl
theorem r164_12 : Rn 164 (12, [x0, x1, some (.int i)], st, a, h) = Rn 164 (13, [x0, x1, some (.int i)], .int i :: st, a, h) := Rn_go c164_12 rfl
theorem c164_13 : mcode 164 13 = some (.invokevirtual 145, 3, 163, 1, 6) := rfl
theorem r164_13 : Rn 164 (13, [x0, x1, x2], [v0, .ref q, .int i0], a, h) = if mis h q 6 = true then Bk 164 16 [x0, x1, x2] [.int i0] (Ec 163 [.ref q, v0] a h) else none := Rn_call1 c164_13 rfl (Nat.le_of_ble_eq_true rfl) rfl rfl (Nat.le_of_ble_eq_true rfl)
theorem c164_16 : mcode 164 16 = some (.ifCond .eq 9, 3, 0, 0, 0) := rfl
theorem r164_16 : Rn 164 (16, [x0, x1, x2], .int i :: st, a, h) = if i = 0 then Rn 164 (25, [x0, x1, x2], st, a, h) else Rn 164 (19, [x0, x1, x2], st, a, h) := Rn_ifc c164_16 mc_eq rfl rfl
theorem c164_19 : mcode 164 19 = some (.iconst 1, 1, 0, 0, 0) := rfl
theorem r164_19 : Rn 164 (19, [x0, x1, x2], st, a, h) = Rn 164 (20, [x0, x1, x2], .int (1 : Int32) :: st, a, h) := Rn_go c164_19 rfl
theorem c164_20 : mcode 164 20 = some (.iload_n 2, 1, 0, 0, 0) := rfl
theorem r164_20 : Rn 164 (20, [x0, x1, some (.int i)], st, a, h) = Rn 164 (21, [x0, x1, some (.int i)], .int i :: st, a, h) := Rn_go c164_20 rfl
theorem c164_21 : mcode 164 21 = some (.ishl, 1, 0, 0, 0) := rfl
theorem r164_21 : Rn 164 (21, [x0, x1, x2], .int j :: .int i :: st, a, h) = Rn 164 (22, [x0, x1, x2], .int (i <<< (j &&& 31)) :: st, a, h) := Rn_go c164_21 rfl
theorem c164_22 : mcode 164 22 = some (.goto 4, 3, 0, 0, 0) := rfl
theorem r164_22 : Rn 164 (22, [x0, x1, x2], st, a, h) = Rn 164 (26, [x0, x1, x2], st, a, h) := Rn_goto c164_22 rfl
theorem c164_25 : mcode 164 25 = some (.iconst 0, 1, 0, 0, 0) := rfl
theorem r164_25 : Rn 164 (25, [x0, x1, x2], st, a, h) = Rn 164 (26, [x0, x1, x2], .int (0 : Int32) :: st, a, h) := Rn_go c164_25 rfl
theorem c164_26 : mcode 164 26 = some (.ior, 1, 0, 0, 0) := rfl
theorem r164_26 : Rn 164 (26, [x0, x1, x2], .int j :: .int i :: st, a, h) = Rn 164 (27, [x0, x1, x2], .int (i ||| j) :: st, a, h) := Rn_go c164_26 rfl
theorem c164_27 : mcode 164 27 = some (.istore_n 1, 1, 0, 0, 0) := rfl
theorem r164_27 : Rn 164 (27, [x0, x1, x2], .int i :: st, a, h) = Nl x0 (Rn 164 (28, [x0, some (.int i), x2], st, a, h)) := Rn_st1 (k := 1) (v := .int i) x0 c164_27 rfl rfl rfl rfl
theorem c164_28 : mcode 164 28 = some (.iinc 2 1, 3, 0, 0, 0) := rfl
theorem r164_28 : Rn 164 (28, [x0, x1, some (.int i)], st, a, h) = Nl x1 (Rn 164 (31, [x0, x1, some (.int (i + (1 : Int32)))], st, a, h)) := Rn_st1 (k := 2) (v := .int (i + (1 : Int32))) x1 c164_28 rfl rfl rfl rfl
theorem c164_31 : mcode 164 31 = some (.goto (-27), 3, 0, 0, 0) := rfl
theorem r164_31 : Rn 164 (31, [x0, x1, x2], st, a, h) = Rn 164 (4, [x0, x1, x2], st, a, h) := Rn_goto c164_31 rfl
theorem c164_34 : mcode 164 34 = some (.iload_n 1, 1, 0, 0, 0) := rfl
theorem r164_34 : Rn 164 (34, [x0, some (.int i), x2], st, a, h) = Rn 164 (35, [x0, some (.int i), x2], .int i :: st, a, h) := Rn_go c164_34 rfl
theorem c164_35 : mcode 164 35 = some (.ireturn, 1, 0, 0, 0) := rfl
theorem r164_35 : Rn 164 (35, [x0, x1, x2], [.int i], a, h) = some (some (.int i), a, h) := Rn_ireti c164_35
theorem c165_0 : mcode 165 0 = some (.iconst 0, 1, 0, 0, 0) := rfl
theorem r165_0 : Rn 165 (0, [x0, x1, x2], st, a, h) = Rn 165 (1, [x0, x1, x2], .int (0 : Int32) :: st, a, h) := Rn_go c165_0 rfl
theorem c165_1 : mcode 165 1 = some (.istore_n 1, 1, 0, 0, 0) := rfl
theorem r165_1 : Rn 165 (1, [x0, x1, x2], .int i :: st, a, h) = Nl x0 (Rn 165 (2, [x0, some (.int i), x2], st, a, h)) := Rn_st1 (k := 1) (v := .int i) x0 c165_1 rfl rfl rfl rfl
theorem c165_2 : mcode 165 2 = some (.iconst 0, 1, 0, 0, 0) := rfl
theorem r165_2 : Rn 165 (2, [x0, x1, x2], st, a, h) = Rn 165 (3, [x0, x1, x2], .int (0 : Int32) :: st, a, h) := Rn_go c165_2 rfl
theorem c165_3 : mcode 165 3 = some (.istore_n 2, 1, 0, 0, 0) := rfl
theorem r165_3 : Rn 165 (3, [x0, x1, x2], .int i :: st, a, h) = Nl x1 (Rn 165 (4, [x0, x1, some (.int i)], st, a, h)) := Rn_st1 (k := 2) (v := .int i) x1 c165_3 rfl rfl rfl rfl
theorem c165_4 : mcode 165 4 = some (.iload_n 2, 1, 0, 0, 0) := rfl
theorem r165_4 : Rn 165 (4, [x0, x1, some (.int i)], st, a, h) = Rn 165 (5, [x0, x1, some (.int i)], .int i :: st, a, h) := Rn_go c165_4 rfl
theorem c165_5 : mcode 165 5 = some (.aload_n 0, 1, 0, 0, 0) := rfl
theorem r165_5 : Rn 165 (5, [some (.ref q), x1, x2], st, a, h) = Rn 165 (6, [some (.ref q), x1, x2], .ref q :: st, a, h) := Rn_go c165_5 rfl
theorem c165_6 : mcode 165 6 = some (.getfield 7, 3, 6, 0, 0) := rfl
theorem r165_6 : Rn 165 (6, [x0, x1, x2], .ref q :: st, a, h) = Kv 165 9 [x0, x1, x2] st a h (mgf h q 6 0) := Rn_getf c165_6 rfl
theorem c165_9 : mcode 165 9 = some (.iconst 0, 1, 0, 0, 0) := rfl
theorem r165_9 : Rn 165 (9, [x0, x1, x2], st, a, h) = Rn 165 (10, [x0, x1, x2], .int (0 : Int32) :: st, a, h) := Rn_go c165_9 rfl
theorem c165_10 : mcode 165 10 = some (.iaload, 1, 0, 0, 0) := rfl
theorem r165_10 : Rn 165 (10, [x0, x1, x2], .int i :: .ref q :: st, a, h) = Ki 165 11 [x0, x1, x2] st a h (mld h q i false) := Rn_iald c165_10 rfl
theorem c165_11 : mcode 165 11 = some (.if_icmp .ge 20, 3, 0, 0, 0) := rfl
theorem r165_11 : Rn 165 (11, [x0, x1, x2], .int j :: .int i :: st, a, h) = if i < j then Rn 165 (14, [x0, x1, x2], st, a, h) else Rn 165 (31, [x0, x1, x2], st, a, h) := Rn_icmpn c165_11 mc_ge rfl rfl
theorem c165_14 : mcode 165 14 = some (.iload_n 1, 1, 0, 0, 0) := rfl
theorem r165_14 : Rn 165 (14, [x0, some (.int i), x2], st, a, h) = Rn 165 (15, [x0, some (.int i), x2], .int i :: st, a, h) := Rn_go c165_14 rfl
theorem c165_15 : mcode 165 15 = some (.iconst 1, 1, 0, 0, 0) := rfl
theorem r165_15 : Rn 165 (15, [x0, x1, x2], st, a, h) = Rn 165 (16, [x0, x1, x2], .int (1 : Int32) :: st, a, h) := Rn_go c165_15 rfl
theorem c165_16 : mcode 165 16 = some (.aload_n 0, 1, 0, 0, 0) := rfl
theorem r165_16 : Rn 165 (16, [some (.ref q), x1, x2], st, a, h) = Rn 165 (17, [some (.ref q), x1, x2], .ref q :: st, a, h) := Rn_go c165_16 rfl
theorem c165_17 : mcode 165 17 = some (.iload_n 2, 1, 0, 0, 0) := rfl
theorem r165_17 : Rn 165 (17, [x0, x1, some (.int i)], st, a, h) = Rn 165 (18, [x0, x1, some (.int i)], .int i :: st, a, h) := Rn_go c165_17 rfl
theorem c165_18 : mcode 165 18 = some (.iconst 2, 1, 0, 0, 0) := rfl
theorem r165_18 : Rn 165 (18, [x0, x1, x2], st, a, h) = Rn 165 (19, [x0, x1, x2], .int (2 : Int32) :: st, a, h) := Rn_go c165_18 rfl
theorem c165_19 : mcode 165 19 = some (.invokevirtual 63, 3, 132, 2, 6) := rfl
theorem r165_19 : Rn 165 (19, [x0, x1, x2], [v1, v0, .ref q, .int i0, .int i1], a, h) = if mis h q 6 = true then Bk 165 22 [x0, x1, x2] [.int i0, .int i1] (Ec 132 [.ref q, v0, v1] a h) else none := Rn_call1 c165_19 rfl (Nat.le_of_ble_eq_true rfl) rfl rfl (Nat.le_of_ble_eq_true rfl)
theorem c165_22 : mcode 165 22 = some (.ishl, 1, 0, 0, 0) := rfl
theorem r165_22 : Rn 165 (22, [x0, x1, x2], .int j :: .int i :: st, a, h) = Rn 165 (23, [x0, x1, x2], .int (i <<< (j &&& 31)) :: st, a, h) := Rn_go c165_22 rfl
theorem c165_23 : mcode 165 23 = some (.ior, 1, 0, 0, 0) := rfl
theorem r165_23 : Rn 165 (23, [x0, x1, x2], .int j :: .int i :: st, a, h) = Rn 165 (24, [x0, x1, x2], .int (i ||| j) :: st, a, h) := Rn_go c165_23 rfl
theorem c165_24 : mcode 165 24 = some (.istore_n 1, 1, 0, 0, 0) := rfl
theorem r165_24 : Rn 165 (24, [x0, x1, x2], .int i :: st, a, h) = Nl x0 (Rn 165 (25, [x0, some (.int i), x2], st, a, h)) := Rn_st1 (k := 1) (v := .int i) x0 c165_24 rfl rfl rfl rfl
theorem c165_25 : mcode 165 25 = some (.iinc 2 1, 3, 0, 0, 0) := rfl
theorem r165_25 : Rn 165 (25, [x0, x1, some (.int i)], st, a, h) = Nl x1 (Rn 165 (28, [x0, x1, some (.int (i + (1 : Int32)))], st, a, h)) := Rn_st1 (k := 2) (v := .int (i + (1 : Int32))) x1 c165_25 rfl rfl rfl rfl
theorem c165_28 : mcode 165 28 = some (.goto (-24), 3, 0, 0, 0) := rfl
theorem r165_28 : Rn 165 (28, [x0, x1, x2], st, a, h) = Rn 165 (4, [x0, x1, x2], st, a, h) := Rn_goto c165_28 rfl
theorem c165_31 : mcode 165 31 = some (.iload_n 1, 1, 0, 0, 0) := rfl
theorem r165_31 : Rn 165 (31, [x0, some (.int i), x2], st, a, h) = Rn 165 (32, [x0, some (.int i), x2], .int i :: st, a, h) := Rn_go c165_31 rfl
theorem c165_32 : mcode 165 32 = some (.ireturn, 1, 0, 0, 0) := rfl
theorem r165_32 : Rn 165 (32, [x0, x1, x2], [.int i], a, h) = some (some (.int i), a, h) := Rn_ireti c165_32
theorem c166_0 : mcode 166 0 = some (.iload_n 1, 1, 0, 0, 0) := rfl
theorem r166_0 : Rn 166 (0, [x0, some (.int i)], st, a, h) = Rn 166 (1, [x0, some (.int i)], .int i :: st, a, h) := Rn_go c166_0 rfl
theorem c166_1 : mcode 166 1 = some (.tableswitch 83 0 6 #[43, 50, 55, 61, 66, 72, 78], 43, 0, 0, 0) := rfl
theorem r166_1_0 : Rn 166 (1, [x0, x1], .int (0 : Int32) :: st, a, h) = Rn 166 (44, [x0, x1], st, a, h) := Rn_swAt c166_1 rfl rfl
theorem r166_1_1 : Rn 166 (1, [x0, x1], .int (1 : Int32) :: st, a, h) = Rn 166 (51, [x0, x1], st, a, h) := Rn_swAt c166_1 rfl rfl
theorem r166_1_2 : Rn 166 (1, [x0, x1], .int (2 : Int32) :: st, a, h) = Rn 166 (56, [x0, x1], st, a, h) := Rn_swAt c166_1 rfl rfl
theorem r166_1_3 : Rn 166 (1, [x0, x1], .int (3 : Int32) :: st, a, h) = Rn 166 (62, [x0, x1], st, a, h) := Rn_swAt c166_1 rfl rfl
theorem r166_1_4 : Rn 166 (1, [x0, x1], .int (4 : Int32) :: st, a, h) = Rn 166 (67, [x0, x1], st, a, h) := Rn_swAt c166_1 rfl rfl
theorem r166_1_5 : Rn 166 (1, [x0, x1], .int (5 : Int32) :: st, a, h) = Rn 166 (73, [x0, x1], st, a, h) := Rn_swAt c166_1 rfl rfl
theorem r166_1_6 : Rn 166 (1, [x0, x1], .int (6 : Int32) :: st, a, h) = Rn 166 (79, [x0, x1], st, a, h) := Rn_swAt c166_1 rfl rfl
theorem r166_1_d (hi : i.toInt < 0 ∨ 6 < i.toInt) : Rn 166 (1, [x0, x1], .int i :: st, a, h) = Rn 166 (84, [x0, x1], st, a, h) := Rn_swAt c166_1 (if_pos hi) rfl
theorem c166_44 : mcode 166 44 = some (.aload_n 0, 1, 0, 0, 0) := rfl
theorem r166_44 : Rn 166 (44, [some (.ref q), x1], st, a, h) = Rn 166 (45, [some (.ref q), x1], .ref q :: st, a, h) := Rn_go c166_44 rfl
theorem c166_45 : mcode 166 45 = some (.getfield 7, 3, 6, 0, 0) := rfl
theorem r166_45 : Rn 166 (45, [x0, x1], .ref q :: st, a, h) = Kv 166 48 [x0, x1] st a h (mgf h q 6 0) := Rn_getf c166_45 rfl
theorem c166_48 : mcode 166 48 = some (.iconst 1, 1, 0, 0, 0) := rfl
theorem r166_48 : Rn 166 (48, [x0, x1], st, a, h) = Rn 166 (49, [x0, x1], .int (1 : Int32) :: st, a, h) := Rn_go c166_48 rfl
theorem c166_49 : mcode 166 49 = some (.iaload, 1, 0, 0, 0) := rfl
theorem r166_49 : Rn 166 (49, [x0, x1], .int i :: .ref q :: st, a, h) = Ki 166 50 [x0, x1] st a h (mld h q i false) := Rn_iald c166_49 rfl
theorem c166_50 : mcode 166 50 = some (.ireturn, 1, 0, 0, 0) := rfl
theorem r166_50 : Rn 166 (50, [x0, x1], [.int i], a, h) = some (some (.int i), a, h) := Rn_ireti c166_50
theorem c166_51 : mcode 166 51 = some (.aload_n 0, 1, 0, 0, 0) := rfl
theorem r166_51 : Rn 166 (51, [some (.ref q), x1], st, a, h) = Rn 166 (52, [some (.ref q), x1], .ref q :: st, a, h) := Rn_go c166_51 rfl
theorem c166_52 : mcode 166 52 = some (.invokevirtual 141, 3, 160, 0, 6) := rfl
theorem r166_52 : Rn 166 (52, [x0, x1], [.ref q], a, h) = if mis h q 6 = true then Bk 166 55 [x0, x1] [] (Ec 160 [.ref q] a h) else none := Rn_call1 c166_52 rfl (Nat.le_of_ble_eq_true rfl) rfl rfl (Nat.le_of_ble_eq_true rfl)
theorem c166_55 : mcode 166 55 = some (.ireturn, 1, 0, 0, 0) := rfl
theorem r166_55 : Rn 166 (55, [x0, x1], [.int i], a, h) = some (some (.int i), a, h) := Rn_ireti c166_55
theorem c166_56 : mcode 166 56 = some (.aload_n 0, 1, 0, 0, 0) := rfl
theorem r166_56 : Rn 166 (56, [some (.ref q), x1], st, a, h) = Rn 166 (57, [some (.ref q), x1], .ref q :: st, a, h) := Rn_go c166_56 rfl
theorem c166_57 : mcode 166 57 = some (.iconst 3, 1, 0, 0, 0) := rfl
theorem r166_57 : Rn 166 (57, [x0, x1], st, a, h) = Rn 166 (58, [x0, x1], .int (3 : Int32) :: st, a, h) := Rn_go c166_57 rfl
theorem c166_58 : mcode 166 58 = some (.invokevirtual 148, 3, 161, 1, 6) := rfl
theorem r166_58 : Rn 166 (58, [x0, x1], [v0, .ref q], a, h) = if mis h q 6 = true then Bk 166 61 [x0, x1] [] (Ec 161 [.ref q, v0] a h) else none := Rn_call1 c166_58 rfl (Nat.le_of_ble_eq_true rfl) rfl rfl (Nat.le_of_ble_eq_true rfl)
theorem c166_61 : mcode 166 61 = some (.ireturn, 1, 0, 0, 0) := rfl
theorem r166_61 : Rn 166 (61, [x0, x1], [.int i], a, h) = some (some (.int i), a, h) := Rn_ireti c166_61
theorem c166_62 : mcode 166 62 = some (.aload_n 0, 1, 0, 0, 0) := rfl
theorem r166_62 : Rn 166 (62, [some (.ref q), x1], st, a, h) = Rn 166 (63, [some (.ref q), x1], .ref q :: st, a, h) := Rn_go c166_62 rfl
theorem c166_63 : mcode 166 63 = some (.invokevirtual 151, 3, 164, 0, 6) := rfl
theorem r166_63 : Rn 166 (63, [x0, x1], [.ref q], a, h) = if mis h q 6 = true then Bk 166 66 [x0, x1] [] (Ec 164 [.ref q] a h) else none := Rn_call1 c166_63 rfl (Nat.le_of_ble_eq_true rfl) rfl rfl (Nat.le_of_ble_eq_true rfl)
theorem c166_66 : mcode 166 66 = some (.ireturn, 1, 0, 0, 0) := rfl
theorem r166_66 : Rn 166 (66, [x0, x1], [.int i], a, h) = some (some (.int i), a, h) := Rn_ireti c166_66
theorem c166_67 : mcode 166 67 = some (.aload_n 0, 1, 0, 0, 0) := rfl
theorem r166_67 : Rn 166 (67, [some (.ref q), x1], st, a, h) = Rn 166 (68, [some (.ref q), x1], .ref q :: st, a, h) := Rn_go c166_67 rfl
theorem c166_68 : mcode 166 68 = some (.iconst 0, 1, 0, 0, 0) := rfl
theorem r166_68 : Rn 166 (68, [x0, x1], st, a, h) = Rn 166 (69, [x0, x1], .int (0 : Int32) :: st, a, h) := Rn_go c166_68 rfl
theorem c166_69 : mcode 166 69 = some (.invokevirtual 71, 3, 140, 1, 6) := rfl
theorem r166_69 : Rn 166 (69, [x0, x1], [v0, .ref q], a, h) = if mis h q 6 = true then Bk 166 72 [x0, x1] [] (Ec 140 [.ref q, v0] a h) else none := Rn_call1 c166_69 rfl (Nat.le_of_ble_eq_true rfl) rfl rfl (Nat.le_of_ble_eq_true rfl)
theorem c166_72 : mcode 166 72 = some (.ireturn, 1, 0, 0, 0) := rfl
theorem r166_72 : Rn 166 (72, [x0, x1], [.int i], a, h) = some (some (.int i), a, h) := Rn_ireti c166_72
theorem c166_73 : mcode 166 73 = some (.aload_n 0, 1, 0, 0, 0) := rfl
theorem r166_73 : Rn 166 (73, [some (.ref q), x1], st, a, h) = Rn 166 (74, [some (.ref q), x1], .ref q :: st, a, h) := Rn_go c166_73 rfl
theorem c166_74 : mcode 166 74 = some (.iconst 5, 1, 0, 0, 0) := rfl
theorem r166_74 : Rn 166 (74, [x0, x1], st, a, h) = Rn 166 (75, [x0, x1], .int (5 : Int32) :: st, a, h) := Rn_go c166_74 rfl
theorem c166_75 : mcode 166 75 = some (.invokevirtual 148, 3, 161, 1, 6) := rfl
theorem r166_75 : Rn 166 (75, [x0, x1], [v0, .ref q], a, h) = if mis h q 6 = true then Bk 166 78 [x0, x1] [] (Ec 161 [.ref q, v0] a h) else none := Rn_call1 c166_75 rfl (Nat.le_of_ble_eq_true rfl) rfl rfl (Nat.le_of_ble_eq_true rfl)
theorem c166_78 : mcode 166 78 = some (.ireturn, 1, 0, 0, 0) := rfl
theorem r166_78 : Rn 166 (78, [x0, x1], [.int i], a, h) = some (some (.int i), a, h) := Rn_ireti c166_78
theorem c166_79 : mcode 166 79 = some (.aload_n 0, 1, 0, 0, 0) := rfl
theorem r166_79 : Rn 166 (79, [some (.ref q), x1], st, a, h) = Rn 166 (80, [some (.ref q), x1], .ref q :: st, a, h) := Rn_go c166_79 rfl
theorem c166_80 : mcode 166 80 = some (.invokevirtual 154, 3, 165, 0, 6) := rfl
theorem r166_80 : Rn 166 (80, [x0, x1], [.ref q], a, h) = if mis h q 6 = true then Bk 166 83 [x0, x1] [] (Ec 165 [.ref q] a h) else none := Rn_call1 c166_80 rfl (Nat.le_of_ble_eq_true rfl) rfl rfl (Nat.le_of_ble_eq_true rfl)
theorem c166_83 : mcode 166 83 = some (.ireturn, 1, 0, 0, 0) := rfl
theorem r166_83 : Rn 166 (83, [x0, x1], [.int i], a, h) = some (some (.int i), a, h) := Rn_ireti c166_83
theorem c166_84 : mcode 166 84 = some (.aload_n 0, 1, 0, 0, 0) := rfl
theorem r166_84 : Rn 166 (84, [some (.ref q), x1], st, a, h) = Rn 166 (85, [some (.ref q), x1], .ref q :: st, a, h) := Rn_go c166_84 rfl
theorem c166_85 : mcode 166 85 = some (.ldc 37, 2, 0, 0, -1000001) := rfl
theorem r166_85 : Rn 166 (85, [x0, x1], st, a, h) = Rn 166 (87, [x0, x1], .int (-1000001 : Int32) :: st, a, h) := Rn_go c166_85 rfl
theorem c166_87 : mcode 166 87 = some (.invokevirtual 39, 3, 125, 1, 6) := rfl
theorem r166_87 : Rn 166 (87, [x0, x1], [v0, .ref q], a, h) = if mis h q 6 = true then Bk 166 90 [x0, x1] [] (Ec 125 [.ref q, v0] a h) else none := Rn_call1 c166_87 rfl (Nat.le_of_ble_eq_true rfl) rfl rfl (Nat.le_of_ble_eq_true rfl)
theorem c166_90 : mcode 166 90 = some (.ireturn, 1, 0, 0, 0) := rfl
theorem r166_90 : Rn 166 (90, [x0, x1], [.int i], a, h) = some (some (.int i), a, h) := Rn_ireti c166_90
theorem c167_0 : mcode 167 0 = some (.aload_n 0, 1, 0, 0, 0) := rfl
theorem r167_0 : Rn 167 (0, [some (.ref q), x1, x2, x3], st, a, h) = Rn 167 (1, [some (.ref q), x1, x2, x3], .ref q :: st, a, h) := Rn_go c167_0 rfl
theorem c167_1 : mcode 167 1 = some (.getfield 7, 3, 6, 0, 0) := rfl
theorem r167_1 : Rn 167 (1, [x0, x1, x2, x3], .ref q :: st, a, h) = Kv 167 4 [x0, x1, x2, x3] st a h (mgf h q 6 0) := Rn_getf c167_1 rfl
theorem c167_4 : mcode 167 4 = some (.aload_n 0, 1, 0, 0, 0) := rfl
theorem r167_4 : Rn 167 (4, [some (.ref q), x1, x2, x3], st, a, h) = Rn 167 (5, [some (.ref q), x1, x2, x3], .ref q :: st, a, h) := Rn_go c167_4 rfl
theorem c167_5 : mcode 167 5 = some (.getfield 19, 3, 6, 3, 0) := rfl
theorem r167_5 : Rn 167 (5, [x0, x1, x2, x3], .ref q :: st, a, h) = Kv 167 8 [x0, x1, x2, x3] st a h (mgf h q 6 3) := Rn_getf c167_5 rfl
theorem c167_8 : mcode 167 8 = some (.invokestatic 157, 3, 127, 2, 0) := rfl
theorem r167_8 : Rn 167 (8, [x0, x1, x2, x3], [v1, v0], a, h) = Bk 167 11 [x0, x1, x2, x3] [] (Ec 127 [v0, v1] a h) := Rn_call0 c167_8 (fun z => nomatch z) rfl (Nat.le_of_ble_eq_true rfl) rfl rfl (Nat.le_of_ble_eq_true rfl)
theorem c167_11 : mcode 167 11 = some (.aload_n 0, 1, 0, 0, 0) := rfl
theorem r167_11 : Rn 167 (11, [some (.ref q), x1, x2, x3], st, a, h) = Rn 167 (12, [some (.ref q), x1, x2, x3], .ref q :: st, a, h) := Rn_go c167_11 rfl
theorem c167_12 : mcode 167 12 = some (.iload_n 2, 1, 0, 0, 0) := rfl
theorem r167_12 : Rn 167 (12, [x0, x1, some (.int i), x3], st, a, h) = Rn 167 (13, [x0, x1, some (.int i), x3], .int i :: st, a, h) := Rn_go c167_12 rfl
theorem c167_13 : mcode 167 13 = some (.invokevirtual 138, 3, 159, 1, 6) := rfl
theorem r167_13 : Rn 167 (13, [x0, x1, x2, x3], [v0, .ref q], a, h) = if mis h q 6 = true then Bk 167 16 [x0, x1, x2, x3] [] (Ec 159 [.ref q, v0] a h) else none := Rn_call1 c167_13 rfl (Nat.le_of_ble_eq_true rfl) rfl rfl (Nat.le_of_ble_eq_true rfl)
theorem c167_16 : mcode 167 16 = some (.aload_n 0, 1, 0, 0, 0) := rfl
theorem r167_16 : Rn 167 (16, [some (.ref q), x1, x2, x3], st, a, h) = Rn 167 (17, [some (.ref q), x1, x2, x3], .ref q :: st, a, h) := Rn_go c167_16 rfl
theorem c167_17 : mcode 167 17 = some (.getfield 7, 3, 6, 0, 0) := rfl
theorem r167_17 : Rn 167 (17, [x0, x1, x2, x3], .ref q :: st, a, h) = Kv 167 20 [x0, x1, x2, x3] st a h (mgf h q 6 0) := Rn_getf c167_17 rfl
theorem c167_20 : mcode 167 20 = some (.iload_n 1, 1, 0, 0, 0) := rfl
theorem r167_20 : Rn 167 (20, [x0, some (.int i), x2, x3], st, a, h) = Rn 167 (21, [x0, some (.int i), x2, x3], .int i :: st, a, h) := Rn_go c167_20 rfl
theorem c167_21 : mcode 167 21 = some (.iaload, 1, 0, 0, 0) := rfl
theorem r167_21 : Rn 167 (21, [x0, x1, x2, x3], .int i :: .ref q :: st, a, h) = Ki 167 22 [x0, x1, x2, x3] st a h (mld h q i false) := Rn_iald c167_21 rfl
theorem c167_22 : mcode 167 22 = some (.istore_n 3, 1, 0, 0, 0) := rfl
theorem r167_22 : Rn 167 (22, [x0, x1, x2, x3], .int i :: st, a, h) = Nl x2 (Rn 167 (23, [x0, x1, x2, some (.int i)], st, a, h)) := Rn_st1 (k := 3) (v := .int i) x2 c167_22 rfl rfl rfl rfl
theorem c167_23 : mcode 167 23 = some (.aload_n 0, 1, 0, 0, 0) := rfl
theorem r167_23 : Rn 167 (23, [some (.ref q), x1, x2, x3], st, a, h) = Rn 167 (24, [some (.ref q), x1, x2, x3], .ref q :: st, a, h) := Rn_go c167_23 rfl
theorem c167_24 : mcode 167 24 = some (.getfield 19, 3, 6, 3, 0) := rfl
theorem r167_24 : Rn 167 (24, [x0, x1, x2, x3], .ref q :: st, a, h) = Kv 167 27 [x0, x1, x2, x3] st a h (mgf h q 6 3) := Rn_getf c167_24 rfl
theorem c167_27 : mcode 167 27 = some (.aload_n 0, 1, 0, 0, 0) := rfl
theorem r167_27 : Rn 167 (27, [some (.ref q), x1, x2, x3], st, a, h) = Rn 167 (28, [some (.ref q), x1, x2, x3], .ref q :: st, a, h) := Rn_go c167_27 rfl
theorem c167_28 : mcode 167 28 = some (.getfield 7, 3, 6, 0, 0) := rfl
theorem r167_28 : Rn 167 (28, [x0, x1, x2, x3], .ref q :: st, a, h) = Kv 167 31 [x0, x1, x2, x3] st a h (mgf h q 6 0) := Rn_getf c167_28 rfl
theorem c167_31 : mcode 167 31 = some (.invokestatic 157, 3, 127, 2, 0) := rfl
theorem r167_31 : Rn 167 (31, [x0, x1, x2, x3], [v1, v0], a, h) = Bk 167 34 [x0, x1, x2, x3] [] (Ec 127 [v0, v1] a h) := Rn_call0 c167_31 (fun z => nomatch z) rfl (Nat.le_of_ble_eq_true rfl) rfl rfl (Nat.le_of_ble_eq_true rfl)
theorem c167_34 : mcode 167 34 = some (.iload_n 3, 1, 0, 0, 0) := rfl
theorem r167_34 : Rn 167 (34, [x0, x1, x2, some (.int i)], st, a, h) = Rn 167 (35, [x0, x1, x2, some (.int i)], .int i :: st, a, h) := Rn_go c167_34 rfl
theorem c167_35 : mcode 167 35 = some (.ireturn, 1, 0, 0, 0) := rfl
theorem r167_35 : Rn 167 (35, [x0, x1, x2, x3], [.int i], a, h) = some (some (.int i), a, h) := Rn_ireti c167_35
theorem c168_0 : mcode 168 0 = some (.aload_n 0, 1, 0, 0, 0) := rfl
theorem r168_0 : Rn 168 (0, [some (.ref q), x1, x2, x3], st, a, h) = Rn 168 (1, [some (.ref q), x1, x2, x3], .ref q :: st, a, h) := Rn_go c168_0 rfl
theorem c168_1 : mcode 168 1 = some (.iload_n 1, 1, 0, 0, 0) := rfl
theorem r168_1 : Rn 168 (1, [x0, some (.int i), x2, x3], st, a, h) = Rn 168 (2, [x0, some (.int i), x2, x3], .int i :: st, a, h) := Rn_go c168_1 rfl
theorem c168_2 : mcode 168 2 = some (.invokevirtual 98, 3, 130, 1, 6) := rfl
theorem r168_2 : Rn 168 (2, [x0, x1, x2, x3], [v0, .ref q], a, h) = if mis h q 6 = true then Bk 168 5 [x0, x1, x2, x3] [] (Ec 130 [.ref q, v0] a h) else none := Rn_call1 c168_2 rfl (Nat.le_of_ble_eq_true rfl) rfl rfl (Nat.le_of_ble_eq_true rfl)
theorem c168_5 : mcode 168 5 = some (.ifCond .eq 40, 3, 0, 0, 0) := rfl
theorem r168_5 : Rn 168 (5, [x0, x1, x2, x3], .int i :: st, a, h) = if i = 0 then Rn 168 (45, [x0, x1, x2, x3], st, a, h) else Rn 168 (8, [x0, x1, x2, x3], st, a, h) := Rn_ifc c168_5 mc_eq rfl rfl
theorem c168_8 : mcode 168 8 = some (.iload_n 2, 1, 0, 0, 0) := rfl
theorem r168_8 : Rn 168 (8, [x0, x1, some (.int i), x3], st, a, h) = Rn 168 (9, [x0, x1, some (.int i), x3], .int i :: st, a, h) := Rn_go c168_8 rfl
theorem c168_9 : mcode 168 9 = some (.i2l, 1, 0, 0, 0) := rfl
theorem r168_9 : Rn 168 (9, [x0, x1, x2, x3], .int i :: st, a, h) = Rn 168 (10, [x0, x1, x2, x3], .long i.toInt64 :: st, a, h) := Rn_go c168_9 rfl
theorem c168_10 : mcode 168 10 = some (.lconst 1, 1, 0, 0, 0) := rfl
theorem r168_10 : Rn 168 (10, [x0, x1, x2, x3], st, a, h) = Rn 168 (11, [x0, x1, x2, x3], .long (1 : Int64) :: st, a, h) := Rn_go c168_10 rfl
theorem c168_11 : mcode 168 11 = some (.ldc2_w 66, 3, 0, 0, 5) := rfl
theorem r168_11 : Rn 168 (11, [x0, x1, x2, x3], st, a, h) = Rn 168 (14, [x0, x1, x2, x3], .long (5 : Int64) :: st, a, h) := Rn_go c168_11 rfl
theorem c168_14 : mcode 168 14 = some (.invokestatic 52, 3, 124, 3, 0) := rfl
theorem r168_14 : Rn 168 (14, [x0, x1, x2, x3], [v2, v1, v0], a, h) = Bk 168 17 [x0, x1, x2, x3] [] (Ec 124 [v0, v1, v2] a h) := Rn_call0 c168_14 (fun z => nomatch z) rfl (Nat.le_of_ble_eq_true rfl) rfl rfl (Nat.le_of_ble_eq_true rfl)
theorem c168_17 : mcode 168 17 = some (.ifCond .eq 28, 3, 0, 0, 0) := rfl
theorem r168_17 : Rn 168 (17, [x0, x1, x2, x3], .int i :: st, a, h) = if i = 0 then Rn 168 (45, [x0, x1, x2, x3], st, a, h) else Rn 168 (20, [x0, x1, x2, x3], st, a, h) := Rn_ifc c168_17 mc_eq rfl rfl
theorem c168_20 : mcode 168 20 = some (.iload_n 3, 1, 0, 0, 0) := rfl
theorem r168_20 : Rn 168 (20, [x0, x1, x2, some (.int i)], st, a, h) = Rn 168 (21, [x0, x1, x2, some (.int i)], .int i :: st, a, h) := Rn_go c168_20 rfl
theorem c168_21 : mcode 168 21 = some (.i2l, 1, 0, 0, 0) := rfl
theorem r168_21 : Rn 168 (21, [x0, x1, x2, x3], .int i :: st, a, h) = Rn 168 (22, [x0, x1, x2, x3], .long i.toInt64 :: st, a, h) := Rn_go c168_21 rfl
theorem c168_22 : mcode 168 22 = some (.lconst 0, 1, 0, 0, 0) := rfl
theorem r168_22 : Rn 168 (22, [x0, x1, x2, x3], st, a, h) = Rn 168 (23, [x0, x1, x2, x3], .long (0 : Int64) :: st, a, h) := Rn_go c168_22 rfl
theorem c168_23 : mcode 168 23 = some (.ldc2_w 161, 3, 0, 0, 100) := rfl
theorem r168_23 : Rn 168 (23, [x0, x1, x2, x3], st, a, h) = Rn 168 (26, [x0, x1, x2, x3], .long (100 : Int64) :: st, a, h) := Rn_go c168_23 rfl
theorem c168_26 : mcode 168 26 = some (.invokestatic 52, 3, 124, 3, 0) := rfl
theorem r168_26 : Rn 168 (26, [x0, x1, x2, x3], [v2, v1, v0], a, h) = Bk 168 29 [x0, x1, x2, x3] [] (Ec 124 [v0, v1, v2] a h) := Rn_call0 c168_26 (fun z => nomatch z) rfl (Nat.le_of_ble_eq_true rfl) rfl rfl (Nat.le_of_ble_eq_true rfl)
theorem c168_29 : mcode 168 29 = some (.ifCond .eq 16, 3, 0, 0, 0) := rfl
theorem r168_29 : Rn 168 (29, [x0, x1, x2, x3], .int i :: st, a, h) = if i = 0 then Rn 168 (45, [x0, x1, x2, x3], st, a, h) else Rn 168 (32, [x0, x1, x2, x3], st, a, h) := Rn_ifc c168_29 mc_eq rfl rfl
theorem c168_32 : mcode 168 32 = some (.aload_n 0, 1, 0, 0, 0) := rfl
theorem r168_32 : Rn 168 (32, [some (.ref q), x1, x2, x3], st, a, h) = Rn 168 (33, [some (.ref q), x1, x2, x3], .ref q :: st, a, h) := Rn_go c168_32 rfl
theorem c168_33 : mcode 168 33 = some (.iload_n 1, 1, 0, 0, 0) := rfl
theorem r168_33 : Rn 168 (33, [x0, some (.int i), x2, x3], st, a, h) = Rn 168 (34, [x0, some (.int i), x2, x3], .int i :: st, a, h) := Rn_go c168_33 rfl
theorem c168_34 : mcode 168 34 = some (.iload_n 2, 1, 0, 0, 0) := rfl
theorem r168_34 : Rn 168 (34, [x0, x1, some (.int i), x3], st, a, h) = Rn 168 (35, [x0, x1, some (.int i), x3], .int i :: st, a, h) := Rn_go c168_34 rfl
theorem c168_35 : mcode 168 35 = some (.invokestatic 79, 3, 131, 2, 0) := rfl
theorem r168_35 : Rn 168 (35, [x0, x1, x2, x3], [v1, v0, .ref q0], a, h) = Bk 168 38 [x0, x1, x2, x3] [.ref q0] (Ec 131 [v0, v1] a h) := Rn_call0 c168_35 (fun z => nomatch z) rfl (Nat.le_of_ble_eq_true rfl) rfl rfl (Nat.le_of_ble_eq_true rfl)
theorem c168_38 : mcode 168 38 = some (.iload_n 3, 1, 0, 0, 0) := rfl
theorem r168_38 : Rn 168 (38, [x0, x1, x2, some (.int i)], st, a, h) = Rn 168 (39, [x0, x1, x2, some (.int i)], .int i :: st, a, h) := Rn_go c168_38 rfl
theorem c168_39 : mcode 168 39 = some (.invokevirtual 163, 3, 167, 2, 6) := rfl
theorem r168_39 : Rn 168 (39, [x0, x1, x2, x3], [v1, v0, .ref q], a, h) = if mis h q 6 = true then Bk 168 42 [x0, x1, x2, x3] [] (Ec 167 [.ref q, v0, v1] a h) else none := Rn_call1 c168_39 rfl (Nat.le_of_ble_eq_true rfl) rfl rfl (Nat.le_of_ble_eq_true rfl)
theorem c168_42 : mcode 168 42 = some (.goto 9, 3, 0, 0, 0) := rfl
theorem r168_42 : Rn 168 (42, [x0, x1, x2, x3], st, a, h) = Rn 168 (51, [x0, x1, x2, x3], st, a, h) := Rn_goto c168_42 rfl
theorem c168_45 : mcode 168 45 = some (.aload_n 0, 1, 0, 0, 0) := rfl
theorem r168_45 : Rn 168 (45, [some (.ref q), x1, x2, x3], st, a, h) = Rn 168 (46, [some (.ref q), x1, x2, x3], .ref q :: st, a, h) := Rn_go c168_45 rfl
theorem c168_46 : mcode 168 46 = some (.ldc 37, 2, 0, 0, -1000001) := rfl
theorem r168_46 : Rn 168 (46, [x0, x1, x2, x3], st, a, h) = Rn 168 (48, [x0, x1, x2, x3], .int (-1000001 : Int32) :: st, a, h) := Rn_go c168_46 rfl
theorem c168_48 : mcode 168 48 = some (.invokevirtual 39, 3, 125, 1, 6) := rfl
theorem r168_48 : Rn 168 (48, [x0, x1, x2, x3], [v0, .ref q], a, h) = if mis h q 6 = true then Bk 168 51 [x0, x1, x2, x3] [] (Ec 125 [.ref q, v0] a h) else none := Rn_call1 c168_48 rfl (Nat.le_of_ble_eq_true rfl) rfl rfl (Nat.le_of_ble_eq_true rfl)
theorem c168_51 : mcode 168 51 = some (.ireturn, 1, 0, 0, 0) := rfl
theorem r168_51 : Rn 168 (51, [x0, x1, x2, x3], [.int i], a, h) = some (some (.int i), a, h) := Rn_ireti c168_51
theorem c169_0 : mcode 169 0 = some (.iload_n 1, 1, 0, 0, 0) := rfl
theorem r169_0 : Rn 169 (0, [x0, some (.int i), x2, x3], st, a, h) = Rn 169 (1, [x0, some (.int i), x2, x3], .int i :: st, a, h) := Rn_go c169_0 rfl
theorem c169_1 : mcode 169 1 = some (.invokestatic 43, 3, 128, 1, 0) := rfl
theorem r169_1 : Rn 169 (1, [x0, x1, x2, x3], [v0], a, h) = Bk 169 4 [x0, x1, x2, x3] [] (Ec 128 [v0] a h) := Rn_call0 c169_1 (fun z => nomatch z) rfl (Nat.le_of_ble_eq_true rfl) rfl rfl (Nat.le_of_ble_eq_true rfl)
theorem c169_4 : mcode 169 4 = some (.ifCond .eq 37, 3, 0, 0, 0) := rfl
theorem r169_4 : Rn 169 (4, [x0, x1, x2, x3], .int i :: st, a, h) = if i = 0 then Rn 169 (41, [x0, x1, x2, x3], st, a, h) else Rn 169 (7, [x0, x1, x2, x3], st, a, h) := Rn_ifc c169_4 mc_eq rfl rfl
theorem c169_7 : mcode 169 7 = some (.iload_n 2, 1, 0, 0, 0) := rfl
theorem r169_7 : Rn 169 (7, [x0, x1, some (.int i), x3], st, a, h) = Rn 169 (8, [x0, x1, some (.int i), x3], .int i :: st, a, h) := Rn_go c169_7 rfl
theorem c169_8 : mcode 169 8 = some (.invokestatic 47, 3, 129, 1, 0) := rfl
theorem r169_8 : Rn 169 (8, [x0, x1, x2, x3], [v0], a, h) = Bk 169 11 [x0, x1, x2, x3] [] (Ec 129 [v0] a h) := Rn_call0 c169_8 (fun z => nomatch z) rfl (Nat.le_of_ble_eq_true rfl) rfl rfl (Nat.le_of_ble_eq_true rfl)
theorem c169_11 : mcode 169 11 = some (.ifCond .eq 30, 3, 0, 0, 0) := rfl
theorem r169_11 : Rn 169 (11, [x0, x1, x2, x3], .int i :: st, a, h) = if i = 0 then Rn 169 (41, [x0, x1, x2, x3], st, a, h) else Rn 169 (14, [x0, x1, x2, x3], st, a, h) := Rn_ifc c169_11 mc_eq rfl rfl
theorem c169_14 : mcode 169 14 = some (.iload_n 3, 1, 0, 0, 0) := rfl
theorem r169_14 : Rn 169 (14, [x0, x1, x2, some (.int i)], st, a, h) = Rn 169 (15, [x0, x1, x2, some (.int i)], .int i :: st, a, h) := Rn_go c169_14 rfl
theorem c169_15 : mcode 169 15 = some (.i2l, 1, 0, 0, 0) := rfl
theorem r169_15 : Rn 169 (15, [x0, x1, x2, x3], .int i :: st, a, h) = Rn 169 (16, [x0, x1, x2, x3], .long i.toInt64 :: st, a, h) := Rn_go c169_15 rfl
theorem c169_16 : mcode 169 16 = some (.lconst 0, 1, 0, 0, 0) := rfl
theorem r169_16 : Rn 169 (16, [x0, x1, x2, x3], st, a, h) = Rn 169 (17, [x0, x1, x2, x3], .long (0 : Int64) :: st, a, h) := Rn_go c169_16 rfl
theorem c169_17 : mcode 169 17 = some (.ldc2_w 161, 3, 0, 0, 100) := rfl
theorem r169_17 : Rn 169 (17, [x0, x1, x2, x3], st, a, h) = Rn 169 (20, [x0, x1, x2, x3], .long (100 : Int64) :: st, a, h) := Rn_go c169_17 rfl
theorem c169_20 : mcode 169 20 = some (.invokestatic 52, 3, 124, 3, 0) := rfl
theorem r169_20 : Rn 169 (20, [x0, x1, x2, x3], [v2, v1, v0], a, h) = Bk 169 23 [x0, x1, x2, x3] [] (Ec 124 [v0, v1, v2] a h) := Rn_call0 c169_20 (fun z => nomatch z) rfl (Nat.le_of_ble_eq_true rfl) rfl rfl (Nat.le_of_ble_eq_true rfl)
theorem c169_23 : mcode 169 23 = some (.ifCond .eq 18, 3, 0, 0, 0) := rfl
theorem r169_23 : Rn 169 (23, [x0, x1, x2, x3], .int i :: st, a, h) = if i = 0 then Rn 169 (41, [x0, x1, x2, x3], st, a, h) else Rn 169 (26, [x0, x1, x2, x3], st, a, h) := Rn_ifc c169_23 mc_eq rfl rfl
theorem c169_26 : mcode 169 26 = some (.aload_n 0, 1, 0, 0, 0) := rfl
theorem r169_26 : Rn 169 (26, [some (.ref q), x1, x2, x3], st, a, h) = Rn 169 (27, [some (.ref q), x1, x2, x3], .ref q :: st, a, h) := Rn_go c169_26 rfl
theorem c169_27 : mcode 169 27 = some (.iconst 4, 1, 0, 0, 0) := rfl
theorem r169_27 : Rn 169 (27, [x0, x1, x2, x3], st, a, h) = Rn 169 (28, [x0, x1, x2, x3], .int (4 : Int32) :: st, a, h) := Rn_go c169_27 rfl
theorem c169_28 : mcode 169 28 = some (.iconst 3, 1, 0, 0, 0) := rfl
theorem r169_28 : Rn 169 (28, [x0, x1, x2, x3], st, a, h) = Rn 169 (29, [x0, x1, x2, x3], .int (3 : Int32) :: st, a, h) := Rn_go c169_28 rfl
theorem c169_29 : mcode 169 29 = some (.iload_n 1, 1, 0, 0, 0) := rfl
theorem r169_29 : Rn 169 (29, [x0, some (.int i), x2, x3], st, a, h) = Rn 169 (30, [x0, some (.int i), x2, x3], .int i :: st, a, h) := Rn_go c169_29 rfl
theorem c169_30 : mcode 169 30 = some (.imul, 1, 0, 0, 0) := rfl
theorem r169_30 : Rn 169 (30, [x0, x1, x2, x3], .int j :: .int i :: st, a, h) = Rn 169 (31, [x0, x1, x2, x3], .int (i * j) :: st, a, h) := Rn_go c169_30 rfl
theorem c169_31 : mcode 169 31 = some (.iadd, 1, 0, 0, 0) := rfl
theorem r169_31 : Rn 169 (31, [x0, x1, x2, x3], .int j :: .int i :: st, a, h) = Rn 169 (32, [x0, x1, x2, x3], .int (i + j) :: st, a, h) := Rn_go c169_31 rfl
theorem c169_32 : mcode 169 32 = some (.iload_n 2, 1, 0, 0, 0) := rfl
theorem r169_32 : Rn 169 (32, [x0, x1, some (.int i), x3], st, a, h) = Rn 169 (33, [x0, x1, some (.int i), x3], .int i :: st, a, h) := Rn_go c169_32 rfl
theorem c169_33 : mcode 169 33 = some (.iadd, 1, 0, 0, 0) := rfl
theorem r169_33 : Rn 169 (33, [x0, x1, x2, x3], .int j :: .int i :: st, a, h) = Rn 169 (34, [x0, x1, x2, x3], .int (i + j) :: st, a, h) := Rn_go c169_33 rfl
theorem c169_34 : mcode 169 34 = some (.iload_n 3, 1, 0, 0, 0) := rfl
theorem r169_34 : Rn 169 (34, [x0, x1, x2, some (.int i)], st, a, h) = Rn 169 (35, [x0, x1, x2, some (.int i)], .int i :: st, a, h) := Rn_go c169_34 rfl
theorem c169_35 : mcode 169 35 = some (.invokevirtual 163, 3, 167, 2, 6) := rfl
theorem r169_35 : Rn 169 (35, [x0, x1, x2, x3], [v1, v0, .ref q], a, h) = if mis h q 6 = true then Bk 169 38 [x0, x1, x2, x3] [] (Ec 167 [.ref q, v0, v1] a h) else none := Rn_call1 c169_35 rfl (Nat.le_of_ble_eq_true rfl) rfl rfl (Nat.le_of_ble_eq_true rfl)
theorem c169_38 : mcode 169 38 = some (.goto 9, 3, 0, 0, 0) := rfl
theorem r169_38 : Rn 169 (38, [x0, x1, x2, x3], st, a, h) = Rn 169 (47, [x0, x1, x2, x3], st, a, h) := Rn_goto c169_38 rfl
theorem c169_41 : mcode 169 41 = some (.aload_n 0, 1, 0, 0, 0) := rfl
theorem r169_41 : Rn 169 (41, [some (.ref q), x1, x2, x3], st, a, h) = Rn 169 (42, [some (.ref q), x1, x2, x3], .ref q :: st, a, h) := Rn_go c169_41 rfl
theorem c169_42 : mcode 169 42 = some (.ldc 37, 2, 0, 0, -1000001) := rfl
theorem r169_42 : Rn 169 (42, [x0, x1, x2, x3], st, a, h) = Rn 169 (44, [x0, x1, x2, x3], .int (-1000001 : Int32) :: st, a, h) := Rn_go c169_42 rfl
theorem c169_44 : mcode 169 44 = some (.invokevirtual 39, 3, 125, 1, 6) := rfl
theorem r169_44 : Rn 169 (44, [x0, x1, x2, x3], [v0, .ref q], a, h) = if mis h q 6 = true then Bk 169 47 [x0, x1, x2, x3] [] (Ec 125 [.ref q, v0] a h) else none := Rn_call1 c169_44 rfl (Nat.le_of_ble_eq_true rfl) rfl rfl (Nat.le_of_ble_eq_true rfl)
theorem c169_47 : mcode 169 47 = some (.ireturn, 1, 0, 0, 0) := rfl
theorem r169_47 : Rn 169 (47, [x0, x1, x2, x3], [.int i], a, h) = some (some (.int i), a, h) := Rn_ireti c169_47
theorem c170_0 : mcode 170 0 = some (.aload_n 0, 1, 0, 0, 0) := rfl
theorem r170_0 : Rn 170 (0, [some (.ref q), x1, x2, x3], st, a, h) = Rn 170 (1, [some (.ref q), x1, x2, x3], .ref q :: st, a, h) := Rn_go c170_0 rfl
theorem c170_1 : mcode 170 1 = some (.iload_n 1, 1, 0, 0, 0) := rfl
theorem r170_1 : Rn 170 (1, [x0, some (.int i), x2, x3], st, a, h) = Rn 170 (2, [x0, some (.int i), x2, x3], .int i :: st, a, h) := Rn_go c170_1 rfl
theorem c170_2 : mcode 170 2 = some (.invokevirtual 98, 3, 130, 1, 6) := rfl
theorem r170_2 : Rn 170 (2, [x0, x1, x2, x3], [v0, .ref q], a, h) = if mis h q 6 = true then Bk 170 5 [x0, x1, x2, x3] [] (Ec 130 [.ref q, v0] a h) else none := Rn_call1 c170_2 rfl (Nat.le_of_ble_eq_true rfl) rfl rfl (Nat.le_of_ble_eq_true rfl)
theorem c170_5 : mcode 170 5 = some (.ifCond .ne 10, 3, 0, 0, 0) := rfl
theorem r170_5 : Rn 170 (5, [x0, x1, x2, x3], .int i :: st, a, h) = if i = 0 then Rn 170 (8, [x0, x1, x2, x3], st, a, h) else Rn 170 (15, [x0, x1, x2, x3], st, a, h) := Rn_ifcn c170_5 mc_ne rfl rfl
theorem c170_8 : mcode 170 8 = some (.aload_n 0, 1, 0, 0, 0) := rfl
theorem r170_8 : Rn 170 (8, [some (.ref q), x1, x2, x3], st, a, h) = Rn 170 (9, [some (.ref q), x1, x2, x3], .ref q :: st, a, h) := Rn_go c170_8 rfl
theorem c170_9 : mcode 170 9 = some (.ldc 37, 2, 0, 0, -1000001) := rfl
theorem r170_9 : Rn 170 (9, [x0, x1, x2, x3], st, a, h) = Rn 170 (11, [x0, x1, x2, x3], .int (-1000001 : Int32) :: st, a, h) := Rn_go c170_9 rfl
theorem c170_11 : mcode 170 11 = some (.invokevirtual 39, 3, 125, 1, 6) := rfl
theorem r170_11 : Rn 170 (11, [x0, x1, x2, x3], [v0, .ref q], a, h) = if mis h q 6 = true then Bk 170 14 [x0, x1, x2, x3] [] (Ec 125 [.ref q, v0] a h) else none := Rn_call1 c170_11 rfl (Nat.le_of_ble_eq_true rfl) rfl rfl (Nat.le_of_ble_eq_true rfl)
theorem c170_14 : mcode 170 14 = some (.ireturn, 1, 0, 0, 0) := rfl
theorem r170_14 : Rn 170 (14, [x0, x1, x2, x3], [.int i], a, h) = some (some (.int i), a, h) := Rn_ireti c170_14
theorem c170_15 : mcode 170 15 = some (.aload_n 0, 1, 0, 0, 0) := rfl
theorem r170_15 : Rn 170 (15, [some (.ref q), x1, x2, x3], st, a, h) = Rn 170 (16, [some (.ref q), x1, x2, x3], .ref q :: st, a, h) := Rn_go c170_15 rfl
theorem c170_16 : mcode 170 16 = some (.getfield 7, 3, 6, 0, 0) := rfl
theorem r170_16 : Rn 170 (16, [x0, x1, x2, x3], .ref q :: st, a, h) = Kv 170 19 [x0, x1, x2, x3] st a h (mgf h q 6 0) := Rn_getf c170_16 rfl
theorem c170_19 : mcode 170 19 = some (.aload_n 0, 1, 0, 0, 0) := rfl
theorem r170_19 : Rn 170 (19, [some (.ref q), x1, x2, x3], st, a, h) = Rn 170 (20, [some (.ref q), x1, x2, x3], .ref q :: st, a, h) := Rn_go c170_19 rfl
theorem c170_20 : mcode 170 20 = some (.getfield 19, 3, 6, 3, 0) := rfl
theorem r170_20 : Rn 170 (20, [x0, x1, x2, x3], .ref q :: st, a, h) = Kv 170 23 [x0, x1, x2, x3] st a h (mgf h q 6 3) := Rn_getf c170_20 rfl
theorem c170_23 : mcode 170 23 = some (.invokestatic 157, 3, 127, 2, 0) := rfl
theorem r170_23 : Rn 170 (23, [x0, x1, x2, x3], [v1, v0], a, h) = Bk 170 26 [x0, x1, x2, x3] [] (Ec 127 [v0, v1] a h) := Rn_call0 c170_23 (fun z => nomatch z) rfl (Nat.le_of_ble_eq_true rfl) rfl rfl (Nat.le_of_ble_eq_true rfl)
theorem c170_26 : mcode 170 26 = some (.aload_n 0, 1, 0, 0, 0) := rfl
theorem r170_26 : Rn 170 (26, [some (.ref q), x1, x2, x3], st, a, h) = Rn 170 (27, [some (.ref q), x1, x2, x3], .ref q :: st, a, h) := Rn_go c170_26 rfl
theorem c170_27 : mcode 170 27 = some (.iload_n 1, 1, 0, 0, 0) := rfl
theorem r170_27 : Rn 170 (27, [x0, some (.int i), x2, x3], st, a, h) = Rn 170 (28, [x0, some (.int i), x2, x3], .int i :: st, a, h) := Rn_go c170_27 rfl
theorem c170_28 : mcode 170 28 = some (.iconst 5, 1, 0, 0, 0) := rfl
theorem r170_28 : Rn 170 (28, [x0, x1, x2, x3], st, a, h) = Rn 170 (29, [x0, x1, x2, x3], .int (5 : Int32) :: st, a, h) := Rn_go c170_28 rfl
theorem c170_29 : mcode 170 29 = some (.invokevirtual 63, 3, 132, 2, 6) := rfl
theorem r170_29 : Rn 170 (29, [x0, x1, x2, x3], [v1, v0, .ref q], a, h) = if mis h q 6 = true then Bk 170 32 [x0, x1, x2, x3] [] (Ec 132 [.ref q, v0, v1] a h) else none := Rn_call1 c170_29 rfl (Nat.le_of_ble_eq_true rfl) rfl rfl (Nat.le_of_ble_eq_true rfl)
theorem c170_32 : mcode 170 32 = some (.istore_n 2, 1, 0, 0, 0) := rfl
theorem r170_32 : Rn 170 (32, [x0, x1, x2, x3], .int i :: st, a, h) = Nl x1 (Rn 170 (33, [x0, x1, some (.int i), x3], st, a, h)) := Rn_st1 (k := 2) (v := .int i) x1 c170_32 rfl rfl rfl rfl
theorem c170_33 : mcode 170 33 = some (.iconst 0, 1, 0, 0, 0) := rfl
theorem r170_33 : Rn 170 (33, [x0, x1, x2, x3], st, a, h) = Rn 170 (34, [x0, x1, x2, x3], .int (0 : Int32) :: st, a, h) := Rn_go c170_33 rfl
theorem c170_34 : mcode 170 34 = some (.istore_n 3, 1, 0, 0, 0) := rfl
theorem r170_34 : Rn 170 (34, [x0, x1, x2, x3], .int i :: st, a, h) = Nl x2 (Rn 170 (35, [x0, x1, x2, some (.int i)], st, a, h)) := Rn_st1 (k := 3) (v := .int i) x2 c170_34 rfl rfl rfl rfl
theorem c170_35 : mcode 170 35 = some (.iload_n 3, 1, 0, 0, 0) := rfl
theorem r170_35 : Rn 170 (35, [x0, x1, x2, some (.int i)], st, a, h) = Rn 170 (36, [x0, x1, x2, some (.int i)], .int i :: st, a, h) := Rn_go c170_35 rfl
theorem c170_36 : mcode 170 36 = some (.sipush 200, 3, 0, 0, 0) := rfl
theorem r170_36 : Rn 170 (36, [x0, x1, x2, x3], st, a, h) = Rn 170 (39, [x0, x1, x2, x3], .int (200 : Int32) :: st, a, h) := Rn_go c170_36 rfl
theorem c170_39 : mcode 170 39 = some (.if_icmp .gt 24, 3, 0, 0, 0) := rfl
theorem r170_39 : Rn 170 (39, [x0, x1, x2, x3], .int j :: .int i :: st, a, h) = if j < i then Rn 170 (63, [x0, x1, x2, x3], st, a, h) else Rn 170 (42, [x0, x1, x2, x3], st, a, h) := Rn_icmp c170_39 mc_gt rfl rfl
theorem c170_42 : mcode 170 42 = some (.aload_n 0, 1, 0, 0, 0) := rfl
theorem r170_42 : Rn 170 (42, [some (.ref q), x1, x2, x3], st, a, h) = Rn 170 (43, [some (.ref q), x1, x2, x3], .ref q :: st, a, h) := Rn_go c170_42 rfl
theorem c170_43 : mcode 170 43 = some (.iload_n 1, 1, 0, 0, 0) := rfl
theorem r170_43 : Rn 170 (43, [x0, some (.int i), x2, x3], st, a, h) = Rn 170 (44, [x0, some (.int i), x2, x3], .int i :: st, a, h) := Rn_go c170_43 rfl
theorem c170_44 : mcode 170 44 = some (.iconst 5, 1, 0, 0, 0) := rfl
theorem r170_44 : Rn 170 (44, [x0, x1, x2, x3], st, a, h) = Rn 170 (45, [x0, x1, x2, x3], .int (5 : Int32) :: st, a, h) := Rn_go c170_44 rfl
theorem c170_45 : mcode 170 45 = some (.invokevirtual 63, 3, 132, 2, 6) := rfl
theorem r170_45 : Rn 170 (45, [x0, x1, x2, x3], [v1, v0, .ref q], a, h) = if mis h q 6 = true then Bk 170 48 [x0, x1, x2, x3] [] (Ec 132 [.ref q, v0, v1] a h) else none := Rn_call1 c170_45 rfl (Nat.le_of_ble_eq_true rfl) rfl rfl (Nat.le_of_ble_eq_true rfl)
theorem c170_48 : mcode 170 48 = some (.iload_n 2, 1, 0, 0, 0) := rfl
theorem r170_48 : Rn 170 (48, [x0, x1, some (.int i), x3], st, a, h) = Rn 170 (49, [x0, x1, some (.int i), x3], .int i :: st, a, h) := Rn_go c170_48 rfl
theorem c170_49 : mcode 170 49 = some (.if_icmp .ne 14, 3, 0, 0, 0) := rfl
theorem r170_49 : Rn 170 (49, [x0, x1, x2, x3], .int j :: .int i :: st, a, h) = if i = j then Rn 170 (52, [x0, x1, x2, x3], st, a, h) else Rn 170 (63, [x0, x1, x2, x3], st, a, h) := Rn_icmpn c170_49 mc_ne rfl rfl
theorem c170_52 : mcode 170 52 = some (.aload_n 0, 1, 0, 0, 0) := rfl
theorem r170_52 : Rn 170 (52, [some (.ref q), x1, x2, x3], st, a, h) = Rn 170 (53, [some (.ref q), x1, x2, x3], .ref q :: st, a, h) := Rn_go c170_52 rfl
theorem c170_53 : mcode 170 53 = some (.iconst 0, 1, 0, 0, 0) := rfl
theorem r170_53 : Rn 170 (53, [x0, x1, x2, x3], st, a, h) = Rn 170 (54, [x0, x1, x2, x3], .int (0 : Int32) :: st, a, h) := Rn_go c170_53 rfl
theorem c170_54 : mcode 170 54 = some (.invokevirtual 131, 3, 158, 1, 6) := rfl
theorem r170_54 : Rn 170 (54, [x0, x1, x2, x3], [v0, .ref q], a, h) = if mis h q 6 = true then Bk 170 57 [x0, x1, x2, x3] [] (Ec 158 [.ref q, v0] a h) else none := Rn_call1 c170_54 rfl (Nat.le_of_ble_eq_true rfl) rfl rfl (Nat.le_of_ble_eq_true rfl)
theorem c170_57 : mcode 170 57 = some (.iinc 3 1, 3, 0, 0, 0) := rfl
theorem r170_57 : Rn 170 (57, [x0, x1, x2, some (.int i)], st, a, h) = Nl x2 (Rn 170 (60, [x0, x1, x2, some (.int (i + (1 : Int32)))], st, a, h)) := Rn_st1 (k := 3) (v := .int (i + (1 : Int32))) x2 c170_57 rfl rfl rfl rfl
theorem c170_60 : mcode 170 60 = some (.goto (-25), 3, 0, 0, 0) := rfl
theorem r170_60 : Rn 170 (60, [x0, x1, x2, x3], st, a, h) = Rn 170 (35, [x0, x1, x2, x3], st, a, h) := Rn_goto c170_60 rfl
theorem c170_63 : mcode 170 63 = some (.aload_n 0, 1, 0, 0, 0) := rfl
theorem r170_63 : Rn 170 (63, [some (.ref q), x1, x2, x3], st, a, h) = Rn 170 (64, [some (.ref q), x1, x2, x3], .ref q :: st, a, h) := Rn_go c170_63 rfl
theorem c170_64 : mcode 170 64 = some (.getfield 19, 3, 6, 3, 0) := rfl
theorem r170_64 : Rn 170 (64, [x0, x1, x2, x3], .ref q :: st, a, h) = Kv 170 67 [x0, x1, x2, x3] st a h (mgf h q 6 3) := Rn_getf c170_64 rfl
theorem c170_67 : mcode 170 67 = some (.aload_n 0, 1, 0, 0, 0) := rfl
theorem r170_67 : Rn 170 (67, [some (.ref q), x1, x2, x3], st, a, h) = Rn 170 (68, [some (.ref q), x1, x2, x3], .ref q :: st, a, h) := Rn_go c170_67 rfl
theorem c170_68 : mcode 170 68 = some (.getfield 7, 3, 6, 0, 0) := rfl
theorem r170_68 : Rn 170 (68, [x0, x1, x2, x3], .ref q :: st, a, h) = Kv 170 71 [x0, x1, x2, x3] st a h (mgf h q 6 0) := Rn_getf c170_68 rfl
theorem c170_71 : mcode 170 71 = some (.invokestatic 157, 3, 127, 2, 0) := rfl
theorem r170_71 : Rn 170 (71, [x0, x1, x2, x3], [v1, v0], a, h) = Bk 170 74 [x0, x1, x2, x3] [] (Ec 127 [v0, v1] a h) := Rn_call0 c170_71 (fun z => nomatch z) rfl (Nat.le_of_ble_eq_true rfl) rfl rfl (Nat.le_of_ble_eq_true rfl)
theorem c170_74 : mcode 170 74 = some (.iload_n 3, 1, 0, 0, 0) := rfl
theorem r170_74 : Rn 170 (74, [x0, x1, x2, some (.int i)], st, a, h) = Rn 170 (75, [x0, x1, x2, some (.int i)], .int i :: st, a, h) := Rn_go c170_74 rfl
theorem c170_75 : mcode 170 75 = some (.sipush 200, 3, 0, 0, 0) := rfl
theorem r170_75 : Rn 170 (75, [x0, x1, x2, x3], st, a, h) = Rn 170 (78, [x0, x1, x2, x3], .int (200 : Int32) :: st, a, h) := Rn_go c170_75 rfl
theorem c170_78 : mcode 170 78 = some (.if_icmp .gt 7, 3, 0, 0, 0) := rfl
theorem r170_78 : Rn 170 (78, [x0, x1, x2, x3], .int j :: .int i :: st, a, h) = if j < i then Rn 170 (85, [x0, x1, x2, x3], st, a, h) else Rn 170 (81, [x0, x1, x2, x3], st, a, h) := Rn_icmp c170_78 mc_gt rfl rfl
theorem c170_81 : mcode 170 81 = some (.iload_n 3, 1, 0, 0, 0) := rfl
theorem r170_81 : Rn 170 (81, [x0, x1, x2, some (.int i)], st, a, h) = Rn 170 (82, [x0, x1, x2, some (.int i)], .int i :: st, a, h) := Rn_go c170_81 rfl
theorem c170_82 : mcode 170 82 = some (.goto 9, 3, 0, 0, 0) := rfl
theorem r170_82 : Rn 170 (82, [x0, x1, x2, x3], st, a, h) = Rn 170 (91, [x0, x1, x2, x3], st, a, h) := Rn_goto c170_82 rfl
theorem c170_85 : mcode 170 85 = some (.aload_n 0, 1, 0, 0, 0) := rfl
theorem r170_85 : Rn 170 (85, [some (.ref q), x1, x2, x3], st, a, h) = Rn 170 (86, [some (.ref q), x1, x2, x3], .ref q :: st, a, h) := Rn_go c170_85 rfl
theorem c170_86 : mcode 170 86 = some (.ldc 38, 2, 0, 0, -1000004) := rfl
theorem r170_86 : Rn 170 (86, [x0, x1, x2, x3], st, a, h) = Rn 170 (88, [x0, x1, x2, x3], .int (-1000004 : Int32) :: st, a, h) := Rn_go c170_86 rfl
theorem c170_88 : mcode 170 88 = some (.invokevirtual 39, 3, 125, 1, 6) := rfl
theorem r170_88 : Rn 170 (88, [x0, x1, x2, x3], [v0, .ref q], a, h) = if mis h q 6 = true then Bk 170 91 [x0, x1, x2, x3] [] (Ec 125 [.ref q, v0] a h) else none := Rn_call1 c170_88 rfl (Nat.le_of_ble_eq_true rfl) rfl rfl (Nat.le_of_ble_eq_true rfl)
theorem c170_91 : mcode 170 91 = some (.ireturn, 1, 0, 0, 0) := rfl
theorem r170_91 : Rn 170 (91, [x0, x1, x2, x3], [.int i], a, h) = some (some (.int i), a, h) := Rn_ireti c170_91
theorem c171_0 : mcode 171 0 = some (.aload_n 0, 1, 0, 0, 0) := rfl
theorem r171_0 : Rn 171 (0, [some (.ref q), x1, x2, x3], st, a, h) = Rn 171 (1, [some (.ref q), x1, x2, x3], .ref q :: st, a, h) := Rn_go c171_0 rfl
theorem c171_1 : mcode 171 1 = some (.iload_n 1, 1, 0, 0, 0) := rfl
theorem r171_1 : Rn 171 (1, [x0, some (.int i), x2, x3], st, a, h) = Rn 171 (2, [x0, some (.int i), x2, x3], .int i :: st, a, h) := Rn_go c171_1 rfl
theorem c171_2 : mcode 171 2 = some (.invokevirtual 98, 3, 130, 1, 6) := rfl
theorem r171_2 : Rn 171 (2, [x0, x1, x2, x3], [v0, .ref q], a, h) = if mis h q 6 = true then Bk 171 5 [x0, x1, x2, x3] [] (Ec 130 [.ref q, v0] a h) else none := Rn_call1 c171_2 rfl (Nat.le_of_ble_eq_true rfl) rfl rfl (Nat.le_of_ble_eq_true rfl)
theorem c171_5 : mcode 171 5 = some (.ifCond .eq 10, 3, 0, 0, 0) := rfl
theorem r171_5 : Rn 171 (5, [x0, x1, x2, x3], .int i :: st, a, h) = if i = 0 then Rn 171 (15, [x0, x1, x2, x3], st, a, h) else Rn 171 (8, [x0, x1, x2, x3], st, a, h) := Rn_ifc c171_5 mc_eq rfl rfl
theorem c171_8 : mcode 171 8 = some (.iload_n 2, 1, 0, 0, 0) := rfl
theorem r171_8 : Rn 171 (8, [x0, x1, some (.int i), x3], st, a, h) = Rn 171 (9, [x0, x1, some (.int i), x3], .int i :: st, a, h) := Rn_go c171_8 rfl
theorem c171_9 : mcode 171 9 = some (.invokestatic 47, 3, 129, 1, 0) := rfl
theorem r171_9 : Rn 171 (9, [x0, x1, x2, x3], [v0], a, h) = Bk 171 12 [x0, x1, x2, x3] [] (Ec 129 [v0] a h) := Rn_call0 c171_9 (fun z => nomatch z) rfl (Nat.le_of_ble_eq_true rfl) rfl rfl (Nat.le_of_ble_eq_true rfl)
theorem c171_12 : mcode 171 12 = some (.ifCond .ne 10, 3, 0, 0, 0) := rfl
theorem r171_12 : Rn 171 (12, [x0, x1, x2, x3], .int i :: st, a, h) = if i = 0 then Rn 171 (15, [x0, x1, x2, x3], st, a, h) else Rn 171 (22, [x0, x1, x2, x3], st, a, h) := Rn_ifcn c171_12 mc_ne rfl rfl
theorem c171_15 : mcode 171 15 = some (.aload_n 0, 1, 0, 0, 0) := rfl
theorem r171_15 : Rn 171 (15, [some (.ref q), x1, x2, x3], st, a, h) = Rn 171 (16, [some (.ref q), x1, x2, x3], .ref q :: st, a, h) := Rn_go c171_15 rfl
theorem c171_16 : mcode 171 16 = some (.ldc 37, 2, 0, 0, -1000001) := rfl
theorem r171_16 : Rn 171 (16, [x0, x1, x2, x3], st, a, h) = Rn 171 (18, [x0, x1, x2, x3], .int (-1000001 : Int32) :: st, a, h) := Rn_go c171_16 rfl
theorem c171_18 : mcode 171 18 = some (.invokevirtual 39, 3, 125, 1, 6) := rfl
theorem r171_18 : Rn 171 (18, [x0, x1, x2, x3], [v0, .ref q], a, h) = if mis h q 6 = true then Bk 171 21 [x0, x1, x2, x3] [] (Ec 125 [.ref q, v0] a h) else none := Rn_call1 c171_18 rfl (Nat.le_of_ble_eq_true rfl) rfl rfl (Nat.le_of_ble_eq_true rfl)
theorem c171_21 : mcode 171 21 = some (.ireturn, 1, 0, 0, 0) := rfl
theorem r171_21 : Rn 171 (21, [x0, x1, x2, x3], [.int i], a, h) = some (some (.int i), a, h) := Rn_ireti c171_21
theorem c171_22 : mcode 171 22 = some (.aload_n 0, 1, 0, 0, 0) := rfl
theorem r171_22 : Rn 171 (22, [some (.ref q), x1, x2, x3], st, a, h) = Rn 171 (23, [some (.ref q), x1, x2, x3], .ref q :: st, a, h) := Rn_go c171_22 rfl
theorem c171_23 : mcode 171 23 = some (.getfield 7, 3, 6, 0, 0) := rfl
theorem r171_23 : Rn 171 (23, [x0, x1, x2, x3], .ref q :: st, a, h) = Kv 171 26 [x0, x1, x2, x3] st a h (mgf h q 6 0) := Rn_getf c171_23 rfl
theorem c171_26 : mcode 171 26 = some (.aload_n 0, 1, 0, 0, 0) := rfl
theorem r171_26 : Rn 171 (26, [some (.ref q), x1, x2, x3], st, a, h) = Rn 171 (27, [some (.ref q), x1, x2, x3], .ref q :: st, a, h) := Rn_go c171_26 rfl
theorem c171_27 : mcode 171 27 = some (.getfield 19, 3, 6, 3, 0) := rfl
theorem r171_27 : Rn 171 (27, [x0, x1, x2, x3], .ref q :: st, a, h) = Kv 171 30 [x0, x1, x2, x3] st a h (mgf h q 6 3) := Rn_getf c171_27 rfl
theorem c171_30 : mcode 171 30 = some (.invokestatic 157, 3, 127, 2, 0) := rfl
theorem r171_30 : Rn 171 (30, [x0, x1, x2, x3], [v1, v0], a, h) = Bk 171 33 [x0, x1, x2, x3] [] (Ec 127 [v0, v1] a h) := Rn_call0 c171_30 (fun z => nomatch z) rfl (Nat.le_of_ble_eq_true rfl) rfl rfl (Nat.le_of_ble_eq_true rfl)
theorem c171_33 : mcode 171 33 = some (.iconst 0, 1, 0, 0, 0) := rfl
theorem r171_33 : Rn 171 (33, [x0, x1, x2, x3], st, a, h) = Rn 171 (34, [x0, x1, x2, x3], .int (0 : Int32) :: st, a, h) := Rn_go c171_33 rfl
theorem c171_34 : mcode 171 34 = some (.istore_n 3, 1, 0, 0, 0) := rfl
theorem r171_34 : Rn 171 (34, [x0, x1, x2, x3], .int i :: st, a, h) = Nl x2 (Rn 171 (35, [x0, x1, x2, some (.int i)], st, a, h)) := Rn_st1 (k := 3) (v := .int i) x2 c171_34 rfl rfl rfl rfl
theorem c171_35 : mcode 171 35 = some (.iload_n 3, 1, 0, 0, 0) := rfl
theorem r171_35 : Rn 171 (35, [x0, x1, x2, some (.int i)], st, a, h) = Rn 171 (36, [x0, x1, x2, some (.int i)], .int i :: st, a, h) := Rn_go c171_35 rfl
theorem c171_36 : mcode 171 36 = some (.sipush 200, 3, 0, 0, 0) := rfl
theorem r171_36 : Rn 171 (36, [x0, x1, x2, x3], st, a, h) = Rn 171 (39, [x0, x1, x2, x3], .int (200 : Int32) :: st, a, h) := Rn_go c171_36 rfl
theorem c171_39 : mcode 171 39 = some (.if_icmp .gt 24, 3, 0, 0, 0) := rfl
theorem r171_39 : Rn 171 (39, [x0, x1, x2, x3], .int j :: .int i :: st, a, h) = if j < i then Rn 171 (63, [x0, x1, x2, x3], st, a, h) else Rn 171 (42, [x0, x1, x2, x3], st, a, h) := Rn_icmp c171_39 mc_gt rfl rfl
theorem c171_42 : mcode 171 42 = some (.aload_n 0, 1, 0, 0, 0) := rfl
theorem r171_42 : Rn 171 (42, [some (.ref q), x1, x2, x3], st, a, h) = Rn 171 (43, [some (.ref q), x1, x2, x3], .ref q :: st, a, h) := Rn_go c171_42 rfl
theorem c171_43 : mcode 171 43 = some (.iload_n 1, 1, 0, 0, 0) := rfl
theorem r171_43 : Rn 171 (43, [x0, some (.int i), x2, x3], st, a, h) = Rn 171 (44, [x0, some (.int i), x2, x3], .int i :: st, a, h) := Rn_go c171_43 rfl
theorem c171_44 : mcode 171 44 = some (.iconst 2, 1, 0, 0, 0) := rfl
theorem r171_44 : Rn 171 (44, [x0, x1, x2, x3], st, a, h) = Rn 171 (45, [x0, x1, x2, x3], .int (2 : Int32) :: st, a, h) := Rn_go c171_44 rfl
theorem c171_45 : mcode 171 45 = some (.invokevirtual 63, 3, 132, 2, 6) := rfl
theorem r171_45 : Rn 171 (45, [x0, x1, x2, x3], [v1, v0, .ref q], a, h) = if mis h q 6 = true then Bk 171 48 [x0, x1, x2, x3] [] (Ec 132 [.ref q, v0, v1] a h) else none := Rn_call1 c171_45 rfl (Nat.le_of_ble_eq_true rfl) rfl rfl (Nat.le_of_ble_eq_true rfl)
theorem c171_48 : mcode 171 48 = some (.iload_n 2, 1, 0, 0, 0) := rfl
theorem r171_48 : Rn 171 (48, [x0, x1, some (.int i), x3], st, a, h) = Rn 171 (49, [x0, x1, some (.int i), x3], .int i :: st, a, h) := Rn_go c171_48 rfl
theorem c171_49 : mcode 171 49 = some (.if_icmp .eq 14, 3, 0, 0, 0) := rfl
theorem r171_49 : Rn 171 (49, [x0, x1, x2, x3], .int j :: .int i :: st, a, h) = if i = j then Rn 171 (63, [x0, x1, x2, x3], st, a, h) else Rn 171 (52, [x0, x1, x2, x3], st, a, h) := Rn_icmp c171_49 mc_eq rfl rfl
theorem c171_52 : mcode 171 52 = some (.aload_n 0, 1, 0, 0, 0) := rfl
theorem r171_52 : Rn 171 (52, [some (.ref q), x1, x2, x3], st, a, h) = Rn 171 (53, [some (.ref q), x1, x2, x3], .ref q :: st, a, h) := Rn_go c171_52 rfl
theorem c171_53 : mcode 171 53 = some (.iconst 0, 1, 0, 0, 0) := rfl
theorem r171_53 : Rn 171 (53, [x0, x1, x2, x3], st, a, h) = Rn 171 (54, [x0, x1, x2, x3], .int (0 : Int32) :: st, a, h) := Rn_go c171_53 rfl
theorem c171_54 : mcode 171 54 = some (.invokevirtual 131, 3, 158, 1, 6) := rfl
theorem r171_54 : Rn 171 (54, [x0, x1, x2, x3], [v0, .ref q], a, h) = if mis h q 6 = true then Bk 171 57 [x0, x1, x2, x3] [] (Ec 158 [.ref q, v0] a h) else none := Rn_call1 c171_54 rfl (Nat.le_of_ble_eq_true rfl) rfl rfl (Nat.le_of_ble_eq_true rfl)
theorem c171_57 : mcode 171 57 = some (.iinc 3 1, 3, 0, 0, 0) := rfl
theorem r171_57 : Rn 171 (57, [x0, x1, x2, some (.int i)], st, a, h) = Nl x2 (Rn 171 (60, [x0, x1, x2, some (.int (i + (1 : Int32)))], st, a, h)) := Rn_st1 (k := 3) (v := .int (i + (1 : Int32))) x2 c171_57 rfl rfl rfl rfl
theorem c171_60 : mcode 171 60 = some (.goto (-25), 3, 0, 0, 0) := rfl
theorem r171_60 : Rn 171 (60, [x0, x1, x2, x3], st, a, h) = Rn 171 (35, [x0, x1, x2, x3], st, a, h) := Rn_goto c171_60 rfl
theorem c171_63 : mcode 171 63 = some (.aload_n 0, 1, 0, 0, 0) := rfl
theorem r171_63 : Rn 171 (63, [some (.ref q), x1, x2, x3], st, a, h) = Rn 171 (64, [some (.ref q), x1, x2, x3], .ref q :: st, a, h) := Rn_go c171_63 rfl
theorem c171_64 : mcode 171 64 = some (.getfield 19, 3, 6, 3, 0) := rfl
theorem r171_64 : Rn 171 (64, [x0, x1, x2, x3], .ref q :: st, a, h) = Kv 171 67 [x0, x1, x2, x3] st a h (mgf h q 6 3) := Rn_getf c171_64 rfl
theorem c171_67 : mcode 171 67 = some (.aload_n 0, 1, 0, 0, 0) := rfl
theorem r171_67 : Rn 171 (67, [some (.ref q), x1, x2, x3], st, a, h) = Rn 171 (68, [some (.ref q), x1, x2, x3], .ref q :: st, a, h) := Rn_go c171_67 rfl
theorem c171_68 : mcode 171 68 = some (.getfield 7, 3, 6, 0, 0) := rfl
theorem r171_68 : Rn 171 (68, [x0, x1, x2, x3], .ref q :: st, a, h) = Kv 171 71 [x0, x1, x2, x3] st a h (mgf h q 6 0) := Rn_getf c171_68 rfl
theorem c171_71 : mcode 171 71 = some (.invokestatic 157, 3, 127, 2, 0) := rfl
theorem r171_71 : Rn 171 (71, [x0, x1, x2, x3], [v1, v0], a, h) = Bk 171 74 [x0, x1, x2, x3] [] (Ec 127 [v0, v1] a h) := Rn_call0 c171_71 (fun z => nomatch z) rfl (Nat.le_of_ble_eq_true rfl) rfl rfl (Nat.le_of_ble_eq_true rfl)
theorem c171_74 : mcode 171 74 = some (.iload_n 3, 1, 0, 0, 0) := rfl
theorem r171_74 : Rn 171 (74, [x0, x1, x2, some (.int i)], st, a, h) = Rn 171 (75, [x0, x1, x2, some (.int i)], .int i :: st, a, h) := Rn_go c171_74 rfl
theorem c171_75 : mcode 171 75 = some (.sipush 200, 3, 0, 0, 0) := rfl
theorem r171_75 : Rn 171 (75, [x0, x1, x2, x3], st, a, h) = Rn 171 (78, [x0, x1, x2, x3], .int (200 : Int32) :: st, a, h) := Rn_go c171_75 rfl
theorem c171_78 : mcode 171 78 = some (.if_icmp .gt 7, 3, 0, 0, 0) := rfl
theorem r171_78 : Rn 171 (78, [x0, x1, x2, x3], .int j :: .int i :: st, a, h) = if j < i then Rn 171 (85, [x0, x1, x2, x3], st, a, h) else Rn 171 (81, [x0, x1, x2, x3], st, a, h) := Rn_icmp c171_78 mc_gt rfl rfl
theorem c171_81 : mcode 171 81 = some (.iload_n 3, 1, 0, 0, 0) := rfl
theorem r171_81 : Rn 171 (81, [x0, x1, x2, some (.int i)], st, a, h) = Rn 171 (82, [x0, x1, x2, some (.int i)], .int i :: st, a, h) := Rn_go c171_81 rfl
theorem c171_82 : mcode 171 82 = some (.goto 9, 3, 0, 0, 0) := rfl
theorem r171_82 : Rn 171 (82, [x0, x1, x2, x3], st, a, h) = Rn 171 (91, [x0, x1, x2, x3], st, a, h) := Rn_goto c171_82 rfl
theorem c171_85 : mcode 171 85 = some (.aload_n 0, 1, 0, 0, 0) := rfl
theorem r171_85 : Rn 171 (85, [some (.ref q), x1, x2, x3], st, a, h) = Rn 171 (86, [some (.ref q), x1, x2, x3], .ref q :: st, a, h) := Rn_go c171_85 rfl
theorem c171_86 : mcode 171 86 = some (.ldc 38, 2, 0, 0, -1000004) := rfl
theorem r171_86 : Rn 171 (86, [x0, x1, x2, x3], st, a, h) = Rn 171 (88, [x0, x1, x2, x3], .int (-1000004 : Int32) :: st, a, h) := Rn_go c171_86 rfl
theorem c171_88 : mcode 171 88 = some (.invokevirtual 39, 3, 125, 1, 6) := rfl
theorem r171_88 : Rn 171 (88, [x0, x1, x2, x3], [v0, .ref q], a, h) = if mis h q 6 = true then Bk 171 91 [x0, x1, x2, x3] [] (Ec 125 [.ref q, v0] a h) else none := Rn_call1 c171_88 rfl (Nat.le_of_ble_eq_true rfl) rfl rfl (Nat.le_of_ble_eq_true rfl)
theorem c171_91 : mcode 171 91 = some (.ireturn, 1, 0, 0, 0) := rfl
theorem r171_91 : Rn 171 (91, [x0, x1, x2, x3], [.int i], a, h) = some (some (.int i), a, h) := Rn_ireti c171_91
theorem c172_0 : mcode 172 0 = some (.iload_n 1, 1, 0, 0, 0) := rfl
theorem r172_0 : Rn 172 (0, [x0, some (.int i), x2], st, a, h) = Rn 172 (1, [x0, some (.int i), x2], .int i :: st, a, h) := Rn_go c172_0 rfl
theorem c172_1 : mcode 172 1 = some (.invokestatic 43, 3, 128, 1, 0) := rfl
theorem r172_1 : Rn 172 (1, [x0, x1, x2], [v0], a, h) = Bk 172 4 [x0, x1, x2] [] (Ec 128 [v0] a h) := Rn_call0 c172_1 (fun z => nomatch z) rfl (Nat.le_of_ble_eq_true rfl) rfl rfl (Nat.le_of_ble_eq_true rfl)
theorem c172_4 : mcode 172 4 = some (.ifCond .ne 10, 3, 0, 0, 0) := rfl
theorem r172_4 : Rn 172 (4, [x0, x1, x2], .int i :: st, a, h) = if i = 0 then Rn 172 (7, [x0, x1, x2], st, a, h) else Rn 172 (14, [x0, x1, x2], st, a, h) := Rn_ifcn c172_4 mc_ne rfl rfl
theorem c172_7 : mcode 172 7 = some (.aload_n 0, 1, 0, 0, 0) := rfl
theorem r172_7 : Rn 172 (7, [some (.ref q), x1, x2], st, a, h) = Rn 172 (8, [some (.ref q), x1, x2], .ref q :: st, a, h) := Rn_go c172_7 rfl
theorem c172_8 : mcode 172 8 = some (.ldc 37, 2, 0, 0, -1000001) := rfl
theorem r172_8 : Rn 172 (8, [x0, x1, x2], st, a, h) = Rn 172 (10, [x0, x1, x2], .int (-1000001 : Int32) :: st, a, h) := Rn_go c172_8 rfl
theorem c172_10 : mcode 172 10 = some (.invokevirtual 39, 3, 125, 1, 6) := rfl
theorem r172_10 : Rn 172 (10, [x0, x1, x2], [v0, .ref q], a, h) = if mis h q 6 = true then Bk 172 13 [x0, x1, x2] [] (Ec 125 [.ref q, v0] a h) else none := Rn_call1 c172_10 rfl (Nat.le_of_ble_eq_true rfl) rfl rfl (Nat.le_of_ble_eq_true rfl)
theorem c172_13 : mcode 172 13 = some (.ireturn, 1, 0, 0, 0) := rfl
theorem r172_13 : Rn 172 (13, [x0, x1, x2], [.int i], a, h) = some (some (.int i), a, h) := Rn_ireti c172_13
theorem c172_14 : mcode 172 14 = some (.aload_n 0, 1, 0, 0, 0) := rfl
theorem r172_14 : Rn 172 (14, [some (.ref q), x1, x2], st, a, h) = Rn 172 (15, [some (.ref q), x1, x2], .ref q :: st, a, h) := Rn_go c172_14 rfl
theorem c172_15 : mcode 172 15 = some (.getfield 7, 3, 6, 0, 0) := rfl
theorem r172_15 : Rn 172 (15, [x0, x1, x2], .ref q :: st, a, h) = Kv 172 18 [x0, x1, x2] st a h (mgf h q 6 0) := Rn_getf c172_15 rfl
theorem c172_18 : mcode 172 18 = some (.aload_n 0, 1, 0, 0, 0) := rfl
theorem r172_18 : Rn 172 (18, [some (.ref q), x1, x2], st, a, h) = Rn 172 (19, [some (.ref q), x1, x2], .ref q :: st, a, h) := Rn_go c172_18 rfl
theorem c172_19 : mcode 172 19 = some (.getfield 19, 3, 6, 3, 0) := rfl
theorem r172_19 : Rn 172 (19, [x0, x1, x2], .ref q :: st, a, h) = Kv 172 22 [x0, x1, x2] st a h (mgf h q 6 3) := Rn_getf c172_19 rfl
theorem c172_22 : mcode 172 22 = some (.invokestatic 157, 3, 127, 2, 0) := rfl
theorem r172_22 : Rn 172 (22, [x0, x1, x2], [v1, v0], a, h) = Bk 172 25 [x0, x1, x2] [] (Ec 127 [v0, v1] a h) := Rn_call0 c172_22 (fun z => nomatch z) rfl (Nat.le_of_ble_eq_true rfl) rfl rfl (Nat.le_of_ble_eq_true rfl)
theorem c172_25 : mcode 172 25 = some (.iconst 0, 1, 0, 0, 0) := rfl
theorem r172_25 : Rn 172 (25, [x0, x1, x2], st, a, h) = Rn 172 (26, [x0, x1, x2], .int (0 : Int32) :: st, a, h) := Rn_go c172_25 rfl
theorem c172_26 : mcode 172 26 = some (.istore_n 2, 1, 0, 0, 0) := rfl
theorem r172_26 : Rn 172 (26, [x0, x1, x2], .int i :: st, a, h) = Nl x1 (Rn 172 (27, [x0, x1, some (.int i)], st, a, h)) := Rn_st1 (k := 2) (v := .int i) x1 c172_26 rfl rfl rfl rfl
theorem c172_27 : mcode 172 27 = some (.iload_n 2, 1, 0, 0, 0) := rfl
theorem r172_27 : Rn 172 (27, [x0, x1, some (.int i)], st, a, h) = Rn 172 (28, [x0, x1, some (.int i)], .int i :: st, a, h) := Rn_go c172_27 rfl
theorem c172_28 : mcode 172 28 = some (.sipush 200, 3, 0, 0, 0) := rfl
theorem r172_28 : Rn 172 (28, [x0, x1, x2], st, a, h) = Rn 172 (31, [x0, x1, x2], .int (200 : Int32) :: st, a, h) := Rn_go c172_28 rfl
theorem c172_31 : mcode 172 31 = some (.if_icmp .gt 22, 3, 0, 0, 0) := rfl
theorem r172_31 : Rn 172 (31, [x0, x1, x2], .int j :: .int i :: st, a, h) = if j < i then Rn 172 (53, [x0, x1, x2], st, a, h) else Rn 172 (34, [x0, x1, x2], st, a, h) := Rn_icmp c172_31 mc_gt rfl rfl
theorem c172_34 : mcode 172 34 = some (.aload_n 0, 1, 0, 0, 0) := rfl
theorem r172_34 : Rn 172 (34, [some (.ref q), x1, x2], st, a, h) = Rn 172 (35, [some (.ref q), x1, x2], .ref q :: st, a, h) := Rn_go c172_34 rfl
theorem c172_35 : mcode 172 35 = some (.iload_n 1, 1, 0, 0, 0) := rfl
theorem r172_35 : Rn 172 (35, [x0, some (.int i), x2], st, a, h) = Rn 172 (36, [x0, some (.int i), x2], .int i :: st, a, h) := Rn_go c172_35 rfl
theorem c172_36 : mcode 172 36 = some (.invokevirtual 145, 3, 163, 1, 6) := rfl
theorem r172_36 : Rn 172 (36, [x0, x1, x2], [v0, .ref q], a, h) = if mis h q 6 = true then Bk 172 39 [x0, x1, x2] [] (Ec 163 [.ref q, v0] a h) else none := Rn_call1 c172_36 rfl (Nat.le_of_ble_eq_true rfl) rfl rfl (Nat.le_of_ble_eq_true rfl)
theorem c172_39 : mcode 172 39 = some (.ifCond .eq 14, 3, 0, 0, 0) := rfl
theorem r172_39 : Rn 172 (39, [x0, x1, x2], .int i :: st, a, h) = if i = 0 then Rn 172 (53, [x0, x1, x2], st, a, h) else Rn 172 (42, [x0, x1, x2], st, a, h) := Rn_ifc c172_39 mc_eq rfl rfl
theorem c172_42 : mcode 172 42 = some (.aload_n 0, 1, 0, 0, 0) := rfl
theorem r172_42 : Rn 172 (42, [some (.ref q), x1, x2], st, a, h) = Rn 172 (43, [some (.ref q), x1, x2], .ref q :: st, a, h) := Rn_go c172_42 rfl
theorem c172_43 : mcode 172 43 = some (.iconst 0, 1, 0, 0, 0) := rfl
theorem r172_43 : Rn 172 (43, [x0, x1, x2], st, a, h) = Rn 172 (44, [x0, x1, x2], .int (0 : Int32) :: st, a, h) := Rn_go c172_43 rfl
theorem c172_44 : mcode 172 44 = some (.invokevirtual 131, 3, 158, 1, 6) := rfl
theorem r172_44 : Rn 172 (44, [x0, x1, x2], [v0, .ref q], a, h) = if mis h q 6 = true then Bk 172 47 [x0, x1, x2] [] (Ec 158 [.ref q, v0] a h) else none := Rn_call1 c172_44 rfl (Nat.le_of_ble_eq_true rfl) rfl rfl (Nat.le_of_ble_eq_true rfl)
theorem c172_47 : mcode 172 47 = some (.iinc 2 1, 3, 0, 0, 0) := rfl
theorem r172_47 : Rn 172 (47, [x0, x1, some (.int i)], st, a, h) = Nl x1 (Rn 172 (50, [x0, x1, some (.int (i + (1 : Int32)))], st, a, h)) := Rn_st1 (k := 2) (v := .int (i + (1 : Int32))) x1 c172_47 rfl rfl rfl rfl
theorem c172_50 : mcode 172 50 = some (.goto (-23), 3, 0, 0, 0) := rfl
theorem r172_50 : Rn 172 (50, [x0, x1, x2], st, a, h) = Rn 172 (27, [x0, x1, x2], st, a, h) := Rn_goto c172_50 rfl
theorem c172_53 : mcode 172 53 = some (.aload_n 0, 1, 0, 0, 0) := rfl
theorem r172_53 : Rn 172 (53, [some (.ref q), x1, x2], st, a, h) = Rn 172 (54, [some (.ref q), x1, x2], .ref q :: st, a, h) := Rn_go c172_53 rfl
theorem c172_54 : mcode 172 54 = some (.getfield 19, 3, 6, 3, 0) := rfl
theorem r172_54 : Rn 172 (54, [x0, x1, x2], .ref q :: st, a, h) = Kv 172 57 [x0, x1, x2] st a h (mgf h q 6 3) := Rn_getf c172_54 rfl
theorem c172_57 : mcode 172 57 = some (.aload_n 0, 1, 0, 0, 0) := rfl
theorem r172_57 : Rn 172 (57, [some (.ref q), x1, x2], st, a, h) = Rn 172 (58, [some (.ref q), x1, x2], .ref q :: st, a, h) := Rn_go c172_57 rfl
theorem c172_58 : mcode 172 58 = some (.getfield 7, 3, 6, 0, 0) := rfl
theorem r172_58 : Rn 172 (58, [x0, x1, x2], .ref q :: st, a, h) = Kv 172 61 [x0, x1, x2] st a h (mgf h q 6 0) := Rn_getf c172_58 rfl
theorem c172_61 : mcode 172 61 = some (.invokestatic 157, 3, 127, 2, 0) := rfl
theorem r172_61 : Rn 172 (61, [x0, x1, x2], [v1, v0], a, h) = Bk 172 64 [x0, x1, x2] [] (Ec 127 [v0, v1] a h) := Rn_call0 c172_61 (fun z => nomatch z) rfl (Nat.le_of_ble_eq_true rfl) rfl rfl (Nat.le_of_ble_eq_true rfl)
theorem c172_64 : mcode 172 64 = some (.iload_n 2, 1, 0, 0, 0) := rfl
theorem r172_64 : Rn 172 (64, [x0, x1, some (.int i)], st, a, h) = Rn 172 (65, [x0, x1, some (.int i)], .int i :: st, a, h) := Rn_go c172_64 rfl
theorem c172_65 : mcode 172 65 = some (.sipush 200, 3, 0, 0, 0) := rfl
theorem r172_65 : Rn 172 (65, [x0, x1, x2], st, a, h) = Rn 172 (68, [x0, x1, x2], .int (200 : Int32) :: st, a, h) := Rn_go c172_65 rfl
theorem c172_68 : mcode 172 68 = some (.if_icmp .gt 7, 3, 0, 0, 0) := rfl
theorem r172_68 : Rn 172 (68, [x0, x1, x2], .int j :: .int i :: st, a, h) = if j < i then Rn 172 (75, [x0, x1, x2], st, a, h) else Rn 172 (71, [x0, x1, x2], st, a, h) := Rn_icmp c172_68 mc_gt rfl rfl
theorem c172_71 : mcode 172 71 = some (.iload_n 2, 1, 0, 0, 0) := rfl
theorem r172_71 : Rn 172 (71, [x0, x1, some (.int i)], st, a, h) = Rn 172 (72, [x0, x1, some (.int i)], .int i :: st, a, h) := Rn_go c172_71 rfl
theorem c172_72 : mcode 172 72 = some (.goto 9, 3, 0, 0, 0) := rfl
theorem r172_72 : Rn 172 (72, [x0, x1, x2], st, a, h) = Rn 172 (81, [x0, x1, x2], st, a, h) := Rn_goto c172_72 rfl
theorem c172_75 : mcode 172 75 = some (.aload_n 0, 1, 0, 0, 0) := rfl
theorem r172_75 : Rn 172 (75, [some (.ref q), x1, x2], st, a, h) = Rn 172 (76, [some (.ref q), x1, x2], .ref q :: st, a, h) := Rn_go c172_75 rfl
theorem c172_76 : mcode 172 76 = some (.ldc 38, 2, 0, 0, -1000004) := rfl
theorem r172_76 : Rn 172 (76, [x0, x1, x2], st, a, h) = Rn 172 (78, [x0, x1, x2], .int (-1000004 : Int32) :: st, a, h) := Rn_go c172_76 rfl
theorem c172_78 : mcode 172 78 = some (.invokevirtual 39, 3, 125, 1, 6) := rfl
theorem r172_78 : Rn 172 (78, [x0, x1, x2], [v0, .ref q], a, h) = if mis h q 6 = true then Bk 172 81 [x0, x1, x2] [] (Ec 125 [.ref q, v0] a h) else none := Rn_call1 c172_78 rfl (Nat.le_of_ble_eq_true rfl) rfl rfl (Nat.le_of_ble_eq_true rfl)
theorem c172_81 : mcode 172 81 = some (.ireturn, 1, 0, 0, 0) := rfl
theorem r172_81 : Rn 172 (81, [x0, x1, x2], [.int i], a, h) = some (some (.int i), a, h) := Rn_ireti c172_81
theorem c173_0 : mcode 173 0 = some (.aload_n 0, 1, 0, 0, 0) := rfl
theorem r173_0 : Rn 173 (0, [some (.ref q), x1, x2, x3], st, a, h) = Rn 173 (1, [some (.ref q), x1, x2, x3], .ref q :: st, a, h) := Rn_go c173_0 rfl
theorem c173_1 : mcode 173 1 = some (.iload_n 1, 1, 0, 0, 0) := rfl
theorem r173_1 : Rn 173 (1, [x0, some (.int i), x2, x3], st, a, h) = Rn 173 (2, [x0, some (.int i), x2, x3], .int i :: st, a, h) := Rn_go c173_1 rfl
theorem c173_2 : mcode 173 2 = some (.invokevirtual 98, 3, 130, 1, 6) := rfl
theorem r173_2 : Rn 173 (2, [x0, x1, x2, x3], [v0, .ref q], a, h) = if mis h q 6 = true then Bk 173 5 [x0, x1, x2, x3] [] (Ec 130 [.ref q, v0] a h) else none := Rn_call1 c173_2 rfl (Nat.le_of_ble_eq_true rfl) rfl rfl (Nat.le_of_ble_eq_true rfl)
theorem c173_5 : mcode 173 5 = some (.ifCond .eq 16, 3, 0, 0, 0) := rfl
theorem r173_5 : Rn 173 (5, [x0, x1, x2, x3], .int i :: st, a, h) = if i = 0 then Rn 173 (21, [x0, x1, x2, x3], st, a, h) else Rn 173 (8, [x0, x1, x2, x3], st, a, h) := Rn_ifc c173_5 mc_eq rfl rfl
theorem c173_8 : mcode 173 8 = some (.aload_n 0, 1, 0, 0, 0) := rfl
theorem r173_8 : Rn 173 (8, [some (.ref q), x1, x2, x3], st, a, h) = Rn 173 (9, [some (.ref q), x1, x2, x3], .ref q :: st, a, h) := Rn_go c173_8 rfl
theorem c173_9 : mcode 173 9 = some (.iload_n 2, 1, 0, 0, 0) := rfl
theorem r173_9 : Rn 173 (9, [x0, x1, some (.int i), x3], st, a, h) = Rn 173 (10, [x0, x1, some (.int i), x3], .int i :: st, a, h) := Rn_go c173_9 rfl
theorem c173_10 : mcode 173 10 = some (.invokevirtual 98, 3, 130, 1, 6) := rfl
theorem r173_10 : Rn 173 (10, [x0, x1, x2, x3], [v0, .ref q], a, h) = if mis h q 6 = true then Bk 173 13 [x0, x1, x2, x3] [] (Ec 130 [.ref q, v0] a h) else none := Rn_call1 c173_10 rfl (Nat.le_of_ble_eq_true rfl) rfl rfl (Nat.le_of_ble_eq_true rfl)
theorem c173_13 : mcode 173 13 = some (.ifCond .eq 8, 3, 0, 0, 0) := rfl
theorem r173_13 : Rn 173 (13, [x0, x1, x2, x3], .int i :: st, a, h) = if i = 0 then Rn 173 (21, [x0, x1, x2, x3], st, a, h) else Rn 173 (16, [x0, x1, x2, x3], st, a, h) := Rn_ifc c173_13 mc_eq rfl rfl
theorem c173_16 : mcode 173 16 = some (.iload_n 1, 1, 0, 0, 0) := rfl
theorem r173_16 : Rn 173 (16, [x0, some (.int i), x2, x3], st, a, h) = Rn 173 (17, [x0, some (.int i), x2, x3], .int i :: st, a, h) := Rn_go c173_16 rfl
theorem c173_17 : mcode 173 17 = some (.iload_n 2, 1, 0, 0, 0) := rfl
theorem r173_17 : Rn 173 (17, [x0, x1, some (.int i), x3], st, a, h) = Rn 173 (18, [x0, x1, some (.int i), x3], .int i :: st, a, h) := Rn_go c173_17 rfl
theorem c173_18 : mcode 173 18 = some (.if_icmp .ne 10, 3, 0, 0, 0) := rfl
theorem r173_18 : Rn 173 (18, [x0, x1, x2, x3], .int j :: .int i :: st, a, h) = if i = j then Rn 173 (21, [x0, x1, x2, x3], st, a, h) else Rn 173 (28, [x0, x1, x2, x3], st, a, h) := Rn_icmpn c173_18 mc_ne rfl rfl
theorem c173_21 : mcode 173 21 = some (.aload_n 0, 1, 0, 0, 0) := rfl
theorem r173_21 : Rn 173 (21, [some (.ref q), x1, x2, x3], st, a, h) = Rn 173 (22, [some (.ref q), x1, x2, x3], .ref q :: st, a, h) := Rn_go c173_21 rfl
theorem c173_22 : mcode 173 22 = some (.ldc 37, 2, 0, 0, -1000001) := rfl
theorem r173_22 : Rn 173 (22, [x0, x1, x2, x3], st, a, h) = Rn 173 (24, [x0, x1, x2, x3], .int (-1000001 : Int32) :: st, a, h) := Rn_go c173_22 rfl
theorem c173_24 : mcode 173 24 = some (.invokevirtual 39, 3, 125, 1, 6) := rfl
theorem r173_24 : Rn 173 (24, [x0, x1, x2, x3], [v0, .ref q], a, h) = if mis h q 6 = true then Bk 173 27 [x0, x1, x2, x3] [] (Ec 125 [.ref q, v0] a h) else none := Rn_call1 c173_24 rfl (Nat.le_of_ble_eq_true rfl) rfl rfl (Nat.le_of_ble_eq_true rfl)
theorem c173_27 : mcode 173 27 = some (.ireturn, 1, 0, 0, 0) := rfl
theorem r173_27 : Rn 173 (27, [x0, x1, x2, x3], [.int i], a, h) = some (some (.int i), a, h) := Rn_ireti c173_27
theorem c173_28 : mcode 173 28 = some (.aload_n 0, 1, 0, 0, 0) := rfl
theorem r173_28 : Rn 173 (28, [some (.ref q), x1, x2, x3], st, a, h) = Rn 173 (29, [some (.ref q), x1, x2, x3], .ref q :: st, a, h) := Rn_go c173_28 rfl
theorem c173_29 : mcode 173 29 = some (.getfield 7, 3, 6, 0, 0) := rfl
theorem r173_29 : Rn 173 (29, [x0, x1, x2, x3], .ref q :: st, a, h) = Kv 173 32 [x0, x1, x2, x3] st a h (mgf h q 6 0) := Rn_getf c173_29 rfl
theorem c173_32 : mcode 173 32 = some (.aload_n 0, 1, 0, 0, 0) := rfl
theorem r173_32 : Rn 173 (32, [some (.ref q), x1, x2, x3], st, a, h) = Rn 173 (33, [some (.ref q), x1, x2, x3], .ref q :: st, a, h) := Rn_go c173_32 rfl
theorem c173_33 : mcode 173 33 = some (.getfield 19, 3, 6, 3, 0) := rfl
theorem r173_33 : Rn 173 (33, [x0, x1, x2, x3], .ref q :: st, a, h) = Kv 173 36 [x0, x1, x2, x3] st a h (mgf h q 6 3) := Rn_getf c173_33 rfl
theorem c173_36 : mcode 173 36 = some (.invokestatic 157, 3, 127, 2, 0) := rfl
theorem r173_36 : Rn 173 (36, [x0, x1, x2, x3], [v1, v0], a, h) = Bk 173 39 [x0, x1, x2, x3] [] (Ec 127 [v0, v1] a h) := Rn_call0 c173_36 (fun z => nomatch z) rfl (Nat.le_of_ble_eq_true rfl) rfl rfl (Nat.le_of_ble_eq_true rfl)
theorem c173_39 : mcode 173 39 = some (.iconst 0, 1, 0, 0, 0) := rfl
theorem r173_39 : Rn 173 (39, [x0, x1, x2, x3], st, a, h) = Rn 173 (40, [x0, x1, x2, x3], .int (0 : Int32) :: st, a, h) := Rn_go c173_39 rfl
theorem c173_40 : mcode 173 40 = some (.istore_n 3, 1, 0, 0, 0) := rfl
theorem r173_40 : Rn 173 (40, [x0, x1, x2, x3], .int i :: st, a, h) = Nl x2 (Rn 173 (41, [x0, x1, x2, some (.int i)], st, a, h)) := Rn_st1 (k := 3) (v := .int i) x2 c173_40 rfl rfl rfl rfl
theorem c173_41 : mcode 173 41 = some (.iload_n 3, 1, 0, 0, 0) := rfl
theorem r173_41 : Rn 173 (41, [x0, x1, x2, some (.int i)], st, a, h) = Rn 173 (42, [x0, x1, x2, some (.int i)], .int i :: st, a, h) := Rn_go c173_41 rfl
theorem c173_42 : mcode 173 42 = some (.sipush 200, 3, 0, 0, 0) := rfl
theorem r173_42 : Rn 173 (42, [x0, x1, x2, x3], st, a, h) = Rn 173 (45, [x0, x1, x2, x3], .int (200 : Int32) :: st, a, h) := Rn_go c173_42 rfl
theorem c173_45 : mcode 173 45 = some (.if_icmp .gt 44, 3, 0, 0, 0) := rfl
theorem r173_45 : Rn 173 (45, [x0, x1, x2, x3], .int j :: .int i :: st, a, h) = if j < i then Rn 173 (89, [x0, x1, x2, x3], st, a, h) else Rn 173 (48, [x0, x1, x2, x3], st, a, h) := Rn_icmp c173_45 mc_gt rfl rfl
theorem c173_48 : mcode 173 48 = some (.aload_n 0, 1, 0, 0, 0) := rfl
theorem r173_48 : Rn 173 (48, [some (.ref q), x1, x2, x3], st, a, h) = Rn 173 (49, [some (.ref q), x1, x2, x3], .ref q :: st, a, h) := Rn_go c173_48 rfl
theorem c173_49 : mcode 173 49 = some (.iload_n 1, 1, 0, 0, 0) := rfl
theorem r173_49 : Rn 173 (49, [x0, some (.int i), x2, x3], st, a, h) = Rn 173 (50, [x0, some (.int i), x2, x3], .int i :: st, a, h) := Rn_go c173_49 rfl
theorem c173_50 : mcode 173 50 = some (.iconst 1, 1, 0, 0, 0) := rfl
theorem r173_50 : Rn 173 (50, [x0, x1, x2, x3], st, a, h) = Rn 173 (51, [x0, x1, x2, x3], .int (1 : Int32) :: st, a, h) := Rn_go c173_50 rfl
theorem c173_51 : mcode 173 51 = some (.invokevirtual 63, 3, 132, 2, 6) := rfl
theorem r173_51 : Rn 173 (51, [x0, x1, x2, x3], [v1, v0, .ref q], a, h) = if mis h q 6 = true then Bk 173 54 [x0, x1, x2, x3] [] (Ec 132 [.ref q, v0, v1] a h) else none := Rn_call1 c173_51 rfl (Nat.le_of_ble_eq_true rfl) rfl rfl (Nat.le_of_ble_eq_true rfl)
theorem c173_54 : mcode 173 54 = some (.aload_n 0, 1, 0, 0, 0) := rfl
theorem r173_54 : Rn 173 (54, [some (.ref q), x1, x2, x3], st, a, h) = Rn 173 (55, [some (.ref q), x1, x2, x3], .ref q :: st, a, h) := Rn_go c173_54 rfl
theorem c173_55 : mcode 173 55 = some (.iload_n 2, 1, 0, 0, 0) := rfl
theorem r173_55 : Rn 173 (55, [x0, x1, some (.int i), x3], st, a, h) = Rn 173 (56, [x0, x1, some (.int i), x3], .int i :: st, a, h) := Rn_go c173_55 rfl
theorem c173_56 : mcode 173 56 = some (.iconst 1, 1, 0, 0, 0) := rfl
theorem r173_56 : Rn 173 (56, [x0, x1, x2, x3], st, a, h) = Rn 173 (57, [x0, x1, x2, x3], .int (1 : Int32) :: st, a, h) := Rn_go c173_56 rfl
theorem c173_57 : mcode 173 57 = some (.invokevirtual 63, 3, 132, 2, 6) := rfl
theorem r173_57 : Rn 173 (57, [x0, x1, x2, x3], [v1, v0, .ref q, .int i0], a, h) = if mis h q 6 = true then Bk 173 60 [x0, x1, x2, x3] [.int i0] (Ec 132 [.ref q, v0, v1] a h) else none := Rn_call1 c173_57 rfl (Nat.le_of_ble_eq_true rfl) rfl rfl (Nat.le_of_ble_eq_true rfl)
theorem c173_60 : mcode 173 60 = some (.if_icmp .ne 18, 3, 0, 0, 0) := rfl
theorem r173_60 : Rn 173 (60, [x0, x1, x2, x3], .int j :: .int i :: st, a, h) = if i = j then Rn 173 (63, [x0, x1, x2, x3], st, a, h) else Rn 173 (78, [x0, x1, x2, x3], st, a, h) := Rn_icmpn c173_60 mc_ne rfl rfl
theorem c173_63 : mcode 173 63 = some (.aload_n 0, 1, 0, 0, 0) := rfl
theorem r173_63 : Rn 173 (63, [some (.ref q), x1, x2, x3], st, a, h) = Rn 173 (64, [some (.ref q), x1, x2, x3], .ref q :: st, a, h) := Rn_go c173_63 rfl
theorem c173_64 : mcode 173 64 = some (.iload_n 1, 1, 0, 0, 0) := rfl
theorem r173_64 : Rn 173 (64, [x0, some (.int i), x2, x3], st, a, h) = Rn 173 (65, [x0, some (.int i), x2, x3], .int i :: st, a, h) := Rn_go c173_64 rfl
theorem c173_65 : mcode 173 65 = some (.iconst 2, 1, 0, 0, 0) := rfl
theorem r173_65 : Rn 173 (65, [x0, x1, x2, x3], st, a, h) = Rn 173 (66, [x0, x1, x2, x3], .int (2 : Int32) :: st, a, h) := Rn_go c173_65 rfl
theorem c173_66 : mcode 173 66 = some (.invokevirtual 63, 3, 132, 2, 6) := rfl
theorem r173_66 : Rn 173 (66, [x0, x1, x2, x3], [v1, v0, .ref q], a, h) = if mis h q 6 = true then Bk 173 69 [x0, x1, x2, x3] [] (Ec 132 [.ref q, v0, v1] a h) else none := Rn_call1 c173_66 rfl (Nat.le_of_ble_eq_true rfl) rfl rfl (Nat.le_of_ble_eq_true rfl)
theorem c173_69 : mcode 173 69 = some (.aload_n 0, 1, 0, 0, 0) := rfl
theorem r173_69 : Rn 173 (69, [some (.ref q), x1, x2, x3], st, a, h) = Rn 173 (70, [some (.ref q), x1, x2, x3], .ref q :: st, a, h) := Rn_go c173_69 rfl
theorem c173_70 : mcode 173 70 = some (.iload_n 2, 1, 0, 0, 0) := rfl
theorem r173_70 : Rn 173 (70, [x0, x1, some (.int i), x3], st, a, h) = Rn 173 (71, [x0, x1, some (.int i), x3], .int i :: st, a, h) := Rn_go c173_70 rfl
theorem c173_71 : mcode 173 71 = some (.iconst 2, 1, 0, 0, 0) := rfl
theorem r173_71 : Rn 173 (71, [x0, x1, x2, x3], st, a, h) = Rn 173 (72, [x0, x1, x2, x3], .int (2 : Int32) :: st, a, h) := Rn_go c173_71 rfl
theorem c173_72 : mcode 173 72 = some (.invokevirtual 63, 3, 132, 2, 6) := rfl
theorem r173_72 : Rn 173 (72, [x0, x1, x2, x3], [v1, v0, .ref q, .int i0], a, h) = if mis h q 6 = true then Bk 173 75 [x0, x1, x2, x3] [.int i0] (Ec 132 [.ref q, v0, v1] a h) else none := Rn_call1 c173_72 rfl (Nat.le_of_ble_eq_true rfl) rfl rfl (Nat.le_of_ble_eq_true rfl)
theorem c173_75 : mcode 173 75 = some (.if_icmp .eq 14, 3, 0, 0, 0) := rfl
theorem r173_75 : Rn 173 (75, [x0, x1, x2, x3], .int j :: .int i :: st, a, h) = if i = j then Rn 173 (89, [x0, x1, x2, x3], st, a, h) else Rn 173 (78, [x0, x1, x2, x3], st, a, h) := Rn_icmp c173_75 mc_eq rfl rfl
theorem c173_78 : mcode 173 78 = some (.aload_n 0, 1, 0, 0, 0) := rfl
theorem r173_78 : Rn 173 (78, [some (.ref q), x1, x2, x3], st, a, h) = Rn 173 (79, [some (.ref q), x1, x2, x3], .ref q :: st, a, h) := Rn_go c173_78 rfl
theorem c173_79 : mcode 173 79 = some (.iconst 0, 1, 0, 0, 0) := rfl
theorem r173_79 : Rn 173 (79, [x0, x1, x2, x3], st, a, h) = Rn 173 (80, [x0, x1, x2, x3], .int (0 : Int32) :: st, a, h) := Rn_go c173_79 rfl
theorem c173_80 : mcode 173 80 = some (.invokevirtual 131, 3, 158, 1, 6) := rfl
theorem r173_80 : Rn 173 (80, [x0, x1, x2, x3], [v0, .ref q], a, h) = if mis h q 6 = true then Bk 173 83 [x0, x1, x2, x3] [] (Ec 158 [.ref q, v0] a h) else none := Rn_call1 c173_80 rfl (Nat.le_of_ble_eq_true rfl) rfl rfl (Nat.le_of_ble_eq_true rfl)
theorem c173_83 : mcode 173 83 = some (.iinc 3 1, 3, 0, 0, 0) := rfl
theorem r173_83 : Rn 173 (83, [x0, x1, x2, some (.int i)], st, a, h) = Nl x2 (Rn 173 (86, [x0, x1, x2, some (.int (i + (1 : Int32)))], st, a, h)) := Rn_st1 (k := 3) (v := .int (i + (1 : Int32))) x2 c173_83 rfl rfl rfl rfl
theorem c173_86 : mcode 173 86 = some (.goto (-45), 3, 0, 0, 0) := rfl
theorem r173_86 : Rn 173 (86, [x0, x1, x2, x3], st, a, h) = Rn 173 (41, [x0, x1, x2, x3], st, a, h) := Rn_goto c173_86 rfl
theorem c173_89 : mcode 173 89 = some (.aload_n 0, 1, 0, 0, 0) := rfl
theorem r173_89 : Rn 173 (89, [some (.ref q), x1, x2, x3], st, a, h) = Rn 173 (90, [some (.ref q), x1, x2, x3], .ref q :: st, a, h) := Rn_go c173_89 rfl
theorem c173_90 : mcode 173 90 = some (.getfield 19, 3, 6, 3, 0) := rfl
theorem r173_90 : Rn 173 (90, [x0, x1, x2, x3], .ref q :: st, a, h) = Kv 173 93 [x0, x1, x2, x3] st a h (mgf h q 6 3) := Rn_getf c173_90 rfl
theorem c173_93 : mcode 173 93 = some (.aload_n 0, 1, 0, 0, 0) := rfl
theorem r173_93 : Rn 173 (93, [some (.ref q), x1, x2, x3], st, a, h) = Rn 173 (94, [some (.ref q), x1, x2, x3], .ref q :: st, a, h) := Rn_go c173_93 rfl
theorem c173_94 : mcode 173 94 = some (.getfield 7, 3, 6, 0, 0) := rfl
theorem r173_94 : Rn 173 (94, [x0, x1, x2, x3], .ref q :: st, a, h) = Kv 173 97 [x0, x1, x2, x3] st a h (mgf h q 6 0) := Rn_getf c173_94 rfl
theorem c173_97 : mcode 173 97 = some (.invokestatic 157, 3, 127, 2, 0) := rfl
theorem r173_97 : Rn 173 (97, [x0, x1, x2, x3], [v1, v0], a, h) = Bk 173 100 [x0, x1, x2, x3] [] (Ec 127 [v0, v1] a h) := Rn_call0 c173_97 (fun z => nomatch z) rfl (Nat.le_of_ble_eq_true rfl) rfl rfl (Nat.le_of_ble_eq_true rfl)
theorem c173_100 : mcode 173 100 = some (.iload_n 3, 1, 0, 0, 0) := rfl
theorem r173_100 : Rn 173 (100, [x0, x1, x2, some (.int i)], st, a, h) = Rn 173 (101, [x0, x1, x2, some (.int i)], .int i :: st, a, h) := Rn_go c173_100 rfl
theorem c173_101 : mcode 173 101 = some (.sipush 200, 3, 0, 0, 0) := rfl
theorem r173_101 : Rn 173 (101, [x0, x1, x2, x3], st, a, h) = Rn 173 (104, [x0, x1, x2, x3], .int (200 : Int32) :: st, a, h) := Rn_go c173_101 rfl
theorem c173_104 : mcode 173 104 = some (.if_icmp .gt 7, 3, 0, 0, 0) := rfl
theorem r173_104 : Rn 173 (104, [x0, x1, x2, x3], .int j :: .int i :: st, a, h) = if j < i then Rn 173 (111, [x0, x1, x2, x3], st, a, h) else Rn 173 (107, [x0, x1, x2, x3], st, a, h) := Rn_icmp c173_104 mc_gt rfl rfl
theorem c173_107 : mcode 173 107 = some (.iload_n 3, 1, 0, 0, 0) := rfl
theorem r173_107 : Rn 173 (107, [x0, x1, x2, some (.int i)], st, a, h) = Rn 173 (108, [x0, x1, x2, some (.int i)], .int i :: st, a, h) := Rn_go c173_107 rfl
theorem c173_108 : mcode 173 108 = some (.goto 9, 3, 0, 0, 0) := rfl
theorem r173_108 : Rn 173 (108, [x0, x1, x2, x3], st, a, h) = Rn 173 (117, [x0, x1, x2, x3], st, a, h) := Rn_goto c173_108 rfl
theorem c173_111 : mcode 173 111 = some (.aload_n 0, 1, 0, 0, 0) := rfl
theorem r173_111 : Rn 173 (111, [some (.ref q), x1, x2, x3], st, a, h) = Rn 173 (112, [some (.ref q), x1, x2, x3], .ref q :: st, a, h) := Rn_go c173_111 rfl
theorem c173_112 : mcode 173 112 = some (.ldc 38, 2, 0, 0, -1000004) := rfl
theorem r173_112 : Rn 173 (112, [x0, x1, x2, x3], st, a, h) = Rn 173 (114, [x0, x1, x2, x3], .int (-1000004 : Int32) :: st, a, h) := Rn_go c173_112 rfl
theorem c173_114 : mcode 173 114 = some (.invokevirtual 39, 3, 125, 1, 6) := rfl
theorem r173_114 : Rn 173 (114, [x0, x1, x2, x3], [v0, .ref q], a, h) = if mis h q 6 = true then Bk 173 117 [x0, x1, x2, x3] [] (Ec 125 [.ref q, v0] a h) else none := Rn_call1 c173_114 rfl (Nat.le_of_ble_eq_true rfl) rfl rfl (Nat.le_of_ble_eq_true rfl)
theorem c173_117 : mcode 173 117 = some (.ireturn, 1, 0, 0, 0) := rfl
theorem r173_117 : Rn 173 (117, [x0, x1, x2, x3], [.int i], a, h) = some (some (.int i), a, h) := Rn_ireti c173_117
theorem c174_0 : mcode 174 0 = some (.aload_n 0, 1, 0, 0, 0) := rfl
theorem r174_0 : Rn 174 (0, [some (.ref q), x1, x2, x3, x4, x5, x6, x7], st, a, h) = Rn 174 (1, [some (.ref q), x1, x2, x3, x4, x5, x6, x7], .ref q :: st, a, h) := Rn_go c174_0 rfl
theorem c174_1 : mcode 174 1 = some (.iload_n 1, 1, 0, 0, 0) := rfl
theorem r174_1 : Rn 174 (1, [x0, some (.int i), x2, x3, x4, x5, x6, x7], st, a, h) = Rn 174 (2, [x0, some (.int i), x2, x3, x4, x5, x6, x7], .int i :: st, a, h) := Rn_go c174_1 rfl
theorem c174_2 : mcode 174 2 = some (.invokevirtual 98, 3, 130, 1, 6) := rfl
theorem r174_2 : Rn 174 (2, [x0, x1, x2, x3, x4, x5, x6, x7], [v0, .ref q], a, h) = if mis h q 6 = true then Bk 174 5 [x0, x1, x2, x3, x4, x5, x6, x7] [] (Ec 130 [.ref q, v0] a h) else none := Rn_call1 c174_2 rfl (Nat.le_of_ble_eq_true rfl) rfl rfl (Nat.le_of_ble_eq_true rfl)
theorem c174_5 : mcode 174 5 = some (.ifCond .eq 15, 3, 0, 0, 0) := rfl
theorem r174_5 : Rn 174 (5, [x0, x1, x2, x3, x4, x5, x6, x7], .int i :: st, a, h) = if i = 0 then Rn 174 (20, [x0, x1, x2, x3, x4, x5, x6, x7], st, a, h) else Rn 174 (8, [x0, x1, x2, x3, x4, x5, x6, x7], st, a, h) := Rn_ifc c174_5 mc_eq rfl rfl
theorem c174_8 : mcode 174 8 = some (.iload_n 2, 1, 0, 0, 0) := rfl
theorem r174_8 : Rn 174 (8, [x0, x1, some (.int i), x3, x4, x5, x6, x7], st, a, h) = Rn 174 (9, [x0, x1, some (.int i), x3, x4, x5, x6, x7], .int i :: st, a, h) := Rn_go c174_8 rfl
theorem c174_9 : mcode 174 9 = some (.i2l, 1, 0, 0, 0) := rfl
theorem r174_9 : Rn 174 (9, [x0, x1, x2, x3, x4, x5, x6, x7], .int i :: st, a, h) = Rn 174 (10, [x0, x1, x2, x3, x4, x5, x6, x7], .long i.toInt64 :: st, a, h) := Rn_go c174_9 rfl
theorem c174_10 : mcode 174 10 = some (.lconst 0, 1, 0, 0, 0) := rfl
theorem r174_10 : Rn 174 (10, [x0, x1, x2, x3, x4, x5, x6, x7], st, a, h) = Rn 174 (11, [x0, x1, x2, x3, x4, x5, x6, x7], .long (0 : Int64) :: st, a, h) := Rn_go c174_10 rfl
theorem c174_11 : mcode 174 11 = some (.ldc2_w 166, 3, 0, 0, 30) := rfl
theorem r174_11 : Rn 174 (11, [x0, x1, x2, x3, x4, x5, x6, x7], st, a, h) = Rn 174 (14, [x0, x1, x2, x3, x4, x5, x6, x7], .long (30 : Int64) :: st, a, h) := Rn_go c174_11 rfl
theorem c174_14 : mcode 174 14 = some (.invokestatic 52, 3, 124, 3, 0) := rfl
theorem r174_14 : Rn 174 (14, [x0, x1, x2, x3, x4, x5, x6, x7], [v2, v1, v0], a, h) = Bk 174 17 [x0, x1, x2, x3, x4, x5, x6, x7] [] (Ec 124 [v0, v1, v2] a h) := Rn_call0 c174_14 (fun z => nomatch z) rfl (Nat.le_of_ble_eq_true rfl) rfl rfl (Nat.le_of_ble_eq_true rfl)
theorem c174_17 : mcode 174 17 = some (.ifCond .ne 10, 3, 0, 0, 0) := rfl
theorem r174_17 : Rn 174 (17, [x0, x1, x2, x3, x4, x5, x6, x7], .int i :: st, a, h) = if i = 0 then Rn 174 (20, [x0, x1, x2, x3, x4, x5, x6, x7], st, a, h) else Rn 174 (27, [x0, x1, x2, x3, x4, x5, x6, x7], st, a, h) := Rn_ifcn c174_17 mc_ne rfl rfl
theorem c174_20 : mcode 174 20 = some (.aload_n 0, 1, 0, 0, 0) := rfl
theorem r174_20 : Rn 174 (20, [some (.ref q), x1, x2, x3, x4, x5, x6, x7], st, a, h) = Rn 174 (21, [some (.ref q), x1, x2, x3, x4, x5, x6, x7], .ref q :: st, a, h) := Rn_go c174_20 rfl
theorem c174_21 : mcode 174 21 = some (.ldc 37, 2, 0, 0, -1000001) := rfl
theorem r174_21 : Rn 174 (21, [x0, x1, x2, x3, x4, x5, x6, x7], st, a, h) = Rn 174 (23, [x0, x1, x2, x3, x4, x5, x6, x7], .int (-1000001 : Int32) :: st, a, h) := Rn_go c174_21 rfl
theorem c174_23 : mcode 174 23 = some (.invokevirtual 39, 3, 125, 1, 6) := rfl
theorem r174_23 : Rn 174 (23, [x0, x1, x2, x3, x4, x5, x6, x7], [v0, .ref q], a, h) = if mis h q 6 = true then Bk 174 26 [x0, x1, x2, x3, x4, x5, x6, x7] [] (Ec 125 [.ref q, v0] a h) else none := Rn_call1 c174_23 rfl (Nat.le_of_ble_eq_true rfl) rfl rfl (Nat.le_of_ble_eq_true rfl)
theorem c174_26 : mcode 174 26 = some (.ireturn, 1, 0, 0, 0) := rfl
theorem r174_26 : Rn 174 (26, [x0, x1, x2, x3, x4, x5, x6, x7], [.int i], a, h) = some (some (.int i), a, h) := Rn_ireti c174_26
theorem c174_27 : mcode 174 27 = some (.iconst 0, 1, 0, 0, 0) := rfl
theorem r174_27 : Rn 174 (27, [x0, x1, x2, x3, x4, x5, x6, x7], st, a, h) = Rn 174 (28, [x0, x1, x2, x3, x4, x5, x6, x7], .int (0 : Int32) :: st, a, h) := Rn_go c174_27 rfl
theorem c174_28 : mcode 174 28 = some (.istore_n 3, 1, 0, 0, 0) := rfl
theorem r174_28 : Rn 174 (28, [x0, x1, x2, x3, x4, x5, x6, x7], .int i :: st, a, h) = Nl x2 (Rn 174 (29, [x0, x1, x2, some (.int i), x4, x5, x6, x7], st, a, h)) := Rn_st1 (k := 3) (v := .int i) x2 c174_28 rfl rfl rfl rfl
theorem c174_29 : mcode 174 29 = some (.iconst (-1), 1, 0, 0, 0) := rfl
theorem r174_29 : Rn 174 (29, [x0, x1, x2, x3, x4, x5, x6, x7], st, a, h) = Rn 174 (30, [x0, x1, x2, x3, x4, x5, x6, x7], .int (-1 : Int32) :: st, a, h) := Rn_go c174_29 rfl
theorem c174_30 : mcode 174 30 = some (.istore 4, 2, 0, 0, 0) := rfl
theorem r174_30 : Rn 174 (30, [x0, x1, x2, x3, x4, x5, x6, x7], .int i :: st, a, h) = Nl x3 (Rn 174 (32, [x0, x1, x2, x3, some (.int i), x5, x6, x7], st, a, h)) := Rn_st1 (k := 4) (v := .int i) x3 c174_30 rfl rfl rfl rfl
theorem c174_32 : mcode 174 32 = some (.iconst 0, 1, 0, 0, 0) := rfl
theorem r174_32 : Rn 174 (32, [x0, x1, x2, x3, x4, x5, x6, x7], st, a, h) = Rn 174 (33, [x0, x1, x2, x3, x4, x5, x6, x7], .int (0 : Int32) :: st, a, h) := Rn_go c174_32 rfl
theorem c174_33 : mcode 174 33 = some (.istore 5, 2, 0, 0, 0) := rfl
theorem r174_33 : Rn 174 (33, [x0, x1, x2, x3, x4, x5, x6, x7], .int i :: st, a, h) = Nl x4 (Rn 174 (35, [x0, x1, x2, x3, x4, some (.int i), x6, x7], st, a, h)) := Rn_st1 (k := 5) (v := .int i) x4 c174_33 rfl rfl rfl rfl
theorem c174_35 : mcode 174 35 = some (.iload 5, 2, 0, 0, 0) := rfl
theorem r174_35 : Rn 174 (35, [x0, x1, x2, x3, x4, some (.int i), x6, x7], st, a, h) = Rn 174 (37, [x0, x1, x2, x3, x4, some (.int i), x6, x7], .int i :: st, a, h) := Rn_go c174_35 rfl
theorem c174_37 : mcode 174 37 = some (.bipush 8, 2, 0, 0, 0) := rfl
theorem r174_37 : Rn 174 (37, [x0, x1, x2, x3, x4, x5, x6, x7], st, a, h) = Rn 174 (39, [x0, x1, x2, x3, x4, x5, x6, x7], .int (8 : Int32) :: st, a, h) := Rn_go c174_37 rfl
theorem c174_39 : mcode 174 39 = some (.if_icmp .ge 85, 3, 0, 0, 0) := rfl
theorem r174_39 : Rn 174 (39, [x0, x1, x2, x3, x4, x5, x6, x7], .int j :: .int i :: st, a, h) = if i < j then Rn 174 (42, [x0, x1, x2, x3, x4, x5, x6, x7], st, a, h) else Rn 174 (124, [x0, x1, x2, x3, x4, x5, x6, x7], st, a, h) := Rn_icmpn c174_39 mc_ge rfl rfl
theorem c174_42 : mcode 174 42 = some (.iload 5, 2, 0, 0, 0) := rfl
theorem r174_42 : Rn 174 (42, [x0, x1, x2, x3, x4, some (.int i), x6, x7], st, a, h) = Rn 174 (44, [x0, x1, x2, x3, x4, some (.int i), x6, x7], .int i :: st, a, h) := Rn_go c174_42 rfl
theorem c174_44 : mcode 174 44 = some (.iconst 1, 1, 0, 0, 0) := rfl
theorem r174_44 : Rn 174 (44, [x0, x1, x2, x3, x4, x5, x6, x7], st, a, h) = Rn 174 (45, [x0, x1, x2, x3, x4, x5, x6, x7], .int (1 : Int32) :: st, a, h) := Rn_go c174_44 rfl
theorem c174_45 : mcode 174 45 = some (.iadd, 1, 0, 0, 0) := rfl
theorem r174_45 : Rn 174 (45, [x0, x1, x2, x3, x4, x5, x6, x7], .int j :: .int i :: st, a, h) = Rn 174 (46, [x0, x1, x2, x3, x4, x5, x6, x7], .int (i + j) :: st, a, h) := Rn_go c174_45 rfl
theorem c174_46 : mcode 174 46 = some (.istore 6, 2, 0, 0, 0) := rfl
theorem r174_46 : Rn 174 (46, [x0, x1, x2, x3, x4, x5, x6, x7], .int i :: st, a, h) = Nl x5 (Rn 174 (48, [x0, x1, x2, x3, x4, x5, some (.int i), x7], st, a, h)) := Rn_st1 (k := 6) (v := .int i) x5 c174_46 rfl rfl rfl rfl
theorem c174_48 : mcode 174 48 = some (.iload 6, 2, 0, 0, 0) := rfl
theorem r174_48 : Rn 174 (48, [x0, x1, x2, x3, x4, x5, some (.int i), x7], st, a, h) = Rn 174 (50, [x0, x1, x2, x3, x4, x5, some (.int i), x7], .int i :: st, a, h) := Rn_go c174_48 rfl
theorem c174_50 : mcode 174 50 = some (.bipush 8, 2, 0, 0, 0) := rfl
theorem r174_50 : Rn 174 (50, [x0, x1, x2, x3, x4, x5, x6, x7], st, a, h) = Rn 174 (52, [x0, x1, x2, x3, x4, x5, x6, x7], .int (8 : Int32) :: st, a, h) := Rn_go c174_50 rfl
theorem c174_52 : mcode 174 52 = some (.if_icmp .ge 66, 3, 0, 0, 0) := rfl
theorem r174_52 : Rn 174 (52, [x0, x1, x2, x3, x4, x5, x6, x7], .int j :: .int i :: st, a, h) = if i < j then Rn 174 (55, [x0, x1, x2, x3, x4, x5, x6, x7], st, a, h) else Rn 174 (118, [x0, x1, x2, x3, x4, x5, x6, x7], st, a, h) := Rn_icmpn c174_52 mc_ge rfl rfl
theorem c174_55 : mcode 174 55 = some (.aload_n 0, 1, 0, 0, 0) := rfl
theorem r174_55 : Rn 174 (55, [some (.ref q), x1, x2, x3, x4, x5, x6, x7], st, a, h) = Rn 174 (56, [some (.ref q), x1, x2, x3, x4, x5, x6, x7], .ref q :: st, a, h) := Rn_go c174_55 rfl
theorem c174_56 : mcode 174 56 = some (.iload 5, 2, 0, 0, 0) := rfl
theorem r174_56 : Rn 174 (56, [x0, x1, x2, x3, x4, some (.int i), x6, x7], st, a, h) = Rn 174 (58, [x0, x1, x2, x3, x4, some (.int i), x6, x7], .int i :: st, a, h) := Rn_go c174_56 rfl
theorem c174_58 : mcode 174 58 = some (.iload 6, 2, 0, 0, 0) := rfl
theorem r174_58 : Rn 174 (58, [x0, x1, x2, x3, x4, x5, some (.int i), x7], st, a, h) = Rn 174 (60, [x0, x1, x2, x3, x4, x5, some (.int i), x7], .int i :: st, a, h) := Rn_go c174_58 rfl
theorem c174_60 : mcode 174 60 = some (.invokevirtual 82, 3, 144, 2, 6) := rfl
theorem r174_60 : Rn 174 (60, [x0, x1, x2, x3, x4, x5, x6, x7], [v1, v0, .ref q], a, h) = if mis h q 6 = true then Bk 174 63 [x0, x1, x2, x3, x4, x5, x6, x7] [] (Ec 144 [.ref q, v0, v1] a h) else none := Rn_call1 c174_60 rfl (Nat.le_of_ble_eq_true rfl) rfl rfl (Nat.le_of_ble_eq_true rfl)
theorem c174_63 : mcode 174 63 = some (.aload_n 0, 1, 0, 0, 0) := rfl
theorem r174_63 : Rn 174 (63, [some (.ref q), x1, x2, x3, x4, x5, x6, x7], st, a, h) = Rn 174 (64, [some (.ref q), x1, x2, x3, x4, x5, x6, x7], .ref q :: st, a, h) := Rn_go c174_63 rfl
theorem c174_64 : mcode 174 64 = some (.iload_n 1, 1, 0, 0, 0) := rfl
theorem r174_64 : Rn 174 (64, [x0, some (.int i), x2, x3, x4, x5, x6, x7], st, a, h) = Rn 174 (65, [x0, some (.int i), x2, x3, x4, x5, x6, x7], .int i :: st, a, h) := Rn_go c174_64 rfl
theorem c174_65 : mcode 174 65 = some (.iconst 5, 1, 0, 0, 0) := rfl
theorem r174_65 : Rn 174 (65, [x0, x1, x2, x3, x4, x5, x6, x7], st, a, h) = Rn 174 (66, [x0, x1, x2, x3, x4, x5, x6, x7], .int (5 : Int32) :: st, a, h) := Rn_go c174_65 rfl
theorem c174_66 : mcode 174 66 = some (.invokestatic 79, 3, 131, 2, 0) := rfl
theorem r174_66 : Rn 174 (66, [x0, x1, x2, x3, x4, x5, x6, x7], [v1, v0, .ref q0], a, h) = Bk 174 69 [x0, x1, x2, x3, x4, x5, x6, x7] [.ref q0] (Ec 131 [v0, v1] a h) := Rn_call0 c174_66 (fun z => nomatch z) rfl (Nat.le_of_ble_eq_true rfl) rfl rfl (Nat.le_of_ble_eq_true rfl)
theorem c174_69 : mcode 174 69 = some (.iload_n 2, 1, 0, 0, 0) := rfl
theorem r174_69 : Rn 174 (69, [x0, x1, some (.int i), x3, x4, x5, x6, x7], st, a, h) = Rn 174 (70, [x0, x1, some (.int i), x3, x4, x5, x6, x7], .int i :: st, a, h) := Rn_go c174_69 rfl
theorem c174_70 : mcode 174 70 = some (.invokevirtual 163, 3, 167, 2, 6) := rfl
theorem r174_70 : Rn 174 (70, [x0, x1, x2, x3, x4, x5, x6, x7], [v1, v0, .ref q], a, h) = if mis h q 6 = true then Bk 174 73 [x0, x1, x2, x3, x4, x5, x6, x7] [] (Ec 167 [.ref q, v0, v1] a h) else none := Rn_call1 c174_70 rfl (Nat.le_of_ble_eq_true rfl) rfl rfl (Nat.le_of_ble_eq_true rfl)
theorem c174_73 : mcode 174 73 = some (.istore 7, 2, 0, 0, 0) := rfl
theorem r174_73 : Rn 174 (73, [x0, x1, x2, x3, x4, x5, x6, x7], .int i :: st, a, h) = Nl x6 (Rn 174 (75, [x0, x1, x2, x3, x4, x5, x6, some (.int i)], st, a, h)) := Rn_st1 (k := 7) (v := .int i) x6 c174_73 rfl rfl rfl rfl
theorem c174_75 : mcode 174 75 = some (.aload_n 0, 1, 0, 0, 0) := rfl
theorem r174_75 : Rn 174 (75, [some (.ref q), x1, x2, x3, x4, x5, x6, x7], st, a, h) = Rn 174 (76, [some (.ref q), x1, x2, x3, x4, x5, x6, x7], .ref q :: st, a, h) := Rn_go c174_75 rfl
theorem c174_76 : mcode 174 76 = some (.iload 5, 2, 0, 0, 0) := rfl
theorem r174_76 : Rn 174 (76, [x0, x1, x2, x3, x4, some (.int i), x6, x7], st, a, h) = Rn 174 (78, [x0, x1, x2, x3, x4, some (.int i), x6, x7], .int i :: st, a, h) := Rn_go c174_76 rfl
theorem c174_78 : mcode 174 78 = some (.iload 6, 2, 0, 0, 0) := rfl
theorem r174_78 : Rn 174 (78, [x0, x1, x2, x3, x4, x5, some (.int i), x7], st, a, h) = Rn 174 (80, [x0, x1, x2, x3, x4, x5, some (.int i), x7], .int i :: st, a, h) := Rn_go c174_78 rfl
theorem c174_80 : mcode 174 80 = some (.invokevirtual 82, 3, 144, 2, 6) := rfl
theorem r174_80 : Rn 174 (80, [x0, x1, x2, x3, x4, x5, x6, x7], [v1, v0, .ref q], a, h) = if mis h q 6 = true then Bk 174 83 [x0, x1, x2, x3, x4, x5, x6, x7] [] (Ec 144 [.ref q, v0, v1] a h) else none := Rn_call1 c174_80 rfl (Nat.le_of_ble_eq_true rfl) rfl rfl (Nat.le_of_ble_eq_true rfl)
theorem c174_83 : mcode 174 83 = some (.iload 7, 2, 0, 0, 0) := rfl
theorem r174_83 : Rn 174 (83, [x0, x1, x2, x3, x4, x5, x6, some (.int i)], st, a, h) = Rn 174 (85, [x0, x1, x2, x3, x4, x5, x6, some (.int i)], .int i :: st, a, h) := Rn_go c174_83 rfl
theorem c174_85 : mcode 174 85 = some (.iload 4, 2, 0, 0, 0) := rfl
theorem r174_85 : Rn 174 (85, [x0, x1, x2, x3, some (.int i), x5, x6, x7], st, a, h) = Rn 174 (87, [x0, x1, x2, x3, some (.int i), x5, x6, x7], .int i :: st, a, h) := Rn_go c174_85 rfl
theorem c174_87 : mcode 174 87 = some (.if_icmp .le 14, 3, 0, 0, 0) := rfl
theorem r174_87 : Rn 174 (87, [x0, x1, x2, x3, x4, x5, x6, x7], .int j :: .int i :: st, a, h) = if j < i then Rn 174 (90, [x0, x1, x2, x3, x4, x5, x6, x7], st, a, h) else Rn 174 (101, [x0, x1, x2, x3, x4, x5, x6, x7], st, a, h) := Rn_icmpn c174_87 mc_le rfl rfl
theorem c174_90 : mcode 174 90 = some (.bipush 8, 2, 0, 0, 0) := rfl
theorem r174_90 : Rn 174 (90, [x0, x1, x2, x3, x4, x5, x6, x7], st, a, h) = Rn 174 (92, [x0, x1, x2, x3, x4, x5, x6, x7], .int (8 : Int32) :: st, a, h) := Rn_go c174_90 rfl
theorem c174_92 : mcode 174 92 = some (.iload 5, 2, 0, 0, 0) := rfl
theorem r174_92 : Rn 174 (92, [x0, x1, x2, x3, x4, some (.int i), x6, x7], st, a, h) = Rn 174 (94, [x0, x1, x2, x3, x4, some (.int i), x6, x7], .int i :: st, a, h) := Rn_go c174_92 rfl
theorem c174_94 : mcode 174 94 = some (.imul, 1, 0, 0, 0) := rfl
theorem r174_94 : Rn 174 (94, [x0, x1, x2, x3, x4, x5, x6, x7], .int j :: .int i :: st, a, h) = Rn 174 (95, [x0, x1, x2, x3, x4, x5, x6, x7], .int (i * j) :: st, a, h) := Rn_go c174_94 rfl
theorem c174_95 : mcode 174 95 = some (.iload 6, 2, 0, 0, 0) := rfl
theorem r174_95 : Rn 174 (95, [x0, x1, x2, x3, x4, x5, some (.int i), x7], st, a, h) = Rn 174 (97, [x0, x1, x2, x3, x4, x5, some (.int i), x7], .int i :: st, a, h) := Rn_go c174_95 rfl
theorem c174_97 : mcode 174 97 = some (.iadd, 1, 0, 0, 0) := rfl
theorem r174_97 : Rn 174 (97, [x0, x1, x2, x3, x4, x5, x6, x7], .int j :: .int i :: st, a, h) = Rn 174 (98, [x0, x1, x2, x3, x4, x5, x6, x7], .int (i + j) :: st, a, h) := Rn_go c174_97 rfl
theorem c174_98 : mcode 174 98 = some (.goto 4, 3, 0, 0, 0) := rfl
theorem r174_98 : Rn 174 (98, [x0, x1, x2, x3, x4, x5, x6, x7], st, a, h) = Rn 174 (102, [x0, x1, x2, x3, x4, x5, x6, x7], st, a, h) := Rn_goto c174_98 rfl
theorem c174_101 : mcode 174 101 = some (.iload_n 3, 1, 0, 0, 0) := rfl
theorem r174_101 : Rn 174 (101, [x0, x1, x2, some (.int i), x4, x5, x6, x7], st, a, h) = Rn 174 (102, [x0, x1, x2, some (.int i), x4, x5, x6, x7], .int i :: st, a, h) := Rn_go c174_101 rfl
theorem c174_102 : mcode 174 102 = some (.istore_n 3, 1, 0, 0, 0) := rfl
theorem r174_102 : Rn 174 (102, [x0, x1, x2, x3, x4, x5, x6, x7], .int i :: st, a, h) = Nl x2 (Rn 174 (103, [x0, x1, x2, some (.int i), x4, x5, x6, x7], st, a, h)) := Rn_st1 (k := 3) (v := .int i) x2 c174_102 rfl rfl rfl rfl
theorem c174_103 : mcode 174 103 = some (.iload 4, 2, 0, 0, 0) := rfl
theorem r174_103 : Rn 174 (103, [x0, x1, x2, x3, some (.int i), x5, x6, x7], st, a, h) = Rn 174 (105, [x0, x1, x2, x3, some (.int i), x5, x6, x7], .int i :: st, a, h) := Rn_go c174_103 rfl
theorem c174_105 : mcode 174 105 = some (.iload 7, 2, 0, 0, 0) := rfl
theorem r174_105 : Rn 174 (105, [x0, x1, x2, x3, x4, x5, x6, some (.int i)], st, a, h) = Rn 174 (107, [x0, x1, x2, x3, x4, x5, x6, some (.int i)], .int i :: st, a, h) := Rn_go c174_105 rfl
theorem c174_107 : mcode 174 107 = some (.invokestatic 115, 3, 135, 2, 0) := rfl
theorem r174_107 : Rn 174 (107, [x0, x1, x2, x3, x4, x5, x6, x7], [v1, v0], a, h) = Bk 174 110 [x0, x1, x2, x3, x4, x5, x6, x7] [] (Ec 135 [v0, v1] a h) := Rn_call0 c174_107 (fun z => nomatch z) rfl (Nat.le_of_ble_eq_true rfl) rfl rfl (Nat.le_of_ble_eq_true rfl)
theorem c174_110 : mcode 174 110 = some (.istore 4, 2, 0, 0, 0) := rfl
theorem r174_110 : Rn 174 (110, [x0, x1, x2, x3, x4, x5, x6, x7], .int i :: st, a, h) = Nl x3 (Rn 174 (112, [x0, x1, x2, x3, some (.int i), x5, x6, x7], st, a, h)) := Rn_st1 (k := 4) (v := .int i) x3 c174_110 rfl rfl rfl rfl
theorem c174_112 : mcode 174 112 = some (.iinc 6 1, 3, 0, 0, 0) := rfl
theorem r174_112 : Rn 174 (112, [x0, x1, x2, x3, x4, x5, some (.int i), x7], st, a, h) = Nl x5 (Rn 174 (115, [x0, x1, x2, x3, x4, x5, some (.int (i + (1 : Int32))), x7], st, a, h)) := Rn_st1 (k := 6) (v := .int (i + (1 : Int32))) x5 c174_112 rfl rfl rfl rfl
theorem c174_115 : mcode 174 115 = some (.goto (-67), 3, 0, 0, 0) := rfl
theorem r174_115 : Rn 174 (115, [x0, x1, x2, x3, x4, x5, x6, x7], st, a, h) = Rn 174 (48, [x0, x1, x2, x3, x4, x5, x6, x7], st, a, h) := Rn_goto c174_115 rfl
theorem c174_118 : mcode 174 118 = some (.iinc 5 1, 3, 0, 0, 0) := rfl
theorem r174_118 : Rn 174 (118, [x0, x1, x2, x3, x4, some (.int i), x6, x7], st, a, h) = Nl x4 (Rn 174 (121, [x0, x1, x2, x3, x4, some (.int (i + (1 : Int32))), x6, x7], st, a, h)) := Rn_st1 (k := 5) (v := .int (i + (1 : Int32))) x4 c174_118 rfl rfl rfl rfl
theorem c174_121 : mcode 174 121 = some (.goto (-86), 3, 0, 0, 0) := rfl
theorem r174_121 : Rn 174 (121, [x0, x1, x2, x3, x4, x5, x6, x7], st, a, h) = Rn 174 (35, [x0, x1, x2, x3, x4, x5, x6, x7], st, a, h) := Rn_goto c174_121 rfl
theorem c174_124 : mcode 174 124 = some (.iload_n 3, 1, 0, 0, 0) := rfl
theorem r174_124 : Rn 174 (124, [x0, x1, x2, some (.int i), x4, x5, x6, x7], st, a, h) = Rn 174 (125, [x0, x1, x2, some (.int i), x4, x5, x6, x7], .int i :: st, a, h) := Rn_go c174_124 rfl
theorem c174_125 : mcode 174 125 = some (.ireturn, 1, 0, 0, 0) := rfl
theorem r174_125 : Rn 174 (125, [x0, x1, x2, x3, x4, x5, x6, x7], [.int i], a, h) = some (some (.int i), a, h) := Rn_ireti c174_125
theorem c175_0 : mcode 175 0 = some (.aload_n 0, 1, 0, 0, 0) := rfl
theorem r175_0 : Rn 175 (0, [some (.ref q), x1, x2, x3, x4, x5, x6, x7, x8, x9], st, a, h) = Rn 175 (1, [some (.ref q), x1, x2, x3, x4, x5, x6, x7, x8, x9], .ref q :: st, a, h) := Rn_go c175_0 rfl
theorem c175_1 : mcode 175 1 = some (.iload_n 1, 1, 0, 0, 0) := rfl
theorem r175_1 : Rn 175 (1, [x0, some (.int i), x2, x3, x4, x5, x6, x7, x8, x9], st, a, h) = Rn 175 (2, [x0, some (.int i), x2, x3, x4, x5, x6, x7, x8, x9], .int i :: st, a, h) := Rn_go c175_1 rfl
theorem c175_2 : mcode 175 2 = some (.iload_n 2, 1, 0, 0, 0) := rfl
theorem r175_2 : Rn 175 (2, [x0, x1, some (.int i), x3, x4, x5, x6, x7, x8, x9], st, a, h) = Rn 175 (3, [x0, x1, some (.int i), x3, x4, x5, x6, x7, x8, x9], .int i :: st, a, h) := Rn_go c175_2 rfl
theorem c175_3 : mcode 175 3 = some (.invokevirtual 63, 3, 132, 2, 6) := rfl
theorem r175_3 : Rn 175 (3, [x0, x1, x2, x3, x4, x5, x6, x7, x8, x9], [v1, v0, .ref q], a, h) = if mis h q 6 = true then Bk 175 6 [x0, x1, x2, x3, x4, x5, x6, x7, x8, x9] [] (Ec 132 [.ref q, v0, v1] a h) else none := Rn_call1 c175_3 rfl (Nat.le_of_ble_eq_true rfl) rfl rfl (Nat.le_of_ble_eq_true rfl)
theorem c175_6 : mcode 175 6 = some (.istore 5, 2, 0, 0, 0) := rfl
theorem r175_6 : Rn 175 (6, [x0, x1, x2, x3, x4, x5, x6, x7, x8, x9], .int i :: st, a, h) = Nl x4 (Rn 175 (8, [x0, x1, x2, x3, x4, some (.int i), x6, x7, x8, x9], st, a, h)) := Rn_st1 (k := 5) (v := .int i) x4 c175_6 rfl rfl rfl rfl
theorem c175_8 : mcode 175 8 = some (.iconst 0, 1, 0, 0, 0) := rfl
theorem r175_8 : Rn 175 (8, [x0, x1, x2, x3, x4, x5, x6, x7, x8, x9], st, a, h) = Rn 175 (9, [x0, x1, x2, x3, x4, x5, x6, x7, x8, x9], .int (0 : Int32) :: st, a, h) := Rn_go c175_8 rfl
theorem c175_9 : mcode 175 9 = some (.istore 6, 2, 0, 0, 0) := rfl
theorem r175_9 : Rn 175 (9, [x0, x1, x2, x3, x4, x5, x6, x7, x8, x9], .int i :: st, a, h) = Nl x5 (Rn 175 (11, [x0, x1, x2, x3, x4, x5, some (.int i), x7, x8, x9], st, a, h)) := Rn_st1 (k := 6) (v := .int i) x5 c175_9 rfl rfl rfl rfl
theorem c175_11 : mcode 175 11 = some (.iconst (-1), 1, 0, 0, 0) := rfl
theorem r175_11 : Rn 175 (11, [x0, x1, x2, x3, x4, x5, x6, x7, x8, x9], st, a, h) = Rn 175 (12, [x0, x1, x2, x3, x4, x5, x6, x7, x8, x9], .int (-1 : Int32) :: st, a, h) := Rn_go c175_11 rfl
theorem c175_12 : mcode 175 12 = some (.istore 7, 2, 0, 0, 0) := rfl
theorem r175_12 : Rn 175 (12, [x0, x1, x2, x3, x4, x5, x6, x7, x8, x9], .int i :: st, a, h) = Nl x6 (Rn 175 (14, [x0, x1, x2, x3, x4, x5, x6, some (.int i), x8, x9], st, a, h)) := Rn_st1 (k := 7) (v := .int i) x6 c175_12 rfl rfl rfl rfl
theorem c175_14 : mcode 175 14 = some (.iconst 0, 1, 0, 0, 0) := rfl
theorem r175_14 : Rn 175 (14, [x0, x1, x2, x3, x4, x5, x6, x7, x8, x9], st, a, h) = Rn 175 (15, [x0, x1, x2, x3, x4, x5, x6, x7, x8, x9], .int (0 : Int32) :: st, a, h) := Rn_go c175_14 rfl
theorem c175_15 : mcode 175 15 = some (.istore 8, 2, 0, 0, 0) := rfl
theorem r175_15 : Rn 175 (15, [x0, x1, x2, x3, x4, x5, x6, x7, x8, x9], .int i :: st, a, h) = Nl x7 (Rn 175 (17, [x0, x1, x2, x3, x4, x5, x6, x7, some (.int i), x9], st, a, h)) := Rn_st1 (k := 8) (v := .int i) x7 c175_15 rfl rfl rfl rfl
theorem c175_17 : mcode 175 17 = some (.iload 8, 2, 0, 0, 0) := rfl
theorem r175_17 : Rn 175 (17, [x0, x1, x2, x3, x4, x5, x6, x7, some (.int i), x9], st, a, h) = Rn 175 (19, [x0, x1, x2, x3, x4, x5, x6, x7, some (.int i), x9], .int i :: st, a, h) := Rn_go c175_17 rfl
theorem c175_19 : mcode 175 19 = some (.iload_n 2, 1, 0, 0, 0) := rfl
theorem r175_19 : Rn 175 (19, [x0, x1, some (.int i), x3, x4, x5, x6, x7, x8, x9], st, a, h) = Rn 175 (20, [x0, x1, some (.int i), x3, x4, x5, x6, x7, x8, x9], .int i :: st, a, h) := Rn_go c175_19 rfl
theorem c175_20 : mcode 175 20 = some (.invokestatic 112, 3, 152, 1, 0) := rfl
theorem r175_20 : Rn 175 (20, [x0, x1, x2, x3, x4, x5, x6, x7, x8, x9], [v0, .int i0], a, h) = Bk 175 23 [x0, x1, x2, x3, x4, x5, x6, x7, x8, x9] [.int i0] (Ec 152 [v0] a h) := Rn_call0 c175_20 (fun z => nomatch z) rfl (Nat.le_of_ble_eq_true rfl) rfl rfl (Nat.le_of_ble_eq_true rfl)
theorem c175_23 : mcode 175 23 = some (.if_icmp .gt 59, 3, 0, 0, 0) := rfl
theorem r175_23 : Rn 175 (23, [x0, x1, x2, x3, x4, x5, x6, x7, x8, x9], .int j :: .int i :: st, a, h) = if j < i then Rn 175 (82, [x0, x1, x2, x3, x4, x5, x6, x7, x8, x9], st, a, h) else Rn 175 (26, [x0, x1, x2, x3, x4, x5, x6, x7, x8, x9], st, a, h) := Rn_icmp c175_23 mc_gt rfl rfl
theorem c175_26 : mcode 175 26 = some (.aload_n 0, 1, 0, 0, 0) := rfl
theorem r175_26 : Rn 175 (26, [some (.ref q), x1, x2, x3, x4, x5, x6, x7, x8, x9], st, a, h) = Rn 175 (27, [some (.ref q), x1, x2, x3, x4, x5, x6, x7, x8, x9], .ref q :: st, a, h) := Rn_go c175_26 rfl
theorem c175_27 : mcode 175 27 = some (.getfield 7, 3, 6, 0, 0) := rfl
theorem r175_27 : Rn 175 (27, [x0, x1, x2, x3, x4, x5, x6, x7, x8, x9], .ref q :: st, a, h) = Kv 175 30 [x0, x1, x2, x3, x4, x5, x6, x7, x8, x9] st a h (mgf h q 6 0) := Rn_getf c175_27 rfl
theorem c175_30 : mcode 175 30 = some (.iload_n 1, 1, 0, 0, 0) := rfl
theorem r175_30 : Rn 175 (30, [x0, some (.int i), x2, x3, x4, x5, x6, x7, x8, x9], st, a, h) = Rn 175 (31, [x0, some (.int i), x2, x3, x4, x5, x6, x7, x8, x9], .int i :: st, a, h) := Rn_go c175_30 rfl
theorem c175_31 : mcode 175 31 = some (.iload_n 2, 1, 0, 0, 0) := rfl
theorem r175_31 : Rn 175 (31, [x0, x1, some (.int i), x3, x4, x5, x6, x7, x8, x9], st, a, h) = Rn 175 (32, [x0, x1, some (.int i), x3, x4, x5, x6, x7, x8, x9], .int i :: st, a, h) := Rn_go c175_31 rfl
theorem c175_32 : mcode 175 32 = some (.invokestatic 79, 3, 131, 2, 0) := rfl
theorem r175_32 : Rn 175 (32, [x0, x1, x2, x3, x4, x5, x6, x7, x8, x9], [v1, v0, .ref q0], a, h) = Bk 175 35 [x0, x1, x2, x3, x4, x5, x6, x7, x8, x9] [.ref q0] (Ec 131 [v0, v1] a h) := Rn_call0 c175_32 (fun z => nomatch z) rfl (Nat.le_of_ble_eq_true rfl) rfl rfl (Nat.le_of_ble_eq_true rfl)
theorem c175_35 : mcode 175 35 = some (.iload 8, 2, 0, 0, 0) := rfl
theorem r175_35 : Rn 175 (35, [x0, x1, x2, x3, x4, x5, x6, x7, some (.int i), x9], st, a, h) = Rn 175 (37, [x0, x1, x2, x3, x4, x5, x6, x7, some (.int i), x9], .int i :: st, a, h) := Rn_go c175_35 rfl
theorem c175_37 : mcode 175 37 = some (.iastore, 1, 0, 0, 0) := rfl
theorem r175_37 : Rn 175 (37, [x0, x1, x2, x3, x4, x5, x6, x7, x8, x9], .int j :: .int i :: .ref q :: st, a, h) = Kh 175 38 [x0, x1, x2, x3, x4, x5, x6, x7, x8, x9] st a (mias h q i j) := Rn_iast c175_37 rfl
theorem c175_38 : mcode 175 38 = some (.aload_n 0, 1, 0, 0, 0) := rfl
theorem r175_38 : Rn 175 (38, [some (.ref q), x1, x2, x3, x4, x5, x6, x7, x8, x9], st, a, h) = Rn 175 (39, [some (.ref q), x1, x2, x3, x4, x5, x6, x7, x8, x9], .ref q :: st, a, h) := Rn_go c175_38 rfl
theorem c175_39 : mcode 175 39 = some (.iload_n 1, 1, 0, 0, 0) := rfl
theorem r175_39 : Rn 175 (39, [x0, some (.int i), x2, x3, x4, x5, x6, x7, x8, x9], st, a, h) = Rn 175 (40, [x0, some (.int i), x2, x3, x4, x5, x6, x7, x8, x9], .int i :: st, a, h) := Rn_go c175_39 rfl
theorem c175_40 : mcode 175 40 = some (.iload_n 3, 1, 0, 0, 0) := rfl
theorem r175_40 : Rn 175 (40, [x0, x1, x2, some (.int i), x4, x5, x6, x7, x8, x9], st, a, h) = Rn 175 (41, [x0, x1, x2, some (.int i), x4, x5, x6, x7, x8, x9], .int i :: st, a, h) := Rn_go c175_40 rfl
theorem c175_41 : mcode 175 41 = some (.invokestatic 79, 3, 131, 2, 0) := rfl
theorem r175_41 : Rn 175 (41, [x0, x1, x2, x3, x4, x5, x6, x7, x8, x9], [v1, v0, .ref q0], a, h) = Bk 175 44 [x0, x1, x2, x3, x4, x5, x6, x7, x8, x9] [.ref q0] (Ec 131 [v0, v1] a h) := Rn_call0 c175_41 (fun z => nomatch z) rfl (Nat.le_of_ble_eq_true rfl) rfl rfl (Nat.le_of_ble_eq_true rfl)
theorem c175_44 : mcode 175 44 = some (.iload 4, 2, 0, 0, 0) := rfl
theorem r175_44 : Rn 175 (44, [x0, x1, x2, x3, some (.int i), x5, x6, x7, x8, x9], st, a, h) = Rn 175 (46, [x0, x1, x2, x3, some (.int i), x5, x6, x7, x8, x9], .int i :: st, a, h) := Rn_go c175_44 rfl
theorem c175_46 : mcode 175 46 = some (.invokevirtual 163, 3, 167, 2, 6) := rfl
theorem r175_46 : Rn 175 (46, [x0, x1, x2, x3, x4, x5, x6, x7, x8, x9], [v1, v0, .ref q], a, h) = if mis h q 6 = true then Bk 175 49 [x0, x1, x2, x3, x4, x5, x6, x7, x8, x9] [] (Ec 167 [.ref q, v0, v1] a h) else none := Rn_call1 c175_46 rfl (Nat.le_of_ble_eq_true rfl) rfl rfl (Nat.le_of_ble_eq_true rfl)
theorem c175_49 : mcode 175 49 = some (.istore 9, 2, 0, 0, 0) := rfl
theorem r175_49 : Rn 175 (49, [x0, x1, x2, x3, x4, x5, x6, x7, x8, x9], .int i :: st, a, h) = Nl x8 (Rn 175 (51, [x0, x1, x2, x3, x4, x5, x6, x7, x8, some (.int i)], st, a, h)) := Rn_st1 (k := 9) (v := .int i) x8 c175_49 rfl rfl rfl rfl
theorem c175_51 : mcode 175 51 = some (.iload 9, 2, 0, 0, 0) := rfl
theorem r175_51 : Rn 175 (51, [x0, x1, x2, x3, x4, x5, x6, x7, x8, some (.int i)], st, a, h) = Rn 175 (53, [x0, x1, x2, x3, x4, x5, x6, x7, x8, some (.int i)], .int i :: st, a, h) := Rn_go c175_51 rfl
theorem c175_53 : mcode 175 53 = some (.iload 7, 2, 0, 0, 0) := rfl
theorem r175_53 : Rn 175 (53, [x0, x1, x2, x3, x4, x5, x6, some (.int i), x8, x9], st, a, h) = Rn 175 (55, [x0, x1, x2, x3, x4, x5, x6, some (.int i), x8, x9], .int i :: st, a, h) := Rn_go c175_53 rfl
theorem c175_55 : mcode 175 55 = some (.if_icmp .le 8, 3, 0, 0, 0) := rfl
theorem r175_55 : Rn 175 (55, [x0, x1, x2, x3, x4, x5, x6, x7, x8, x9], .int j :: .int i :: st, a, h) = if j < i then Rn 175 (58, [x0, x1, x2, x3, x4, x5, x6, x7, x8, x9], st, a, h) else Rn 175 (63, [x0, x1, x2, x3, x4, x5, x6, x7, x8, x9], st, a, h) := Rn_icmpn c175_55 mc_le rfl rfl
theorem c175_58 : mcode 175 58 = some (.iload 8, 2, 0, 0, 0) := rfl
theorem r175_58 : Rn 175 (58, [x0, x1, x2, x3, x4, x5, x6, x7, some (.int i), x9], st, a, h) = Rn 175 (60, [x0, x1, x2, x3, x4, x5, x6, x7, some (.int i), x9], .int i :: st, a, h) := Rn_go c175_58 rfl
theorem c175_60 : mcode 175 60 = some (.goto 5, 3, 0, 0, 0) := rfl
theorem r175_60 : Rn 175 (60, [x0, x1, x2, x3, x4, x5, x6, x7, x8, x9], st, a, h) = Rn 175 (65, [x0, x1, x2, x3, x4, x5, x6, x7, x8, x9], st, a, h) := Rn_goto c175_60 rfl
theorem c175_63 : mcode 175 63 = some (.iload 6, 2, 0, 0, 0) := rfl
theorem r175_63 : Rn 175 (63, [x0, x1, x2, x3, x4, x5, some (.int i), x7, x8, x9], st, a, h) = Rn 175 (65, [x0, x1, x2, x3, x4, x5, some (.int i), x7, x8, x9], .int i :: st, a, h) := Rn_go c175_63 rfl
theorem c175_65 : mcode 175 65 = some (.istore 6, 2, 0, 0, 0) := rfl
theorem r175_65 : Rn 175 (65, [x0, x1, x2, x3, x4, x5, x6, x7, x8, x9], .int i :: st, a, h) = Nl x5 (Rn 175 (67, [x0, x1, x2, x3, x4, x5, some (.int i), x7, x8, x9], st, a, h)) := Rn_st1 (k := 6) (v := .int i) x5 c175_65 rfl rfl rfl rfl
theorem c175_67 : mcode 175 67 = some (.iload 7, 2, 0, 0, 0) := rfl
theorem r175_67 : Rn 175 (67, [x0, x1, x2, x3, x4, x5, x6, some (.int i), x8, x9], st, a, h) = Rn 175 (69, [x0, x1, x2, x3, x4, x5, x6, some (.int i), x8, x9], .int i :: st, a, h) := Rn_go c175_67 rfl
theorem c175_69 : mcode 175 69 = some (.iload 9, 2, 0, 0, 0) := rfl
theorem r175_69 : Rn 175 (69, [x0, x1, x2, x3, x4, x5, x6, x7, x8, some (.int i)], st, a, h) = Rn 175 (71, [x0, x1, x2, x3, x4, x5, x6, x7, x8, some (.int i)], .int i :: st, a, h) := Rn_go c175_69 rfl
theorem c175_71 : mcode 175 71 = some (.invokestatic 115, 3, 135, 2, 0) := rfl
theorem r175_71 : Rn 175 (71, [x0, x1, x2, x3, x4, x5, x6, x7, x8, x9], [v1, v0], a, h) = Bk 175 74 [x0, x1, x2, x3, x4, x5, x6, x7, x8, x9] [] (Ec 135 [v0, v1] a h) := Rn_call0 c175_71 (fun z => nomatch z) rfl (Nat.le_of_ble_eq_true rfl) rfl rfl (Nat.le_of_ble_eq_true rfl)
theorem c175_74 : mcode 175 74 = some (.istore 7, 2, 0, 0, 0) := rfl
theorem r175_74 : Rn 175 (74, [x0, x1, x2, x3, x4, x5, x6, x7, x8, x9], .int i :: st, a, h) = Nl x6 (Rn 175 (76, [x0, x1, x2, x3, x4, x5, x6, some (.int i), x8, x9], st, a, h)) := Rn_st1 (k := 7) (v := .int i) x6 c175_74 rfl rfl rfl rfl
theorem c175_76 : mcode 175 76 = some (.iinc 8 1, 3, 0, 0, 0) := rfl
theorem r175_76 : Rn 175 (76, [x0, x1, x2, x3, x4, x5, x6, x7, some (.int i), x9], st, a, h) = Nl x7 (Rn 175 (79, [x0, x1, x2, x3, x4, x5, x6, x7, some (.int (i + (1 : Int32))), x9], st, a, h)) := Rn_st1 (k := 8) (v := .int (i + (1 : Int32))) x7 c175_76 rfl rfl rfl rfl
theorem c175_79 : mcode 175 79 = some (.goto (-62), 3, 0, 0, 0) := rfl
theorem r175_79 : Rn 175 (79, [x0, x1, x2, x3, x4, x5, x6, x7, x8, x9], st, a, h) = Rn 175 (17, [x0, x1, x2, x3, x4, x5, x6, x7, x8, x9], st, a, h) := Rn_goto c175_79 rfl
theorem c175_82 : mcode 175 82 = some (.aload_n 0, 1, 0, 0, 0) := rfl
theorem r175_82 : Rn 175 (82, [some (.ref q), x1, x2, x3, x4, x5, x6, x7, x8, x9], st, a, h) = Rn 175 (83, [some (.ref q), x1, x2, x3, x4, x5, x6, x7, x8, x9], .ref q :: st, a, h) := Rn_go c175_82 rfl
theorem c175_83 : mcode 175 83 = some (.getfield 7, 3, 6, 0, 0) := rfl
theorem r175_83 : Rn 175 (83, [x0, x1, x2, x3, x4, x5, x6, x7, x8, x9], .ref q :: st, a, h) = Kv 175 86 [x0, x1, x2, x3, x4, x5, x6, x7, x8, x9] st a h (mgf h q 6 0) := Rn_getf c175_83 rfl
theorem c175_86 : mcode 175 86 = some (.iload_n 1, 1, 0, 0, 0) := rfl
theorem r175_86 : Rn 175 (86, [x0, some (.int i), x2, x3, x4, x5, x6, x7, x8, x9], st, a, h) = Rn 175 (87, [x0, some (.int i), x2, x3, x4, x5, x6, x7, x8, x9], .int i :: st, a, h) := Rn_go c175_86 rfl
theorem c175_87 : mcode 175 87 = some (.iload_n 2, 1, 0, 0, 0) := rfl
theorem r175_87 : Rn 175 (87, [x0, x1, some (.int i), x3, x4, x5, x6, x7, x8, x9], st, a, h) = Rn 175 (88, [x0, x1, some (.int i), x3, x4, x5, x6, x7, x8, x9], .int i :: st, a, h) := Rn_go c175_87 rfl
theorem c175_88 : mcode 175 88 = some (.invokestatic 79, 3, 131, 2, 0) := rfl
theorem r175_88 : Rn 175 (88, [x0, x1, x2, x3, x4, x5, x6, x7, x8, x9], [v1, v0, .ref q0], a, h) = Bk 175 91 [x0, x1, x2, x3, x4, x5, x6, x7, x8, x9] [.ref q0] (Ec 131 [v0, v1] a h) := Rn_call0 c175_88 (fun z => nomatch z) rfl (Nat.le_of_ble_eq_true rfl) rfl rfl (Nat.le_of_ble_eq_true rfl)
theorem c175_91 : mcode 175 91 = some (.iload 5, 2, 0, 0, 0) := rfl
theorem r175_91 : Rn 175 (91, [x0, x1, x2, x3, x4, some (.int i), x6, x7, x8, x9], st, a, h) = Rn 175 (93, [x0, x1, x2, x3, x4, some (.int i), x6, x7, x8, x9], .int i :: st, a, h) := Rn_go c175_91 rfl
theorem c175_93 : mcode 175 93 = some (.iastore, 1, 0, 0, 0) := rfl
theorem r175_93 : Rn 175 (93, [x0, x1, x2, x3, x4, x5, x6, x7, x8, x9], .int j :: .int i :: .ref q :: st, a, h) = Kh 175 94 [x0, x1, x2, x3, x4, x5, x6, x7, x8, x9] st a (mias h q i j) := Rn_iast c175_93 rfl
theorem c175_94 : mcode 175 94 = some (.iload 6, 2, 0, 0, 0) := rfl
theorem r175_94 : Rn 175 (94, [x0, x1, x2, x3, x4, x5, some (.int i), x7, x8, x9], st, a, h) = Rn 175 (96, [x0, x1, x2, x3, x4, x5, some (.int i), x7, x8, x9], .int i :: st, a, h) := Rn_go c175_94 rfl
theorem c175_96 : mcode 175 96 = some (.ireturn, 1, 0, 0, 0) := rfl
theorem r175_96 : Rn 175 (96, [x0, x1, x2, x3, x4, x5, x6, x7, x8, x9], [.int i], a, h) = some (some (.int i), a, h) := Rn_ireti c175_96
theorem c176_0 : mcode 176 0 = some (.aload_n 0, 1, 0, 0, 0) := rfl
theorem r176_0 : Rn 176 (0, [some (.ref q), x1, x2], st, a, h) = Rn 176 (1, [some (.ref q), x1, x2], .ref q :: st, a, h) := Rn_go c176_0 rfl
theorem c176_1 : mcode 176 1 = some (.iload_n 1, 1, 0, 0, 0) := rfl
theorem r176_1 : Rn 176 (1, [x0, some (.int i), x2], st, a, h) = Rn 176 (2, [x0, some (.int i), x2], .int i :: st, a, h) := Rn_go c176_1 rfl
theorem c176_2 : mcode 176 2 = some (.invokevirtual 98, 3, 130, 1, 6) := rfl
theorem r176_2 : Rn 176 (2, [x0, x1, x2], [v0, .ref q], a, h) = if mis h q 6 = true then Bk 176 5 [x0, x1, x2] [] (Ec 130 [.ref q, v0] a h) else none := Rn_call1 c176_2 rfl (Nat.le_of_ble_eq_true rfl) rfl rfl (Nat.le_of_ble_eq_true rfl)
theorem c176_5 : mcode 176 5 = some (.ifCond .eq 26, 3, 0, 0, 0) := rfl
theorem r176_5 : Rn 176 (5, [x0, x1, x2], .int i :: st, a, h) = if i = 0 then Rn 176 (31, [x0, x1, x2], st, a, h) else Rn 176 (8, [x0, x1, x2], st, a, h) := Rn_ifc c176_5 mc_eq rfl rfl
theorem c176_8 : mcode 176 8 = some (.iload_n 2, 1, 0, 0, 0) := rfl
theorem r176_8 : Rn 176 (8, [x0, x1, some (.int i)], st, a, h) = Rn 176 (9, [x0, x1, some (.int i)], .int i :: st, a, h) := Rn_go c176_8 rfl
theorem c176_9 : mcode 176 9 = some (.i2l, 1, 0, 0, 0) := rfl
theorem r176_9 : Rn 176 (9, [x0, x1, x2], .int i :: st, a, h) = Rn 176 (10, [x0, x1, x2], .long i.toInt64 :: st, a, h) := Rn_go c176_9 rfl
theorem c176_10 : mcode 176 10 = some (.lconst 0, 1, 0, 0, 0) := rfl
theorem r176_10 : Rn 176 (10, [x0, x1, x2], st, a, h) = Rn 176 (11, [x0, x1, x2], .long (0 : Int64) :: st, a, h) := Rn_go c176_10 rfl
theorem c176_11 : mcode 176 11 = some (.ldc2_w 166, 3, 0, 0, 30) := rfl
theorem r176_11 : Rn 176 (11, [x0, x1, x2], st, a, h) = Rn 176 (14, [x0, x1, x2], .long (30 : Int64) :: st, a, h) := Rn_go c176_11 rfl
theorem c176_14 : mcode 176 14 = some (.invokestatic 52, 3, 124, 3, 0) := rfl
theorem r176_14 : Rn 176 (14, [x0, x1, x2], [v2, v1, v0], a, h) = Bk 176 17 [x0, x1, x2] [] (Ec 124 [v0, v1, v2] a h) := Rn_call0 c176_14 (fun z => nomatch z) rfl (Nat.le_of_ble_eq_true rfl) rfl rfl (Nat.le_of_ble_eq_true rfl)
theorem c176_17 : mcode 176 17 = some (.ifCond .eq 14, 3, 0, 0, 0) := rfl
theorem r176_17 : Rn 176 (17, [x0, x1, x2], .int i :: st, a, h) = if i = 0 then Rn 176 (31, [x0, x1, x2], st, a, h) else Rn 176 (20, [x0, x1, x2], st, a, h) := Rn_ifc c176_17 mc_eq rfl rfl
theorem c176_20 : mcode 176 20 = some (.aload_n 0, 1, 0, 0, 0) := rfl
theorem r176_20 : Rn 176 (20, [some (.ref q), x1, x2], st, a, h) = Rn 176 (21, [some (.ref q), x1, x2], .ref q :: st, a, h) := Rn_go c176_20 rfl
theorem c176_21 : mcode 176 21 = some (.iload_n 1, 1, 0, 0, 0) := rfl
theorem r176_21 : Rn 176 (21, [x0, some (.int i), x2], st, a, h) = Rn 176 (22, [x0, some (.int i), x2], .int i :: st, a, h) := Rn_go c176_21 rfl
theorem c176_22 : mcode 176 22 = some (.iconst 1, 1, 0, 0, 0) := rfl
theorem r176_22 : Rn 176 (22, [x0, x1, x2], st, a, h) = Rn 176 (23, [x0, x1, x2], .int (1 : Int32) :: st, a, h) := Rn_go c176_22 rfl
theorem c176_23 : mcode 176 23 = some (.iconst 5, 1, 0, 0, 0) := rfl
theorem r176_23 : Rn 176 (23, [x0, x1, x2], st, a, h) = Rn 176 (24, [x0, x1, x2], .int (5 : Int32) :: st, a, h) := Rn_go c176_23 rfl
theorem c176_24 : mcode 176 24 = some (.iload_n 2, 1, 0, 0, 0) := rfl
theorem r176_24 : Rn 176 (24, [x0, x1, some (.int i)], st, a, h) = Rn 176 (25, [x0, x1, some (.int i)], .int i :: st, a, h) := Rn_go c176_24 rfl
theorem c176_25 : mcode 176 25 = some (.invokevirtual 168, 3, 175, 4, 6) := rfl
theorem r176_25 : Rn 176 (25, [x0, x1, x2], [v3, v2, v1, v0, .ref q], a, h) = if mis h q 6 = true then Bk 176 28 [x0, x1, x2] [] (Ec 175 [.ref q, v0, v1, v2, v3] a h) else none := Rn_call1 c176_25 rfl (Nat.le_of_ble_eq_true rfl) rfl rfl (Nat.le_of_ble_eq_true rfl)
theorem c176_28 : mcode 176 28 = some (.goto 9, 3, 0, 0, 0) := rfl
theorem r176_28 : Rn 176 (28, [x0, x1, x2], st, a, h) = Rn 176 (37, [x0, x1, x2], st, a, h) := Rn_goto c176_28 rfl
theorem c176_31 : mcode 176 31 = some (.aload_n 0, 1, 0, 0, 0) := rfl
theorem r176_31 : Rn 176 (31, [some (.ref q), x1, x2], st, a, h) = Rn 176 (32, [some (.ref q), x1, x2], .ref q :: st, a, h) := Rn_go c176_31 rfl
theorem c176_32 : mcode 176 32 = some (.ldc 37, 2, 0, 0, -1000001) := rfl
theorem r176_32 : Rn 176 (32, [x0, x1, x2], st, a, h) = Rn 176 (34, [x0, x1, x2], .int (-1000001 : Int32) :: st, a, h) := Rn_go c176_32 rfl
theorem c176_34 : mcode 176 34 = some (.invokevirtual 39, 3, 125, 1, 6) := rfl
theorem r176_34 : Rn 176 (34, [x0, x1, x2], [v0, .ref q], a, h) = if mis h q 6 = true then Bk 176 37 [x0, x1, x2] [] (Ec 125 [.ref q, v0] a h) else none := Rn_call1 c176_34 rfl (Nat.le_of_ble_eq_true rfl) rfl rfl (Nat.le_of_ble_eq_true rfl)
theorem c176_37 : mcode 176 37 = some (.ireturn, 1, 0, 0, 0) := rfl
theorem r176_37 : Rn 176 (37, [x0, x1, x2], [.int i], a, h) = some (some (.int i), a, h) := Rn_ireti c176_37
theorem c177_0 : mcode 177 0 = some (.aload_n 0, 1, 0, 0, 0) := rfl
theorem r177_0 : Rn 177 (0, [some (.ref q), x1, x2], st, a, h) = Rn 177 (1, [some (.ref q), x1, x2], .ref q :: st, a, h) := Rn_go c177_0 rfl
theorem c177_1 : mcode 177 1 = some (.iload_n 1, 1, 0, 0, 0) := rfl
theorem r177_1 : Rn 177 (1, [x0, some (.int i), x2], st, a, h) = Rn 177 (2, [x0, some (.int i), x2], .int i :: st, a, h) := Rn_go c177_1 rfl
theorem c177_2 : mcode 177 2 = some (.invokevirtual 98, 3, 130, 1, 6) := rfl
theorem r177_2 : Rn 177 (2, [x0, x1, x2], [v0, .ref q], a, h) = if mis h q 6 = true then Bk 177 5 [x0, x1, x2] [] (Ec 130 [.ref q, v0] a h) else none := Rn_call1 c177_2 rfl (Nat.le_of_ble_eq_true rfl) rfl rfl (Nat.le_of_ble_eq_true rfl)
theorem c177_5 : mcode 177 5 = some (.ifCond .eq 26, 3, 0, 0, 0) := rfl
theorem r177_5 : Rn 177 (5, [x0, x1, x2], .int i :: st, a, h) = if i = 0 then Rn 177 (31, [x0, x1, x2], st, a, h) else Rn 177 (8, [x0, x1, x2], st, a, h) := Rn_ifc c177_5 mc_eq rfl rfl
theorem c177_8 : mcode 177 8 = some (.iload_n 2, 1, 0, 0, 0) := rfl
theorem r177_8 : Rn 177 (8, [x0, x1, some (.int i)], st, a, h) = Rn 177 (9, [x0, x1, some (.int i)], .int i :: st, a, h) := Rn_go c177_8 rfl
theorem c177_9 : mcode 177 9 = some (.i2l, 1, 0, 0, 0) := rfl
theorem r177_9 : Rn 177 (9, [x0, x1, x2], .int i :: st, a, h) = Rn 177 (10, [x0, x1, x2], .long i.toInt64 :: st, a, h) := Rn_go c177_9 rfl
theorem c177_10 : mcode 177 10 = some (.lconst 0, 1, 0, 0, 0) := rfl
theorem r177_10 : Rn 177 (10, [x0, x1, x2], st, a, h) = Rn 177 (11, [x0, x1, x2], .long (0 : Int64) :: st, a, h) := Rn_go c177_10 rfl
theorem c177_11 : mcode 177 11 = some (.ldc2_w 172, 3, 0, 0, 40) := rfl
theorem r177_11 : Rn 177 (11, [x0, x1, x2], st, a, h) = Rn 177 (14, [x0, x1, x2], .long (40 : Int64) :: st, a, h) := Rn_go c177_11 rfl
theorem c177_14 : mcode 177 14 = some (.invokestatic 52, 3, 124, 3, 0) := rfl
theorem r177_14 : Rn 177 (14, [x0, x1, x2], [v2, v1, v0], a, h) = Bk 177 17 [x0, x1, x2] [] (Ec 124 [v0, v1, v2] a h) := Rn_call0 c177_14 (fun z => nomatch z) rfl (Nat.le_of_ble_eq_true rfl) rfl rfl (Nat.le_of_ble_eq_true rfl)
theorem c177_17 : mcode 177 17 = some (.ifCond .eq 14, 3, 0, 0, 0) := rfl
theorem r177_17 : Rn 177 (17, [x0, x1, x2], .int i :: st, a, h) = if i = 0 then Rn 177 (31, [x0, x1, x2], st, a, h) else Rn 177 (20, [x0, x1, x2], st, a, h) := Rn_ifc c177_17 mc_eq rfl rfl
theorem c177_20 : mcode 177 20 = some (.aload_n 0, 1, 0, 0, 0) := rfl
theorem r177_20 : Rn 177 (20, [some (.ref q), x1, x2], st, a, h) = Rn 177 (21, [some (.ref q), x1, x2], .ref q :: st, a, h) := Rn_go c177_20 rfl
theorem c177_21 : mcode 177 21 = some (.iload_n 1, 1, 0, 0, 0) := rfl
theorem r177_21 : Rn 177 (21, [x0, some (.int i), x2], st, a, h) = Rn 177 (22, [x0, some (.int i), x2], .int i :: st, a, h) := Rn_go c177_21 rfl
theorem c177_22 : mcode 177 22 = some (.iconst 0, 1, 0, 0, 0) := rfl
theorem r177_22 : Rn 177 (22, [x0, x1, x2], st, a, h) = Rn 177 (23, [x0, x1, x2], .int (0 : Int32) :: st, a, h) := Rn_go c177_22 rfl
theorem c177_23 : mcode 177 23 = some (.iconst 3, 1, 0, 0, 0) := rfl
theorem r177_23 : Rn 177 (23, [x0, x1, x2], st, a, h) = Rn 177 (24, [x0, x1, x2], .int (3 : Int32) :: st, a, h) := Rn_go c177_23 rfl
theorem c177_24 : mcode 177 24 = some (.iload_n 2, 1, 0, 0, 0) := rfl
theorem r177_24 : Rn 177 (24, [x0, x1, some (.int i)], st, a, h) = Rn 177 (25, [x0, x1, some (.int i)], .int i :: st, a, h) := Rn_go c177_24 rfl
theorem c177_25 : mcode 177 25 = some (.invokevirtual 168, 3, 175, 4, 6) := rfl
theorem r177_25 : Rn 177 (25, [x0, x1, x2], [v3, v2, v1, v0, .ref q], a, h) = if mis h q 6 = true then Bk 177 28 [x0, x1, x2] [] (Ec 175 [.ref q, v0, v1, v2, v3] a h) else none := Rn_call1 c177_25 rfl (Nat.le_of_ble_eq_true rfl) rfl rfl (Nat.le_of_ble_eq_true rfl)
theorem c177_28 : mcode 177 28 = some (.goto 9, 3, 0, 0, 0) := rfl
theorem r177_28 : Rn 177 (28, [x0, x1, x2], st, a, h) = Rn 177 (37, [x0, x1, x2], st, a, h) := Rn_goto c177_28 rfl
theorem c177_31 : mcode 177 31 = some (.aload_n 0, 1, 0, 0, 0) := rfl
theorem r177_31 : Rn 177 (31, [some (.ref q), x1, x2], st, a, h) = Rn 177 (32, [some (.ref q), x1, x2], .ref q :: st, a, h) := Rn_go c177_31 rfl
theorem c177_32 : mcode 177 32 = some (.ldc 37, 2, 0, 0, -1000001) := rfl
theorem r177_32 : Rn 177 (32, [x0, x1, x2], st, a, h) = Rn 177 (34, [x0, x1, x2], .int (-1000001 : Int32) :: st, a, h) := Rn_go c177_32 rfl
theorem c177_34 : mcode 177 34 = some (.invokevirtual 39, 3, 125, 1, 6) := rfl
theorem r177_34 : Rn 177 (34, [x0, x1, x2], [v0, .ref q], a, h) = if mis h q 6 = true then Bk 177 37 [x0, x1, x2] [] (Ec 125 [.ref q, v0] a h) else none := Rn_call1 c177_34 rfl (Nat.le_of_ble_eq_true rfl) rfl rfl (Nat.le_of_ble_eq_true rfl)
theorem c177_37 : mcode 177 37 = some (.ireturn, 1, 0, 0, 0) := rfl
theorem r177_37 : Rn 177 (37, [x0, x1, x2], [.int i], a, h) = some (some (.int i), a, h) := Rn_ireti c177_37
theorem c178_0 : mcode 178 0 = some (.aload_n 0, 1, 0, 0, 0) := rfl
theorem r178_0 : Rn 178 (0, [some (.ref q), x1, x2, x3, x4, x5], st, a, h) = Rn 178 (1, [some (.ref q), x1, x2, x3, x4, x5], .ref q :: st, a, h) := Rn_go c178_0 rfl
theorem c178_1 : mcode 178 1 = some (.iload_n 1, 1, 0, 0, 0) := rfl
theorem r178_1 : Rn 178 (1, [x0, some (.int i), x2, x3, x4, x5], st, a, h) = Rn 178 (2, [x0, some (.int i), x2, x3, x4, x5], .int i :: st, a, h) := Rn_go c178_1 rfl
theorem c178_2 : mcode 178 2 = some (.invokevirtual 98, 3, 130, 1, 6) := rfl
theorem r178_2 : Rn 178 (2, [x0, x1, x2, x3, x4, x5], [v0, .ref q], a, h) = if mis h q 6 = true then Bk 178 5 [x0, x1, x2, x3, x4, x5] [] (Ec 130 [.ref q, v0] a h) else none := Rn_call1 c178_2 rfl (Nat.le_of_ble_eq_true rfl) rfl rfl (Nat.le_of_ble_eq_true rfl)
theorem c178_5 : mcode 178 5 = some (.ifCond .eq 15, 3, 0, 0, 0) := rfl
theorem r178_5 : Rn 178 (5, [x0, x1, x2, x3, x4, x5], .int i :: st, a, h) = if i = 0 then Rn 178 (20, [x0, x1, x2, x3, x4, x5], st, a, h) else Rn 178 (8, [x0, x1, x2, x3, x4, x5], st, a, h) := Rn_ifc c178_5 mc_eq rfl rfl
theorem c178_8 : mcode 178 8 = some (.iload_n 2, 1, 0, 0, 0) := rfl
theorem r178_8 : Rn 178 (8, [x0, x1, some (.int i), x3, x4, x5], st, a, h) = Rn 178 (9, [x0, x1, some (.int i), x3, x4, x5], .int i :: st, a, h) := Rn_go c178_8 rfl
theorem c178_9 : mcode 178 9 = some (.i2l, 1, 0, 0, 0) := rfl
theorem r178_9 : Rn 178 (9, [x0, x1, x2, x3, x4, x5], .int i :: st, a, h) = Rn 178 (10, [x0, x1, x2, x3, x4, x5], .long i.toInt64 :: st, a, h) := Rn_go c178_9 rfl
theorem c178_10 : mcode 178 10 = some (.lconst 0, 1, 0, 0, 0) := rfl
theorem r178_10 : Rn 178 (10, [x0, x1, x2, x3, x4, x5], st, a, h) = Rn 178 (11, [x0, x1, x2, x3, x4, x5], .long (0 : Int64) :: st, a, h) := Rn_go c178_10 rfl
theorem c178_11 : mcode 178 11 = some (.ldc2_w 172, 3, 0, 0, 40) := rfl
theorem r178_11 : Rn 178 (11, [x0, x1, x2, x3, x4, x5], st, a, h) = Rn 178 (14, [x0, x1, x2, x3, x4, x5], .long (40 : Int64) :: st, a, h) := Rn_go c178_11 rfl
theorem c178_14 : mcode 178 14 = some (.invokestatic 52, 3, 124, 3, 0) := rfl
theorem r178_14 : Rn 178 (14, [x0, x1, x2, x3, x4, x5], [v2, v1, v0], a, h) = Bk 178 17 [x0, x1, x2, x3, x4, x5] [] (Ec 124 [v0, v1, v2] a h) := Rn_call0 c178_14 (fun z => nomatch z) rfl (Nat.le_of_ble_eq_true rfl) rfl rfl (Nat.le_of_ble_eq_true rfl)
theorem c178_17 : mcode 178 17 = some (.ifCond .ne 10, 3, 0, 0, 0) := rfl
theorem r178_17 : Rn 178 (17, [x0, x1, x2, x3, x4, x5], .int i :: st, a, h) = if i = 0 then Rn 178 (20, [x0, x1, x2, x3, x4, x5], st, a, h) else Rn 178 (27, [x0, x1, x2, x3, x4, x5], st, a, h) := Rn_ifcn c178_17 mc_ne rfl rfl
theorem c178_20 : mcode 178 20 = some (.aload_n 0, 1, 0, 0, 0) := rfl
theorem r178_20 : Rn 178 (20, [some (.ref q), x1, x2, x3, x4, x5], st, a, h) = Rn 178 (21, [some (.ref q), x1, x2, x3, x4, x5], .ref q :: st, a, h) := Rn_go c178_20 rfl
theorem c178_21 : mcode 178 21 = some (.ldc 37, 2, 0, 0, -1000001) := rfl
theorem r178_21 : Rn 178 (21, [x0, x1, x2, x3, x4, x5], st, a, h) = Rn 178 (23, [x0, x1, x2, x3, x4, x5], .int (-1000001 : Int32) :: st, a, h) := Rn_go c178_21 rfl
theorem c178_23 : mcode 178 23 = some (.invokevirtual 39, 3, 125, 1, 6) := rfl
theorem r178_23 : Rn 178 (23, [x0, x1, x2, x3, x4, x5], [v0, .ref q], a, h) = if mis h q 6 = true then Bk 178 26 [x0, x1, x2, x3, x4, x5] [] (Ec 125 [.ref q, v0] a h) else none := Rn_call1 c178_23 rfl (Nat.le_of_ble_eq_true rfl) rfl rfl (Nat.le_of_ble_eq_true rfl)
theorem c178_26 : mcode 178 26 = some (.ireturn, 1, 0, 0, 0) := rfl
theorem r178_26 : Rn 178 (26, [x0, x1, x2, x3, x4, x5], [.int i], a, h) = some (some (.int i), a, h) := Rn_ireti c178_26
theorem c178_27 : mcode 178 27 = some (.aload_n 0, 1, 0, 0, 0) := rfl
theorem r178_27 : Rn 178 (27, [some (.ref q), x1, x2, x3, x4, x5], st, a, h) = Rn 178 (28, [some (.ref q), x1, x2, x3, x4, x5], .ref q :: st, a, h) := Rn_go c178_27 rfl
theorem c178_28 : mcode 178 28 = some (.iload_n 1, 1, 0, 0, 0) := rfl
theorem r178_28 : Rn 178 (28, [x0, some (.int i), x2, x3, x4, x5], st, a, h) = Rn 178 (29, [x0, some (.int i), x2, x3, x4, x5], .int i :: st, a, h) := Rn_go c178_28 rfl
theorem c178_29 : mcode 178 29 = some (.iconst 3, 1, 0, 0, 0) := rfl
theorem r178_29 : Rn 178 (29, [x0, x1, x2, x3, x4, x5], st, a, h) = Rn 178 (30, [x0, x1, x2, x3, x4, x5], .int (3 : Int32) :: st, a, h) := Rn_go c178_29 rfl
theorem c178_30 : mcode 178 30 = some (.invokevirtual 63, 3, 132, 2, 6) := rfl
theorem r178_30 : Rn 178 (30, [x0, x1, x2, x3, x4, x5], [v1, v0, .ref q], a, h) = if mis h q 6 = true then Bk 178 33 [x0, x1, x2, x3, x4, x5] [] (Ec 132 [.ref q, v0, v1] a h) else none := Rn_call1 c178_30 rfl (Nat.le_of_ble_eq_true rfl) rfl rfl (Nat.le_of_ble_eq_true rfl)
theorem c178_33 : mcode 178 33 = some (.istore_n 3, 1, 0, 0, 0) := rfl
theorem r178_33 : Rn 178 (33, [x0, x1, x2, x3, x4, x5], .int i :: st, a, h) = Nl x2 (Rn 178 (34, [x0, x1, x2, some (.int i), x4, x5], st, a, h)) := Rn_st1 (k := 3) (v := .int i) x2 c178_33 rfl rfl rfl rfl
theorem c178_34 : mcode 178 34 = some (.iconst (-1), 1, 0, 0, 0) := rfl
theorem r178_34 : Rn 178 (34, [x0, x1, x2, x3, x4, x5], st, a, h) = Rn 178 (35, [x0, x1, x2, x3, x4, x5], .int (-1 : Int32) :: st, a, h) := Rn_go c178_34 rfl
theorem c178_35 : mcode 178 35 = some (.istore 4, 2, 0, 0, 0) := rfl
theorem r178_35 : Rn 178 (35, [x0, x1, x2, x3, x4, x5], .int i :: st, a, h) = Nl x3 (Rn 178 (37, [x0, x1, x2, x3, some (.int i), x5], st, a, h)) := Rn_st1 (k := 4) (v := .int i) x3 c178_35 rfl rfl rfl rfl
theorem c178_37 : mcode 178 37 = some (.iconst 0, 1, 0, 0, 0) := rfl
theorem r178_37 : Rn 178 (37, [x0, x1, x2, x3, x4, x5], st, a, h) = Rn 178 (38, [x0, x1, x2, x3, x4, x5], .int (0 : Int32) :: st, a, h) := Rn_go c178_37 rfl
theorem c178_38 : mcode 178 38 = some (.istore 5, 2, 0, 0, 0) := rfl
theorem r178_38 : Rn 178 (38, [x0, x1, x2, x3, x4, x5], .int i :: st, a, h) = Nl x4 (Rn 178 (40, [x0, x1, x2, x3, x4, some (.int i)], st, a, h)) := Rn_st1 (k := 5) (v := .int i) x4 c178_38 rfl rfl rfl rfl
theorem c178_40 : mcode 178 40 = some (.iload 5, 2, 0, 0, 0) := rfl
theorem r178_40 : Rn 178 (40, [x0, x1, x2, x3, x4, some (.int i)], st, a, h) = Rn 178 (42, [x0, x1, x2, x3, x4, some (.int i)], .int i :: st, a, h) := Rn_go c178_40 rfl
theorem c178_42 : mcode 178 42 = some (.sipush 200, 3, 0, 0, 0) := rfl
theorem r178_42 : Rn 178 (42, [x0, x1, x2, x3, x4, x5], st, a, h) = Rn 178 (45, [x0, x1, x2, x3, x4, x5], .int (200 : Int32) :: st, a, h) := Rn_go c178_42 rfl
theorem c178_45 : mcode 178 45 = some (.if_icmp .gt 53, 3, 0, 0, 0) := rfl
theorem r178_45 : Rn 178 (45, [x0, x1, x2, x3, x4, x5], .int j :: .int i :: st, a, h) = if j < i then Rn 178 (98, [x0, x1, x2, x3, x4, x5], st, a, h) else Rn 178 (48, [x0, x1, x2, x3, x4, x5], st, a, h) := Rn_icmp c178_45 mc_gt rfl rfl
theorem c178_48 : mcode 178 48 = some (.iload 4, 2, 0, 0, 0) := rfl
theorem r178_48 : Rn 178 (48, [x0, x1, x2, x3, some (.int i), x5], st, a, h) = Rn 178 (50, [x0, x1, x2, x3, some (.int i), x5], .int i :: st, a, h) := Rn_go c178_48 rfl
theorem c178_50 : mcode 178 50 = some (.ifCond .ge 48, 3, 0, 0, 0) := rfl
theorem r178_50 : Rn 178 (50, [x0, x1, x2, x3, x4, x5], .int i :: st, a, h) = if i < 0 then Rn 178 (53, [x0, x1, x2, x3, x4, x5], st, a, h) else Rn 178 (98, [x0, x1, x2, x3, x4, x5], st, a, h) := Rn_ifcn c178_50 mc_ge rfl rfl
theorem c178_53 : mcode 178 53 = some (.aload_n 0, 1, 0, 0, 0) := rfl
theorem r178_53 : Rn 178 (53, [some (.ref q), x1, x2, x3, x4, x5], st, a, h) = Rn 178 (54, [some (.ref q), x1, x2, x3, x4, x5], .ref q :: st, a, h) := Rn_go c178_53 rfl
theorem c178_54 : mcode 178 54 = some (.getfield 7, 3, 6, 0, 0) := rfl
theorem r178_54 : Rn 178 (54, [x0, x1, x2, x3, x4, x5], .ref q :: st, a, h) = Kv 178 57 [x0, x1, x2, x3, x4, x5] st a h (mgf h q 6 0) := Rn_getf c178_54 rfl
theorem c178_57 : mcode 178 57 = some (.iload_n 1, 1, 0, 0, 0) := rfl
theorem r178_57 : Rn 178 (57, [x0, some (.int i), x2, x3, x4, x5], st, a, h) = Rn 178 (58, [x0, some (.int i), x2, x3, x4, x5], .int i :: st, a, h) := Rn_go c178_57 rfl
theorem c178_58 : mcode 178 58 = some (.iconst 3, 1, 0, 0, 0) := rfl
theorem r178_58 : Rn 178 (58, [x0, x1, x2, x3, x4, x5], st, a, h) = Rn 178 (59, [x0, x1, x2, x3, x4, x5], .int (3 : Int32) :: st, a, h) := Rn_go c178_58 rfl
theorem c178_59 : mcode 178 59 = some (.invokestatic 79, 3, 131, 2, 0) := rfl
theorem r178_59 : Rn 178 (59, [x0, x1, x2, x3, x4, x5], [v1, v0, .ref q0], a, h) = Bk 178 62 [x0, x1, x2, x3, x4, x5] [.ref q0] (Ec 131 [v0, v1] a h) := Rn_call0 c178_59 (fun z => nomatch z) rfl (Nat.le_of_ble_eq_true rfl) rfl rfl (Nat.le_of_ble_eq_true rfl)
theorem c178_62 : mcode 178 62 = some (.iload 5, 2, 0, 0, 0) := rfl
theorem r178_62 : Rn 178 (62, [x0, x1, x2, x3, x4, some (.int i)], st, a, h) = Rn 178 (64, [x0, x1, x2, x3, x4, some (.int i)], .int i :: st, a, h) := Rn_go c178_62 rfl
theorem c178_64 : mcode 178 64 = some (.iastore, 1, 0, 0, 0) := rfl
theorem r178_64 : Rn 178 (64, [x0, x1, x2, x3, x4, x5], .int j :: .int i :: .ref q :: st, a, h) = Kh 178 65 [x0, x1, x2, x3, x4, x5] st a (mias h q i j) := Rn_iast c178_64 rfl
theorem c178_65 : mcode 178 65 = some (.aload_n 0, 1, 0, 0, 0) := rfl
theorem r178_65 : Rn 178 (65, [some (.ref q), x1, x2, x3, x4, x5], st, a, h) = Rn 178 (66, [some (.ref q), x1, x2, x3, x4, x5], .ref q :: st, a, h) := Rn_go c178_65 rfl
theorem c178_66 : mcode 178 66 = some (.iload_n 1, 1, 0, 0, 0) := rfl
theorem r178_66 : Rn 178 (66, [x0, some (.int i), x2, x3, x4, x5], st, a, h) = Rn 178 (67, [x0, some (.int i), x2, x3, x4, x5], .int i :: st, a, h) := Rn_go c178_66 rfl
theorem c178_67 : mcode 178 67 = some (.iconst 2, 1, 0, 0, 0) := rfl
theorem r178_67 : Rn 178 (67, [x0, x1, x2, x3, x4, x5], st, a, h) = Rn 178 (68, [x0, x1, x2, x3, x4, x5], .int (2 : Int32) :: st, a, h) := Rn_go c178_67 rfl
theorem c178_68 : mcode 178 68 = some (.invokestatic 79, 3, 131, 2, 0) := rfl
theorem r178_68 : Rn 178 (68, [x0, x1, x2, x3, x4, x5], [v1, v0, .ref q0], a, h) = Bk 178 71 [x0, x1, x2, x3, x4, x5] [.ref q0] (Ec 131 [v0, v1] a h) := Rn_call0 c178_68 (fun z => nomatch z) rfl (Nat.le_of_ble_eq_true rfl) rfl rfl (Nat.le_of_ble_eq_true rfl)
theorem c178_71 : mcode 178 71 = some (.iload_n 2, 1, 0, 0, 0) := rfl
theorem r178_71 : Rn 178 (71, [x0, x1, some (.int i), x3, x4, x5], st, a, h) = Rn 178 (72, [x0, x1, some (.int i), x3, x4, x5], .int i :: st, a, h) := Rn_go c178_71 rfl
theorem c178_72 : mcode 178 72 = some (.invokevirtual 163, 3, 167, 2, 6) := rfl
theorem r178_72 : Rn 178 (72, [x0, x1, x2, x3, x4, x5], [v1, v0, .ref q], a, h) = if mis h q 6 = true then Bk 178 75 [x0, x1, x2, x3, x4, x5] [] (Ec 167 [.ref q, v0, v1] a h) else none := Rn_call1 c178_72 rfl (Nat.le_of_ble_eq_true rfl) rfl rfl (Nat.le_of_ble_eq_true rfl)
theorem c178_75 : mcode 178 75 = some (.aload_n 0, 1, 0, 0, 0) := rfl
theorem r178_75 : Rn 178 (75, [some (.ref q), x1, x2, x3, x4, x5], st, a, h) = Rn 178 (76, [some (.ref q), x1, x2, x3, x4, x5], .ref q :: st, a, h) := Rn_go c178_75 rfl
theorem c178_76 : mcode 178 76 = some (.iload_n 1, 1, 0, 0, 0) := rfl
theorem r178_76 : Rn 178 (76, [x0, some (.int i), x2, x3, x4, x5], st, a, h) = Rn 178 (77, [x0, some (.int i), x2, x3, x4, x5], .int i :: st, a, h) := Rn_go c178_76 rfl
theorem c178_77 : mcode 178 77 = some (.iconst 2, 1, 0, 0, 0) := rfl
theorem r178_77 : Rn 178 (77, [x0, x1, x2, x3, x4, x5], st, a, h) = Rn 178 (78, [x0, x1, x2, x3, x4, x5], .int (2 : Int32) :: st, a, h) := Rn_go c178_77 rfl
theorem c178_78 : mcode 178 78 = some (.invokevirtual 63, 3, 132, 2, 6) := rfl
theorem r178_78 : Rn 178 (78, [x0, x1, x2, x3, x4, x5], [v1, v0, .ref q, .int i0], a, h) = if mis h q 6 = true then Bk 178 81 [x0, x1, x2, x3, x4, x5] [.int i0] (Ec 132 [.ref q, v0, v1] a h) else none := Rn_call1 c178_78 rfl (Nat.le_of_ble_eq_true rfl) rfl rfl (Nat.le_of_ble_eq_true rfl)
theorem c178_81 : mcode 178 81 = some (.if_icmp .ne 8, 3, 0, 0, 0) := rfl
theorem r178_81 : Rn 178 (81, [x0, x1, x2, x3, x4, x5], .int j :: .int i :: st, a, h) = if i = j then Rn 178 (84, [x0, x1, x2, x3, x4, x5], st, a, h) else Rn 178 (89, [x0, x1, x2, x3, x4, x5], st, a, h) := Rn_icmpn c178_81 mc_ne rfl rfl
theorem c178_84 : mcode 178 84 = some (.iload 5, 2, 0, 0, 0) := rfl
theorem r178_84 : Rn 178 (84, [x0, x1, x2, x3, x4, some (.int i)], st, a, h) = Rn 178 (86, [x0, x1, x2, x3, x4, some (.int i)], .int i :: st, a, h) := Rn_go c178_84 rfl
theorem c178_86 : mcode 178 86 = some (.goto 4, 3, 0, 0, 0) := rfl
theorem r178_86 : Rn 178 (86, [x0, x1, x2, x3, x4, x5], st, a, h) = Rn 178 (90, [x0, x1, x2, x3, x4, x5], st, a, h) := Rn_goto c178_86 rfl
theorem c178_89 : mcode 178 89 = some (.iconst (-1), 1, 0, 0, 0) := rfl
theorem r178_89 : Rn 178 (89, [x0, x1, x2, x3, x4, x5], st, a, h) = Rn 178 (90, [x0, x1, x2, x3, x4, x5], .int (-1 : Int32) :: st, a, h) := Rn_go c178_89 rfl
theorem c178_90 : mcode 178 90 = some (.istore 4, 2, 0, 0, 0) := rfl
theorem r178_90 : Rn 178 (90, [x0, x1, x2, x3, x4, x5], .int i :: st, a, h) = Nl x3 (Rn 178 (92, [x0, x1, x2, x3, some (.int i), x5], st, a, h)) := Rn_st1 (k := 4) (v := .int i) x3 c178_90 rfl rfl rfl rfl
theorem c178_92 : mcode 178 92 = some (.iinc 5 1, 3, 0, 0, 0) := rfl
theorem r178_92 : Rn 178 (92, [x0, x1, x2, x3, x4, some (.int i)], st, a, h) = Nl x4 (Rn 178 (95, [x0, x1, x2, x3, x4, some (.int (i + (1 : Int32)))], st, a, h)) := Rn_st1 (k := 5) (v := .int (i + (1 : Int32))) x4 c178_92 rfl rfl rfl rfl
theorem c178_95 : mcode 178 95 = some (.goto (-55), 3, 0, 0, 0) := rfl
theorem r178_95 : Rn 178 (95, [x0, x1, x2, x3, x4, x5], st, a, h) = Rn 178 (40, [x0, x1, x2, x3, x4, x5], st, a, h) := Rn_goto c178_95 rfl
theorem c178_98 : mcode 178 98 = some (.aload_n 0, 1, 0, 0, 0) := rfl
theorem r178_98 : Rn 178 (98, [some (.ref q), x1, x2, x3, x4, x5], st, a, h) = Rn 178 (99, [some (.ref q), x1, x2, x3, x4, x5], .ref q :: st, a, h) := Rn_go c178_98 rfl
theorem c178_99 : mcode 178 99 = some (.getfield 7, 3, 6, 0, 0) := rfl
theorem r178_99 : Rn 178 (99, [x0, x1, x2, x3, x4, x5], .ref q :: st, a, h) = Kv 178 102 [x0, x1, x2, x3, x4, x5] st a h (mgf h q 6 0) := Rn_getf c178_99 rfl
theorem c178_102 : mcode 178 102 = some (.iload_n 1, 1, 0, 0, 0) := rfl
theorem r178_102 : Rn 178 (102, [x0, some (.int i), x2, x3, x4, x5], st, a, h) = Rn 178 (103, [x0, some (.int i), x2, x3, x4, x5], .int i :: st, a, h) := Rn_go c178_102 rfl
theorem c178_103 : mcode 178 103 = some (.iconst 3, 1, 0, 0, 0) := rfl
theorem r178_103 : Rn 178 (103, [x0, x1, x2, x3, x4, x5], st, a, h) = Rn 178 (104, [x0, x1, x2, x3, x4, x5], .int (3 : Int32) :: st, a, h) := Rn_go c178_103 rfl
theorem c178_104 : mcode 178 104 = some (.invokestatic 79, 3, 131, 2, 0) := rfl
theorem r178_104 : Rn 178 (104, [x0, x1, x2, x3, x4, x5], [v1, v0, .ref q0], a, h) = Bk 178 107 [x0, x1, x2, x3, x4, x5] [.ref q0] (Ec 131 [v0, v1] a h) := Rn_call0 c178_104 (fun z => nomatch z) rfl (Nat.le_of_ble_eq_true rfl) rfl rfl (Nat.le_of_ble_eq_true rfl)
theorem c178_107 : mcode 178 107 = some (.iload_n 3, 1, 0, 0, 0) := rfl
theorem r178_107 : Rn 178 (107, [x0, x1, x2, some (.int i), x4, x5], st, a, h) = Rn 178 (108, [x0, x1, x2, some (.int i), x4, x5], .int i :: st, a, h) := Rn_go c178_107 rfl
theorem c178_108 : mcode 178 108 = some (.iastore, 1, 0, 0, 0) := rfl
theorem r178_108 : Rn 178 (108, [x0, x1, x2, x3, x4, x5], .int j :: .int i :: .ref q :: st, a, h) = Kh 178 109 [x0, x1, x2, x3, x4, x5] st a (mias h q i j) := Rn_iast c178_108 rfl
theorem c178_109 : mcode 178 109 = some (.aload_n 0, 1, 0, 0, 0) := rfl
theorem r178_109 : Rn 178 (109, [some (.ref q), x1, x2, x3, x4, x5], st, a, h) = Rn 178 (110, [some (.ref q), x1, x2, x3, x4, x5], .ref q :: st, a, h) := Rn_go c178_109 rfl
theorem c178_110 : mcode 178 110 = some (.iload 4, 2, 0, 0, 0) := rfl
theorem r178_110 : Rn 178 (110, [x0, x1, x2, x3, some (.int i), x5], st, a, h) = Rn 178 (112, [x0, x1, x2, x3, some (.int i), x5], .int i :: st, a, h) := Rn_go c178_110 rfl
theorem c178_112 : mcode 178 112 = some (.invokevirtual 174, 3, 136, 1, 6) := rfl
theorem r178_112 : Rn 178 (112, [x0, x1, x2, x3, x4, x5], [v0, .ref q], a, h) = if mis h q 6 = true then Bk 178 115 [x0, x1, x2, x3, x4, x5] [] (Ec 136 [.ref q, v0] a h) else none := Rn_call1 c178_112 rfl (Nat.le_of_ble_eq_true rfl) rfl rfl (Nat.le_of_ble_eq_true rfl)
theorem c178_115 : mcode 178 115 = some (.ireturn, 1, 0, 0, 0) := rfl
theorem r178_115 : Rn 178 (115, [x0, x1, x2, x3, x4, x5], [.int i], a, h) = some (some (.int i), a, h) := Rn_ireti c178_115
theorem c179_0 : mcode 179 0 = some (.aload_n 0, 1, 0, 0, 0) := rfl
theorem r179_0 : Rn 179 (0, [some (.ref q), x1, x2, x3, x4], st, a, h) = Rn 179 (1, [some (.ref q), x1, x2, x3, x4], .ref q :: st, a, h) := Rn_go c179_0 rfl
theorem c179_1 : mcode 179 1 = some (.getfield 7, 3, 6, 0, 0) := rfl
theorem r179_1 : Rn 179 (1, [x0, x1, x2, x3, x4], .ref q :: st, a, h) = Kv 179 4 [x0, x1, x2, x3, x4] st a h (mgf h q 6 0) := Rn_getf c179_1 rfl
theorem c179_4 : mcode 179 4 = some (.aload_n 0, 1, 0, 0, 0) := rfl
theorem r179_4 : Rn 179 (4, [some (.ref q), x1, x2, x3, x4], st, a, h) = Rn 179 (5, [some (.ref q), x1, x2, x3, x4], .ref q :: st, a, h) := Rn_go c179_4 rfl
theorem c179_5 : mcode 179 5 = some (.getfield 19, 3, 6, 3, 0) := rfl
theorem r179_5 : Rn 179 (5, [x0, x1, x2, x3, x4], .ref q :: st, a, h) = Kv 179 8 [x0, x1, x2, x3, x4] st a h (mgf h q 6 3) := Rn_getf c179_5 rfl
theorem c179_8 : mcode 179 8 = some (.invokestatic 157, 3, 127, 2, 0) := rfl
theorem r179_8 : Rn 179 (8, [x0, x1, x2, x3, x4], [v1, v0], a, h) = Bk 179 11 [x0, x1, x2, x3, x4] [] (Ec 127 [v0, v1] a h) := Rn_call0 c179_8 (fun z => nomatch z) rfl (Nat.le_of_ble_eq_true rfl) rfl rfl (Nat.le_of_ble_eq_true rfl)
theorem c179_11 : mcode 179 11 = some (.iconst 0, 1, 0, 0, 0) := rfl
theorem r179_11 : Rn 179 (11, [x0, x1, x2, x3, x4], st, a, h) = Rn 179 (12, [x0, x1, x2, x3, x4], .int (0 : Int32) :: st, a, h) := Rn_go c179_11 rfl
theorem c179_12 : mcode 179 12 = some (.istore 4, 2, 0, 0, 0) := rfl
theorem r179_12 : Rn 179 (12, [x0, x1, x2, x3, x4], .int i :: st, a, h) = Nl x3 (Rn 179 (14, [x0, x1, x2, x3, some (.int i)], st, a, h)) := Rn_st1 (k := 4) (v := .int i) x3 c179_12 rfl rfl rfl rfl
theorem c179_14 : mcode 179 14 = some (.iload 4, 2, 0, 0, 0) := rfl
theorem r179_14 : Rn 179 (14, [x0, x1, x2, x3, some (.int i)], st, a, h) = Rn 179 (16, [x0, x1, x2, x3, some (.int i)], .int i :: st, a, h) := Rn_go c179_14 rfl
theorem c179_16 : mcode 179 16 = some (.iload_n 2, 1, 0, 0, 0) := rfl
theorem r179_16 : Rn 179 (16, [x0, x1, some (.int i), x3, x4], st, a, h) = Rn 179 (17, [x0, x1, some (.int i), x3, x4], .int i :: st, a, h) := Rn_go c179_16 rfl
theorem c179_17 : mcode 179 17 = some (.if_icmp .ge 14, 3, 0, 0, 0) := rfl
theorem r179_17 : Rn 179 (17, [x0, x1, x2, x3, x4], .int j :: .int i :: st, a, h) = if i < j then Rn 179 (20, [x0, x1, x2, x3, x4], st, a, h) else Rn 179 (31, [x0, x1, x2, x3, x4], st, a, h) := Rn_icmpn c179_17 mc_ge rfl rfl
theorem c179_20 : mcode 179 20 = some (.aload_n 0, 1, 0, 0, 0) := rfl
theorem r179_20 : Rn 179 (20, [some (.ref q), x1, x2, x3, x4], st, a, h) = Rn 179 (21, [some (.ref q), x1, x2, x3, x4], .ref q :: st, a, h) := Rn_go c179_20 rfl
theorem c179_21 : mcode 179 21 = some (.iload_n 3, 1, 0, 0, 0) := rfl
theorem r179_21 : Rn 179 (21, [x0, x1, x2, some (.int i), x4], st, a, h) = Rn 179 (22, [x0, x1, x2, some (.int i), x4], .int i :: st, a, h) := Rn_go c179_21 rfl
theorem c179_22 : mcode 179 22 = some (.invokevirtual 131, 3, 158, 1, 6) := rfl
theorem r179_22 : Rn 179 (22, [x0, x1, x2, x3, x4], [v0, .ref q], a, h) = if mis h q 6 = true then Bk 179 25 [x0, x1, x2, x3, x4] [] (Ec 158 [.ref q, v0] a h) else none := Rn_call1 c179_22 rfl (Nat.le_of_ble_eq_true rfl) rfl rfl (Nat.le_of_ble_eq_true rfl)
theorem c179_25 : mcode 179 25 = some (.iinc 4 1, 3, 0, 0, 0) := rfl
theorem r179_25 : Rn 179 (25, [x0, x1, x2, x3, some (.int i)], st, a, h) = Nl x3 (Rn 179 (28, [x0, x1, x2, x3, some (.int (i + (1 : Int32)))], st, a, h)) := Rn_st1 (k := 4) (v := .int (i + (1 : Int32))) x3 c179_25 rfl rfl rfl rfl
theorem c179_28 : mcode 179 28 = some (.goto (-14), 3, 0, 0, 0) := rfl
theorem r179_28 : Rn 179 (28, [x0, x1, x2, x3, x4], st, a, h) = Rn 179 (14, [x0, x1, x2, x3, x4], st, a, h) := Rn_goto c179_28 rfl
theorem c179_31 : mcode 179 31 = some (.aload_n 0, 1, 0, 0, 0) := rfl
theorem r179_31 : Rn 179 (31, [some (.ref q), x1, x2, x3, x4], st, a, h) = Rn 179 (32, [some (.ref q), x1, x2, x3, x4], .ref q :: st, a, h) := Rn_go c179_31 rfl
theorem c179_32 : mcode 179 32 = some (.iload_n 1, 1, 0, 0, 0) := rfl
theorem r179_32 : Rn 179 (32, [x0, some (.int i), x2, x3, x4], st, a, h) = Rn 179 (33, [x0, some (.int i), x2, x3, x4], .int i :: st, a, h) := Rn_go c179_32 rfl
theorem c179_33 : mcode 179 33 = some (.invokevirtual 145, 3, 163, 1, 6) := rfl
theorem r179_33 : Rn 179 (33, [x0, x1, x2, x3, x4], [v0, .ref q], a, h) = if mis h q 6 = true then Bk 179 36 [x0, x1, x2, x3, x4] [] (Ec 163 [.ref q, v0] a h) else none := Rn_call1 c179_33 rfl (Nat.le_of_ble_eq_true rfl) rfl rfl (Nat.le_of_ble_eq_true rfl)
theorem c179_36 : mcode 179 36 = some (.istore 4, 2, 0, 0, 0) := rfl
theorem r179_36 : Rn 179 (36, [x0, x1, x2, x3, x4], .int i :: st, a, h) = Nl x3 (Rn 179 (38, [x0, x1, x2, x3, some (.int i)], st, a, h)) := Rn_st1 (k := 4) (v := .int i) x3 c179_36 rfl rfl rfl rfl
theorem c179_38 : mcode 179 38 = some (.aload_n 0, 1, 0, 0, 0) := rfl
theorem r179_38 : Rn 179 (38, [some (.ref q), x1, x2, x3, x4], st, a, h) = Rn 179 (39, [some (.ref q), x1, x2, x3, x4], .ref q :: st, a, h) := Rn_go c179_38 rfl
theorem c179_39 : mcode 179 39 = some (.getfield 19, 3, 6, 3, 0) := rfl
theorem r179_39 : Rn 179 (39, [x0, x1, x2, x3, x4], .ref q :: st, a, h) = Kv 179 42 [x0, x1, x2, x3, x4] st a h (mgf h q 6 3) := Rn_getf c179_39 rfl
theorem c179_42 : mcode 179 42 = some (.aload_n 0, 1, 0, 0, 0) := rfl
theorem r179_42 : Rn 179 (42, [some (.ref q), x1, x2, x3, x4], st, a, h) = Rn 179 (43, [some (.ref q), x1, x2, x3, x4], .ref q :: st, a, h) := Rn_go c179_42 rfl
theorem c179_43 : mcode 179 43 = some (.getfield 7, 3, 6, 0, 0) := rfl
theorem r179_43 : Rn 179 (43, [x0, x1, x2, x3, x4], .ref q :: st, a, h) = Kv 179 46 [x0, x1, x2, x3, x4] st a h (mgf h q 6 0) := Rn_getf c179_43 rfl
theorem c179_46 : mcode 179 46 = some (.invokestatic 157, 3, 127, 2, 0) := rfl
theorem r179_46 : Rn 179 (46, [x0, x1, x2, x3, x4], [v1, v0], a, h) = Bk 179 49 [x0, x1, x2, x3, x4] [] (Ec 127 [v0, v1] a h) := Rn_call0 c179_46 (fun z => nomatch z) rfl (Nat.le_of_ble_eq_true rfl) rfl rfl (Nat.le_of_ble_eq_true rfl)
theorem c179_49 : mcode 179 49 = some (.iload 4, 2, 0, 0, 0) := rfl
theorem r179_49 : Rn 179 (49, [x0, x1, x2, x3, some (.int i)], st, a, h) = Rn 179 (51, [x0, x1, x2, x3, some (.int i)], .int i :: st, a, h) := Rn_go c179_49 rfl
theorem c179_51 : mcode 179 51 = some (.ireturn, 1, 1, 0, 0) := rfl
theorem r179_51 : Rn 179 (51, [x0, x1, x2, x3, x4], [.int i], a, h) = if mrt 1 i = true then some (some (.int i), a, h) else none := Rn_iretz c179_51
theorem c180_0 : mcode 180 0 = some (.iload_n 1, 1, 0, 0, 0) := rfl
theorem r180_0 : Rn 180 (0, [x0, some (.int i), x2, x3, x4, x5], st, a, h) = Rn 180 (1, [x0, some (.int i), x2, x3, x4, x5], .int i :: st, a, h) := Rn_go c180_0 rfl
theorem c180_1 : mcode 180 1 = some (.invokestatic 43, 3, 128, 1, 0) := rfl
theorem r180_1 : Rn 180 (1, [x0, x1, x2, x3, x4, x5], [v0], a, h) = Bk 180 4 [x0, x1, x2, x3, x4, x5] [] (Ec 128 [v0] a h) := Rn_call0 c180_1 (fun z => nomatch z) rfl (Nat.le_of_ble_eq_true rfl) rfl rfl (Nat.le_of_ble_eq_true rfl)
theorem c180_4 : mcode 180 4 = some (.ifCond .eq 15, 3, 0, 0, 0) := rfl
theorem r180_4 : Rn 180 (4, [x0, x1, x2, x3, x4, x5], .int i :: st, a, h) = if i = 0 then Rn 180 (19, [x0, x1, x2, x3, x4, x5], st, a, h) else Rn 180 (7, [x0, x1, x2, x3, x4, x5], st, a, h) := Rn_ifc c180_4 mc_eq rfl rfl
theorem c180_7 : mcode 180 7 = some (.iload_n 2, 1, 0, 0, 0) := rfl
theorem r180_7 : Rn 180 (7, [x0, x1, some (.int i), x3, x4, x5], st, a, h) = Rn 180 (8, [x0, x1, some (.int i), x3, x4, x5], .int i :: st, a, h) := Rn_go c180_7 rfl
theorem c180_8 : mcode 180 8 = some (.i2l, 1, 0, 0, 0) := rfl
theorem r180_8 : Rn 180 (8, [x0, x1, x2, x3, x4, x5], .int i :: st, a, h) = Rn 180 (9, [x0, x1, x2, x3, x4, x5], .long i.toInt64 :: st, a, h) := Rn_go c180_8 rfl
theorem c180_9 : mcode 180 9 = some (.lconst 0, 1, 0, 0, 0) := rfl
theorem r180_9 : Rn 180 (9, [x0, x1, x2, x3, x4, x5], st, a, h) = Rn 180 (10, [x0, x1, x2, x3, x4, x5], .long (0 : Int64) :: st, a, h) := Rn_go c180_9 rfl
theorem c180_10 : mcode 180 10 = some (.ldc2_w 172, 3, 0, 0, 40) := rfl
theorem r180_10 : Rn 180 (10, [x0, x1, x2, x3, x4, x5], st, a, h) = Rn 180 (13, [x0, x1, x2, x3, x4, x5], .long (40 : Int64) :: st, a, h) := Rn_go c180_10 rfl
theorem c180_13 : mcode 180 13 = some (.invokestatic 52, 3, 124, 3, 0) := rfl
theorem r180_13 : Rn 180 (13, [x0, x1, x2, x3, x4, x5], [v2, v1, v0], a, h) = Bk 180 16 [x0, x1, x2, x3, x4, x5] [] (Ec 124 [v0, v1, v2] a h) := Rn_call0 c180_13 (fun z => nomatch z) rfl (Nat.le_of_ble_eq_true rfl) rfl rfl (Nat.le_of_ble_eq_true rfl)
theorem c180_16 : mcode 180 16 = some (.ifCond .ne 10, 3, 0, 0, 0) := rfl
theorem r180_16 : Rn 180 (16, [x0, x1, x2, x3, x4, x5], .int i :: st, a, h) = if i = 0 then Rn 180 (19, [x0, x1, x2, x3, x4, x5], st, a, h) else Rn 180 (26, [x0, x1, x2, x3, x4, x5], st, a, h) := Rn_ifcn c180_16 mc_ne rfl rfl
theorem c180_19 : mcode 180 19 = some (.aload_n 0, 1, 0, 0, 0) := rfl
theorem r180_19 : Rn 180 (19, [some (.ref q), x1, x2, x3, x4, x5], st, a, h) = Rn 180 (20, [some (.ref q), x1, x2, x3, x4, x5], .ref q :: st, a, h) := Rn_go c180_19 rfl
theorem c180_20 : mcode 180 20 = some (.ldc 37, 2, 0, 0, -1000001) := rfl
theorem r180_20 : Rn 180 (20, [x0, x1, x2, x3, x4, x5], st, a, h) = Rn 180 (22, [x0, x1, x2, x3, x4, x5], .int (-1000001 : Int32) :: st, a, h) := Rn_go c180_20 rfl
theorem c180_22 : mcode 180 22 = some (.invokevirtual 39, 3, 125, 1, 6) := rfl
theorem r180_22 : Rn 180 (22, [x0, x1, x2, x3, x4, x5], [v0, .ref q], a, h) = if mis h q 6 = true then Bk 180 25 [x0, x1, x2, x3, x4, x5] [] (Ec 125 [.ref q, v0] a h) else none := Rn_call1 c180_22 rfl (Nat.le_of_ble_eq_true rfl) rfl rfl (Nat.le_of_ble_eq_true rfl)
theorem c180_25 : mcode 180 25 = some (.ireturn, 1, 0, 0, 0) := rfl
theorem r180_25 : Rn 180 (25, [x0, x1, x2, x3, x4, x5], [.int i], a, h) = some (some (.int i), a, h) := Rn_ireti c180_25
theorem c180_26 : mcode 180 26 = some (.aload_n 0, 1, 0, 0, 0) := rfl
theorem r180_26 : Rn 180 (26, [some (.ref q), x1, x2, x3, x4, x5], st, a, h) = Rn 180 (27, [some (.ref q), x1, x2, x3, x4, x5], .ref q :: st, a, h) := Rn_go c180_26 rfl
theorem c180_27 : mcode 180 27 = some (.getfield 7, 3, 6, 0, 0) := rfl
theorem r180_27 : Rn 180 (27, [x0, x1, x2, x3, x4, x5], .ref q :: st, a, h) = Kv 180 30 [x0, x1, x2, x3, x4, x5] st a h (mgf h q 6 0) := Rn_getf c180_27 rfl
theorem c180_30 : mcode 180 30 = some (.iconst 3, 1, 0, 0, 0) := rfl
theorem r180_30 : Rn 180 (30, [x0, x1, x2, x3, x4, x5], st, a, h) = Rn 180 (31, [x0, x1, x2, x3, x4, x5], .int (3 : Int32) :: st, a, h) := Rn_go c180_30 rfl
theorem c180_31 : mcode 180 31 = some (.iaload, 1, 0, 0, 0) := rfl
theorem r180_31 : Rn 180 (31, [x0, x1, x2, x3, x4, x5], .int i :: .ref q :: st, a, h) = Ki 180 32 [x0, x1, x2, x3, x4, x5] st a h (mld h q i false) := Rn_iald c180_31 rfl
theorem c180_32 : mcode 180 32 = some (.istore_n 3, 1, 0, 0, 0) := rfl
theorem r180_32 : Rn 180 (32, [x0, x1, x2, x3, x4, x5], .int i :: st, a, h) = Nl x2 (Rn 180 (33, [x0, x1, x2, some (.int i), x4, x5], st, a, h)) := Rn_st1 (k := 3) (v := .int i) x2 c180_32 rfl rfl rfl rfl
theorem c180_33 : mcode 180 33 = some (.iconst (-1), 1, 0, 0, 0) := rfl
theorem r180_33 : Rn 180 (33, [x0, x1, x2, x3, x4, x5], st, a, h) = Rn 180 (34, [x0, x1, x2, x3, x4, x5], .int (-1 : Int32) :: st, a, h) := Rn_go c180_33 rfl
theorem c180_34 : mcode 180 34 = some (.istore 4, 2, 0, 0, 0) := rfl
theorem r180_34 : Rn 180 (34, [x0, x1, x2, x3, x4, x5], .int i :: st, a, h) = Nl x3 (Rn 180 (36, [x0, x1, x2, x3, some (.int i), x5], st, a, h)) := Rn_st1 (k := 4) (v := .int i) x3 c180_34 rfl rfl rfl rfl
theorem c180_36 : mcode 180 36 = some (.bipush 9, 2, 0, 0, 0) := rfl
theorem r180_36 : Rn 180 (36, [x0, x1, x2, x3, x4, x5], st, a, h) = Rn 180 (38, [x0, x1, x2, x3, x4, x5], .int (9 : Int32) :: st, a, h) := Rn_go c180_36 rfl
theorem c180_38 : mcode 180 38 = some (.istore 5, 2, 0, 0, 0) := rfl
theorem r180_38 : Rn 180 (38, [x0, x1, x2, x3, x4, x5], .int i :: st, a, h) = Nl x4 (Rn 180 (40, [x0, x1, x2, x3, x4, some (.int i)], st, a, h)) := Rn_st1 (k := 5) (v := .int i) x4 c180_38 rfl rfl rfl rfl
theorem c180_40 : mcode 180 40 = some (.iload 5, 2, 0, 0, 0) := rfl
theorem r180_40 : Rn 180 (40, [x0, x1, x2, x3, x4, some (.int i)], st, a, h) = Rn 180 (42, [x0, x1, x2, x3, x4, some (.int i)], .int i :: st, a, h) := Rn_go c180_40 rfl
theorem c180_42 : mcode 180 42 = some (.ifCond .lt 40, 3, 0, 0, 0) := rfl
theorem r180_42 : Rn 180 (42, [x0, x1, x2, x3, x4, x5], .int i :: st, a, h) = if i < 0 then Rn 180 (82, [x0, x1, x2, x3, x4, x5], st, a, h) else Rn 180 (45, [x0, x1, x2, x3, x4, x5], st, a, h) := Rn_ifc c180_42 mc_lt rfl rfl
theorem c180_45 : mcode 180 45 = some (.iload 4, 2, 0, 0, 0) := rfl
theorem r180_45 : Rn 180 (45, [x0, x1, x2, x3, some (.int i), x5], st, a, h) = Rn 180 (47, [x0, x1, x2, x3, some (.int i), x5], .int i :: st, a, h) := Rn_go c180_45 rfl
theorem c180_47 : mcode 180 47 = some (.ifCond .ge 35, 3, 0, 0, 0) := rfl
theorem r180_47 : Rn 180 (47, [x0, x1, x2, x3, x4, x5], .int i :: st, a, h) = if i < 0 then Rn 180 (50, [x0, x1, x2, x3, x4, x5], st, a, h) else Rn 180 (82, [x0, x1, x2, x3, x4, x5], st, a, h) := Rn_ifcn c180_47 mc_ge rfl rfl
theorem c180_50 : mcode 180 50 = some (.aload_n 0, 1, 0, 0, 0) := rfl
theorem r180_50 : Rn 180 (50, [some (.ref q), x1, x2, x3, x4, x5], st, a, h) = Rn 180 (51, [some (.ref q), x1, x2, x3, x4, x5], .ref q :: st, a, h) := Rn_go c180_50 rfl
theorem c180_51 : mcode 180 51 = some (.getfield 7, 3, 6, 0, 0) := rfl
theorem r180_51 : Rn 180 (51, [x0, x1, x2, x3, x4, x5], .ref q :: st, a, h) = Kv 180 54 [x0, x1, x2, x3, x4, x5] st a h (mgf h q 6 0) := Rn_getf c180_51 rfl
theorem c180_54 : mcode 180 54 = some (.iconst 3, 1, 0, 0, 0) := rfl
theorem r180_54 : Rn 180 (54, [x0, x1, x2, x3, x4, x5], st, a, h) = Rn 180 (55, [x0, x1, x2, x3, x4, x5], .int (3 : Int32) :: st, a, h) := Rn_go c180_54 rfl
theorem c180_55 : mcode 180 55 = some (.iload 5, 2, 0, 0, 0) := rfl
theorem r180_55 : Rn 180 (55, [x0, x1, x2, x3, x4, some (.int i)], st, a, h) = Rn 180 (57, [x0, x1, x2, x3, x4, some (.int i)], .int i :: st, a, h) := Rn_go c180_55 rfl
theorem c180_57 : mcode 180 57 = some (.iastore, 1, 0, 0, 0) := rfl
theorem r180_57 : Rn 180 (57, [x0, x1, x2, x3, x4, x5], .int j :: .int i :: .ref q :: st, a, h) = Kh 180 58 [x0, x1, x2, x3, x4, x5] st a (mias h q i j) := Rn_iast c180_57 rfl
theorem c180_58 : mcode 180 58 = some (.aload_n 0, 1, 0, 0, 0) := rfl
theorem r180_58 : Rn 180 (58, [some (.ref q), x1, x2, x3, x4, x5], st, a, h) = Rn 180 (59, [some (.ref q), x1, x2, x3, x4, x5], .ref q :: st, a, h) := Rn_go c180_58 rfl
theorem c180_59 : mcode 180 59 = some (.iload_n 1, 1, 0, 0, 0) := rfl
theorem r180_59 : Rn 180 (59, [x0, some (.int i), x2, x3, x4, x5], st, a, h) = Rn 180 (60, [x0, some (.int i), x2, x3, x4, x5], .int i :: st, a, h) := Rn_go c180_59 rfl
theorem c180_60 : mcode 180 60 = some (.iload_n 2, 1, 0, 0, 0) := rfl
theorem r180_60 : Rn 180 (60, [x0, x1, some (.int i), x3, x4, x5], st, a, h) = Rn 180 (61, [x0, x1, some (.int i), x3, x4, x5], .int i :: st, a, h) := Rn_go c180_60 rfl
theorem c180_61 : mcode 180 61 = some (.iconst 0, 1, 0, 0, 0) := rfl
theorem r180_61 : Rn 180 (61, [x0, x1, x2, x3, x4, x5], st, a, h) = Rn 180 (62, [x0, x1, x2, x3, x4, x5], .int (0 : Int32) :: st, a, h) := Rn_go c180_61 rfl
theorem c180_62 : mcode 180 62 = some (.invokevirtual 177, 3, 179, 3, 6) := rfl
theorem r180_62 : Rn 180 (62, [x0, x1, x2, x3, x4, x5], [v2, v1, v0, .ref q], a, h) = if mis h q 6 = true then Bk 180 65 [x0, x1, x2, x3, x4, x5] [] (Ec 179 [.ref q, v0, v1, v2] a h) else none := Rn_call1 c180_62 rfl (Nat.le_of_ble_eq_true rfl) rfl rfl (Nat.le_of_ble_eq_true rfl)
theorem c180_65 : mcode 180 65 = some (.ifCond .eq 8, 3, 0, 0, 0) := rfl
theorem r180_65 : Rn 180 (65, [x0, x1, x2, x3, x4, x5], .int i :: st, a, h) = if i = 0 then Rn 180 (73, [x0, x1, x2, x3, x4, x5], st, a, h) else Rn 180 (68, [x0, x1, x2, x3, x4, x5], st, a, h) := Rn_ifc c180_65 mc_eq rfl rfl
theorem c180_68 : mcode 180 68 = some (.iload 5, 2, 0, 0, 0) := rfl
theorem r180_68 : Rn 180 (68, [x0, x1, x2, x3, x4, some (.int i)], st, a, h) = Rn 180 (70, [x0, x1, x2, x3, x4, some (.int i)], .int i :: st, a, h) := Rn_go c180_68 rfl
theorem c180_70 : mcode 180 70 = some (.goto 4, 3, 0, 0, 0) := rfl
theorem r180_70 : Rn 180 (70, [x0, x1, x2, x3, x4, x5], st, a, h) = Rn 180 (74, [x0, x1, x2, x3, x4, x5], st, a, h) := Rn_goto c180_70 rfl
theorem c180_73 : mcode 180 73 = some (.iconst (-1), 1, 0, 0, 0) := rfl
theorem r180_73 : Rn 180 (73, [x0, x1, x2, x3, x4, x5], st, a, h) = Rn 180 (74, [x0, x1, x2, x3, x4, x5], .int (-1 : Int32) :: st, a, h) := Rn_go c180_73 rfl
theorem c180_74 : mcode 180 74 = some (.istore 4, 2, 0, 0, 0) := rfl
theorem r180_74 : Rn 180 (74, [x0, x1, x2, x3, x4, x5], .int i :: st, a, h) = Nl x3 (Rn 180 (76, [x0, x1, x2, x3, some (.int i), x5], st, a, h)) := Rn_st1 (k := 4) (v := .int i) x3 c180_74 rfl rfl rfl rfl
theorem c180_76 : mcode 180 76 = some (.iinc 5 (-1), 3, 0, 0, 0) := rfl
theorem r180_76 : Rn 180 (76, [x0, x1, x2, x3, x4, some (.int i)], st, a, h) = Nl x4 (Rn 180 (79, [x0, x1, x2, x3, x4, some (.int (i + (-1 : Int32)))], st, a, h)) := Rn_st1 (k := 5) (v := .int (i + (-1 : Int32))) x4 c180_76 rfl rfl rfl rfl
theorem c180_79 : mcode 180 79 = some (.goto (-39), 3, 0, 0, 0) := rfl
theorem r180_79 : Rn 180 (79, [x0, x1, x2, x3, x4, x5], st, a, h) = Rn 180 (40, [x0, x1, x2, x3, x4, x5], st, a, h) := Rn_goto c180_79 rfl
theorem c180_82 : mcode 180 82 = some (.aload_n 0, 1, 0, 0, 0) := rfl
theorem r180_82 : Rn 180 (82, [some (.ref q), x1, x2, x3, x4, x5], st, a, h) = Rn 180 (83, [some (.ref q), x1, x2, x3, x4, x5], .ref q :: st, a, h) := Rn_go c180_82 rfl
theorem c180_83 : mcode 180 83 = some (.getfield 7, 3, 6, 0, 0) := rfl
theorem r180_83 : Rn 180 (83, [x0, x1, x2, x3, x4, x5], .ref q :: st, a, h) = Kv 180 86 [x0, x1, x2, x3, x4, x5] st a h (mgf h q 6 0) := Rn_getf c180_83 rfl
theorem c180_86 : mcode 180 86 = some (.iconst 3, 1, 0, 0, 0) := rfl
theorem r180_86 : Rn 180 (86, [x0, x1, x2, x3, x4, x5], st, a, h) = Rn 180 (87, [x0, x1, x2, x3, x4, x5], .int (3 : Int32) :: st, a, h) := Rn_go c180_86 rfl
theorem c180_87 : mcode 180 87 = some (.iload_n 3, 1, 0, 0, 0) := rfl
theorem r180_87 : Rn 180 (87, [x0, x1, x2, some (.int i), x4, x5], st, a, h) = Rn 180 (88, [x0, x1, x2, some (.int i), x4, x5], .int i :: st, a, h) := Rn_go c180_87 rfl
theorem c180_88 : mcode 180 88 = some (.iastore, 1, 0, 0, 0) := rfl
theorem r180_88 : Rn 180 (88, [x0, x1, x2, x3, x4, x5], .int j :: .int i :: .ref q :: st, a, h) = Kh 180 89 [x0, x1, x2, x3, x4, x5] st a (mias h q i j) := Rn_iast c180_88 rfl
theorem c180_89 : mcode 180 89 = some (.aload_n 0, 1, 0, 0, 0) := rfl
theorem r180_89 : Rn 180 (89, [some (.ref q), x1, x2, x3, x4, x5], st, a, h) = Rn 180 (90, [some (.ref q), x1, x2, x3, x4, x5], .ref q :: st, a, h) := Rn_go c180_89 rfl
theorem c180_90 : mcode 180 90 = some (.iload 4, 2, 0, 0, 0) := rfl
theorem r180_90 : Rn 180 (90, [x0, x1, x2, x3, some (.int i), x5], st, a, h) = Rn 180 (92, [x0, x1, x2, x3, some (.int i), x5], .int i :: st, a, h) := Rn_go c180_90 rfl
theorem c180_92 : mcode 180 92 = some (.invokevirtual 174, 3, 136, 1, 6) := rfl
theorem r180_92 : Rn 180 (92, [x0, x1, x2, x3, x4, x5], [v0, .ref q], a, h) = if mis h q 6 = true then Bk 180 95 [x0, x1, x2, x3, x4, x5] [] (Ec 136 [.ref q, v0] a h) else none := Rn_call1 c180_92 rfl (Nat.le_of_ble_eq_true rfl) rfl rfl (Nat.le_of_ble_eq_true rfl)
theorem c180_95 : mcode 180 95 = some (.ireturn, 1, 0, 0, 0) := rfl
theorem r180_95 : Rn 180 (95, [x0, x1, x2, x3, x4, x5], [.int i], a, h) = some (some (.int i), a, h) := Rn_ireti c180_95
theorem c181_0 : mcode 181 0 = some (.iload_n 1, 1, 0, 0, 0) := rfl
theorem r181_0 : Rn 181 (0, [x0, some (.int i), x2, x3, x4], st, a, h) = Rn 181 (1, [x0, some (.int i), x2, x3, x4], .int i :: st, a, h) := Rn_go c181_0 rfl
theorem c181_1 : mcode 181 1 = some (.invokestatic 43, 3, 128, 1, 0) := rfl
theorem r181_1 : Rn 181 (1, [x0, x1, x2, x3, x4], [v0], a, h) = Bk 181 4 [x0, x1, x2, x3, x4] [] (Ec 128 [v0] a h) := Rn_call0 c181_1 (fun z => nomatch z) rfl (Nat.le_of_ble_eq_true rfl) rfl rfl (Nat.le_of_ble_eq_true rfl)
theorem c181_4 : mcode 181 4 = some (.ifCond .eq 15, 3, 0, 0, 0) := rfl
theorem r181_4 : Rn 181 (4, [x0, x1, x2, x3, x4], .int i :: st, a, h) = if i = 0 then Rn 181 (19, [x0, x1, x2, x3, x4], st, a, h) else Rn 181 (7, [x0, x1, x2, x3, x4], st, a, h) := Rn_ifc c181_4 mc_eq rfl rfl
theorem c181_7 : mcode 181 7 = some (.iload_n 2, 1, 0, 0, 0) := rfl
theorem r181_7 : Rn 181 (7, [x0, x1, some (.int i), x3, x4], st, a, h) = Rn 181 (8, [x0, x1, some (.int i), x3, x4], .int i :: st, a, h) := Rn_go c181_7 rfl
theorem c181_8 : mcode 181 8 = some (.i2l, 1, 0, 0, 0) := rfl
theorem r181_8 : Rn 181 (8, [x0, x1, x2, x3, x4], .int i :: st, a, h) = Rn 181 (9, [x0, x1, x2, x3, x4], .long i.toInt64 :: st, a, h) := Rn_go c181_8 rfl
theorem c181_9 : mcode 181 9 = some (.lconst 0, 1, 0, 0, 0) := rfl
theorem r181_9 : Rn 181 (9, [x0, x1, x2, x3, x4], st, a, h) = Rn 181 (10, [x0, x1, x2, x3, x4], .long (0 : Int64) :: st, a, h) := Rn_go c181_9 rfl
theorem c181_10 : mcode 181 10 = some (.ldc2_w 181, 3, 0, 0, 20) := rfl
theorem r181_10 : Rn 181 (10, [x0, x1, x2, x3, x4], st, a, h) = Rn 181 (13, [x0, x1, x2, x3, x4], .long (20 : Int64) :: st, a, h) := Rn_go c181_10 rfl
theorem c181_13 : mcode 181 13 = some (.invokestatic 52, 3, 124, 3, 0) := rfl
theorem r181_13 : Rn 181 (13, [x0, x1, x2, x3, x4], [v2, v1, v0], a, h) = Bk 181 16 [x0, x1, x2, x3, x4] [] (Ec 124 [v0, v1, v2] a h) := Rn_call0 c181_13 (fun z => nomatch z) rfl (Nat.le_of_ble_eq_true rfl) rfl rfl (Nat.le_of_ble_eq_true rfl)
theorem c181_16 : mcode 181 16 = some (.ifCond .ne 10, 3, 0, 0, 0) := rfl
theorem r181_16 : Rn 181 (16, [x0, x1, x2, x3, x4], .int i :: st, a, h) = if i = 0 then Rn 181 (19, [x0, x1, x2, x3, x4], st, a, h) else Rn 181 (26, [x0, x1, x2, x3, x4], st, a, h) := Rn_ifcn c181_16 mc_ne rfl rfl
theorem c181_19 : mcode 181 19 = some (.aload_n 0, 1, 0, 0, 0) := rfl
theorem r181_19 : Rn 181 (19, [some (.ref q), x1, x2, x3, x4], st, a, h) = Rn 181 (20, [some (.ref q), x1, x2, x3, x4], .ref q :: st, a, h) := Rn_go c181_19 rfl
theorem c181_20 : mcode 181 20 = some (.ldc 37, 2, 0, 0, -1000001) := rfl
theorem r181_20 : Rn 181 (20, [x0, x1, x2, x3, x4], st, a, h) = Rn 181 (22, [x0, x1, x2, x3, x4], .int (-1000001 : Int32) :: st, a, h) := Rn_go c181_20 rfl
theorem c181_22 : mcode 181 22 = some (.invokevirtual 39, 3, 125, 1, 6) := rfl
theorem r181_22 : Rn 181 (22, [x0, x1, x2, x3, x4], [v0, .ref q], a, h) = if mis h q 6 = true then Bk 181 25 [x0, x1, x2, x3, x4] [] (Ec 125 [.ref q, v0] a h) else none := Rn_call1 c181_22 rfl (Nat.le_of_ble_eq_true rfl) rfl rfl (Nat.le_of_ble_eq_true rfl)
theorem c181_25 : mcode 181 25 = some (.ireturn, 1, 0, 0, 0) := rfl
theorem r181_25 : Rn 181 (25, [x0, x1, x2, x3, x4], [.int i], a, h) = some (some (.int i), a, h) := Rn_ireti c181_25
theorem c181_26 : mcode 181 26 = some (.iconst (-1), 1, 0, 0, 0) := rfl
theorem r181_26 : Rn 181 (26, [x0, x1, x2, x3, x4], st, a, h) = Rn 181 (27, [x0, x1, x2, x3, x4], .int (-1 : Int32) :: st, a, h) := Rn_go c181_26 rfl
theorem c181_27 : mcode 181 27 = some (.istore_n 3, 1, 0, 0, 0) := rfl
theorem r181_27 : Rn 181 (27, [x0, x1, x2, x3, x4], .int i :: st, a, h) = Nl x2 (Rn 181 (28, [x0, x1, x2, some (.int i), x4], st, a, h)) := Rn_st1 (k := 3) (v := .int i) x2 c181_27 rfl rfl rfl rfl
theorem c181_28 : mcode 181 28 = some (.iconst 0, 1, 0, 0, 0) := rfl
theorem r181_28 : Rn 181 (28, [x0, x1, x2, x3, x4], st, a, h) = Rn 181 (29, [x0, x1, x2, x3, x4], .int (0 : Int32) :: st, a, h) := Rn_go c181_28 rfl
theorem c181_29 : mcode 181 29 = some (.istore 4, 2, 0, 0, 0) := rfl
theorem r181_29 : Rn 181 (29, [x0, x1, x2, x3, x4], .int i :: st, a, h) = Nl x3 (Rn 181 (31, [x0, x1, x2, x3, some (.int i)], st, a, h)) := Rn_st1 (k := 4) (v := .int i) x3 c181_29 rfl rfl rfl rfl
theorem c181_31 : mcode 181 31 = some (.iload 4, 2, 0, 0, 0) := rfl
theorem r181_31 : Rn 181 (31, [x0, x1, x2, x3, some (.int i)], st, a, h) = Rn 181 (33, [x0, x1, x2, x3, some (.int i)], .int i :: st, a, h) := Rn_go c181_31 rfl
theorem c181_33 : mcode 181 33 = some (.iconst 1, 1, 0, 0, 0) := rfl
theorem r181_33 : Rn 181 (33, [x0, x1, x2, x3, x4], st, a, h) = Rn 181 (34, [x0, x1, x2, x3, x4], .int (1 : Int32) :: st, a, h) := Rn_go c181_33 rfl
theorem c181_34 : mcode 181 34 = some (.aload_n 0, 1, 0, 0, 0) := rfl
theorem r181_34 : Rn 181 (34, [some (.ref q), x1, x2, x3, x4], st, a, h) = Rn 181 (35, [some (.ref q), x1, x2, x3, x4], .ref q :: st, a, h) := Rn_go c181_34 rfl
theorem c181_35 : mcode 181 35 = some (.getfield 7, 3, 6, 0, 0) := rfl
theorem r181_35 : Rn 181 (35, [x0, x1, x2, x3, x4], .ref q :: st, a, h) = Kv 181 38 [x0, x1, x2, x3, x4] st a h (mgf h q 6 0) := Rn_getf c181_35 rfl
theorem c181_38 : mcode 181 38 = some (.iconst 0, 1, 0, 0, 0) := rfl
theorem r181_38 : Rn 181 (38, [x0, x1, x2, x3, x4], st, a, h) = Rn 181 (39, [x0, x1, x2, x3, x4], .int (0 : Int32) :: st, a, h) := Rn_go c181_38 rfl
theorem c181_39 : mcode 181 39 = some (.iaload, 1, 0, 0, 0) := rfl
theorem r181_39 : Rn 181 (39, [x0, x1, x2, x3, x4], .int i :: .ref q :: st, a, h) = Ki 181 40 [x0, x1, x2, x3, x4] st a h (mld h q i false) := Rn_iald c181_39 rfl
theorem c181_40 : mcode 181 40 = some (.ishl, 1, 0, 0, 0) := rfl
theorem r181_40 : Rn 181 (40, [x0, x1, x2, x3, x4], .int j :: .int i :: st, a, h) = Rn 181 (41, [x0, x1, x2, x3, x4], .int (i <<< (j &&& 31)) :: st, a, h) := Rn_go c181_40 rfl
theorem c181_41 : mcode 181 41 = some (.if_icmp .ge 43, 3, 0, 0, 0) := rfl
theorem r181_41 : Rn 181 (41, [x0, x1, x2, x3, x4], .int j :: .int i :: st, a, h) = if i < j then Rn 181 (44, [x0, x1, x2, x3, x4], st, a, h) else Rn 181 (84, [x0, x1, x2, x3, x4], st, a, h) := Rn_icmpn c181_41 mc_ge rfl rfl
theorem c181_44 : mcode 181 44 = some (.iload_n 3, 1, 0, 0, 0) := rfl
theorem r181_44 : Rn 181 (44, [x0, x1, x2, some (.int i), x4], st, a, h) = Rn 181 (45, [x0, x1, x2, some (.int i), x4], .int i :: st, a, h) := Rn_go c181_44 rfl
theorem c181_45 : mcode 181 45 = some (.ifCond .lt 15, 3, 0, 0, 0) := rfl
theorem r181_45 : Rn 181 (45, [x0, x1, x2, x3, x4], .int i :: st, a, h) = if i < 0 then Rn 181 (60, [x0, x1, x2, x3, x4], st, a, h) else Rn 181 (48, [x0, x1, x2, x3, x4], st, a, h) := Rn_ifc c181_45 mc_lt rfl rfl
theorem c181_48 : mcode 181 48 = some (.iload 4, 2, 0, 0, 0) := rfl
theorem r181_48 : Rn 181 (48, [x0, x1, x2, x3, some (.int i)], st, a, h) = Rn 181 (50, [x0, x1, x2, x3, some (.int i)], .int i :: st, a, h) := Rn_go c181_48 rfl
theorem c181_50 : mcode 181 50 = some (.invokestatic 86, 3, 137, 1, 0) := rfl
theorem r181_50 : Rn 181 (50, [x0, x1, x2, x3, x4], [v0], a, h) = Bk 181 53 [x0, x1, x2, x3, x4] [] (Ec 137 [v0] a h) := Rn_call0 c181_50 (fun z => nomatch z) rfl (Nat.le_of_ble_eq_true rfl) rfl rfl (Nat.le_of_ble_eq_true rfl)
theorem c181_53 : mcode 181 53 = some (.iload_n 3, 1, 0, 0, 0) := rfl
theorem r181_53 : Rn 181 (53, [x0, x1, x2, some (.int i), x4], st, a, h) = Rn 181 (54, [x0, x1, x2, some (.int i), x4], .int i :: st, a, h) := Rn_go c181_53 rfl
theorem c181_54 : mcode 181 54 = some (.invokestatic 86, 3, 137, 1, 0) := rfl
theorem r181_54 : Rn 181 (54, [x0, x1, x2, x3, x4], [v0, .int i0], a, h) = Bk 181 57 [x0, x1, x2, x3, x4] [.int i0] (Ec 137 [v0] a h) := Rn_call0 c181_54 (fun z => nomatch z) rfl (Nat.le_of_ble_eq_true rfl) rfl rfl (Nat.le_of_ble_eq_true rfl)
theorem c181_57 : mcode 181 57 = some (.if_icmp .ge 19, 3, 0, 0, 0) := rfl
theorem r181_57 : Rn 181 (57, [x0, x1, x2, x3, x4], .int j :: .int i :: st, a, h) = if i < j then Rn 181 (60, [x0, x1, x2, x3, x4], st, a, h) else Rn 181 (76, [x0, x1, x2, x3, x4], st, a, h) := Rn_icmpn c181_57 mc_ge rfl rfl
theorem c181_60 : mcode 181 60 = some (.aload_n 0, 1, 0, 0, 0) := rfl
theorem r181_60 : Rn 181 (60, [some (.ref q), x1, x2, x3, x4], st, a, h) = Rn 181 (61, [some (.ref q), x1, x2, x3, x4], .ref q :: st, a, h) := Rn_go c181_60 rfl
theorem c181_61 : mcode 181 61 = some (.iload_n 1, 1, 0, 0, 0) := rfl
theorem r181_61 : Rn 181 (61, [x0, some (.int i), x2, x3, x4], st, a, h) = Rn 181 (62, [x0, some (.int i), x2, x3, x4], .int i :: st, a, h) := Rn_go c181_61 rfl
theorem c181_62 : mcode 181 62 = some (.iload_n 2, 1, 0, 0, 0) := rfl
theorem r181_62 : Rn 181 (62, [x0, x1, some (.int i), x3, x4], st, a, h) = Rn 181 (63, [x0, x1, some (.int i), x3, x4], .int i :: st, a, h) := Rn_go c181_62 rfl
theorem c181_63 : mcode 181 63 = some (.iload 4, 2, 0, 0, 0) := rfl
theorem r181_63 : Rn 181 (63, [x0, x1, x2, x3, some (.int i)], st, a, h) = Rn 181 (65, [x0, x1, x2, x3, some (.int i)], .int i :: st, a, h) := Rn_go c181_63 rfl
theorem c181_65 : mcode 181 65 = some (.invokevirtual 177, 3, 179, 3, 6) := rfl
theorem r181_65 : Rn 181 (65, [x0, x1, x2, x3, x4], [v2, v1, v0, .ref q], a, h) = if mis h q 6 = true then Bk 181 68 [x0, x1, x2, x3, x4] [] (Ec 179 [.ref q, v0, v1, v2] a h) else none := Rn_call1 c181_65 rfl (Nat.le_of_ble_eq_true rfl) rfl rfl (Nat.le_of_ble_eq_true rfl)
theorem c181_68 : mcode 181 68 = some (.ifCond .eq 8, 3, 0, 0, 0) := rfl
theorem r181_68 : Rn 181 (68, [x0, x1, x2, x3, x4], .int i :: st, a, h) = if i = 0 then Rn 181 (76, [x0, x1, x2, x3, x4], st, a, h) else Rn 181 (71, [x0, x1, x2, x3, x4], st, a, h) := Rn_ifc c181_68 mc_eq rfl rfl
theorem c181_71 : mcode 181 71 = some (.iload 4, 2, 0, 0, 0) := rfl
theorem r181_71 : Rn 181 (71, [x0, x1, x2, x3, some (.int i)], st, a, h) = Rn 181 (73, [x0, x1, x2, x3, some (.int i)], .int i :: st, a, h) := Rn_go c181_71 rfl
theorem c181_73 : mcode 181 73 = some (.goto 4, 3, 0, 0, 0) := rfl
theorem r181_73 : Rn 181 (73, [x0, x1, x2, x3, x4], st, a, h) = Rn 181 (77, [x0, x1, x2, x3, x4], st, a, h) := Rn_goto c181_73 rfl
theorem c181_76 : mcode 181 76 = some (.iload_n 3, 1, 0, 0, 0) := rfl
theorem r181_76 : Rn 181 (76, [x0, x1, x2, some (.int i), x4], st, a, h) = Rn 181 (77, [x0, x1, x2, some (.int i), x4], .int i :: st, a, h) := Rn_go c181_76 rfl
theorem c181_77 : mcode 181 77 = some (.istore_n 3, 1, 0, 0, 0) := rfl
theorem r181_77 : Rn 181 (77, [x0, x1, x2, x3, x4], .int i :: st, a, h) = Nl x2 (Rn 181 (78, [x0, x1, x2, some (.int i), x4], st, a, h)) := Rn_st1 (k := 3) (v := .int i) x2 c181_77 rfl rfl rfl rfl
theorem c181_78 : mcode 181 78 = some (.iinc 4 1, 3, 0, 0, 0) := rfl
theorem r181_78 : Rn 181 (78, [x0, x1, x2, x3, some (.int i)], st, a, h) = Nl x3 (Rn 181 (81, [x0, x1, x2, x3, some (.int (i + (1 : Int32)))], st, a, h)) := Rn_st1 (k := 4) (v := .int (i + (1 : Int32))) x3 c181_78 rfl rfl rfl rfl
theorem c181_81 : mcode 181 81 = some (.goto (-50), 3, 0, 0, 0) := rfl
theorem r181_81 : Rn 181 (81, [x0, x1, x2, x3, x4], st, a, h) = Rn 181 (31, [x0, x1, x2, x3, x4], st, a, h) := Rn_goto c181_81 rfl
theorem c181_84 : mcode 181 84 = some (.aload_n 0, 1, 0, 0, 0) := rfl
theorem r181_84 : Rn 181 (84, [some (.ref q), x1, x2, x3, x4], st, a, h) = Rn 181 (85, [some (.ref q), x1, x2, x3, x4], .ref q :: st, a, h) := Rn_go c181_84 rfl
theorem c181_85 : mcode 181 85 = some (.iload_n 3, 1, 0, 0, 0) := rfl
theorem r181_85 : Rn 181 (85, [x0, x1, x2, some (.int i), x4], st, a, h) = Rn 181 (86, [x0, x1, x2, some (.int i), x4], .int i :: st, a, h) := Rn_go c181_85 rfl
theorem c181_86 : mcode 181 86 = some (.invokevirtual 174, 3, 136, 1, 6) := rfl
theorem r181_86 : Rn 181 (86, [x0, x1, x2, x3, x4], [v0, .ref q], a, h) = if mis h q 6 = true then Bk 181 89 [x0, x1, x2, x3, x4] [] (Ec 136 [.ref q, v0] a h) else none := Rn_call1 c181_86 rfl (Nat.le_of_ble_eq_true rfl) rfl rfl (Nat.le_of_ble_eq_true rfl)
theorem c181_89 : mcode 181 89 = some (.ireturn, 1, 0, 0, 0) := rfl
theorem r181_89 : Rn 181 (89, [x0, x1, x2, x3, x4], [.int i], a, h) = some (some (.int i), a, h) := Rn_ireti c181_89
theorem c182_0 : mcode 182 0 = some (.aload_n 0, 1, 0, 0, 0) := rfl
theorem r182_0 : Rn 182 (0, [some (.ref q), x1, x2, x3, x4, x5], st, a, h) = Rn 182 (1, [some (.ref q), x1, x2, x3, x4, x5], .ref q :: st, a, h) := Rn_go c182_0 rfl
theorem c182_1 : mcode 182 1 = some (.getfield 7, 3, 6, 0, 0) := rfl
theorem r182_1 : Rn 182 (1, [x0, x1, x2, x3, x4, x5], .ref q :: st, a, h) = Kv 182 4 [x0, x1, x2, x3, x4, x5] st a h (mgf h q 6 0) := Rn_getf c182_1 rfl
theorem c182_4 : mcode 182 4 = some (.aload_n 0, 1, 0, 0, 0) := rfl
theorem r182_4 : Rn 182 (4, [some (.ref q), x1, x2, x3, x4, x5], st, a, h) = Rn 182 (5, [some (.ref q), x1, x2, x3, x4, x5], .ref q :: st, a, h) := Rn_go c182_4 rfl
theorem c182_5 : mcode 182 5 = some (.getfield 19, 3, 6, 3, 0) := rfl
theorem r182_5 : Rn 182 (5, [x0, x1, x2, x3, x4, x5], .ref q :: st, a, h) = Kv 182 8 [x0, x1, x2, x3, x4, x5] st a h (mgf h q 6 3) := Rn_getf c182_5 rfl
theorem c182_8 : mcode 182 8 = some (.invokestatic 157, 3, 127, 2, 0) := rfl
theorem r182_8 : Rn 182 (8, [x0, x1, x2, x3, x4, x5], [v1, v0], a, h) = Bk 182 11 [x0, x1, x2, x3, x4, x5] [] (Ec 127 [v0, v1] a h) := Rn_call0 c182_8 (fun z => nomatch z) rfl (Nat.le_of_ble_eq_true rfl) rfl rfl (Nat.le_of_ble_eq_true rfl)
theorem c182_11 : mcode 182 11 = some (.iconst 1, 1, 0, 0, 0) := rfl
theorem r182_11 : Rn 182 (11, [x0, x1, x2, x3, x4, x5], st, a, h) = Rn 182 (12, [x0, x1, x2, x3, x4, x5], .int (1 : Int32) :: st, a, h) := Rn_go c182_11 rfl
theorem c182_12 : mcode 182 12 = some (.istore_n 3, 1, 0, 0, 0) := rfl
theorem r182_12 : Rn 182 (12, [x0, x1, x2, x3, x4, x5], .int i :: st, a, h) = Nl x2 (Rn 182 (13, [x0, x1, x2, some (.int i), x4, x5], st, a, h)) := Rn_st1 (k := 3) (v := .int i) x2 c182_12 rfl rfl rfl rfl
theorem c182_13 : mcode 182 13 = some (.iconst 0, 1, 0, 0, 0) := rfl
theorem r182_13 : Rn 182 (13, [x0, x1, x2, x3, x4, x5], st, a, h) = Rn 182 (14, [x0, x1, x2, x3, x4, x5], .int (0 : Int32) :: st, a, h) := Rn_go c182_13 rfl
theorem c182_14 : mcode 182 14 = some (.istore 4, 2, 0, 0, 0) := rfl
theorem r182_14 : Rn 182 (14, [x0, x1, x2, x3, x4, x5], .int i :: st, a, h) = Nl x3 (Rn 182 (16, [x0, x1, x2, x3, some (.int i), x5], st, a, h)) := Rn_st1 (k := 4) (v := .int i) x3 c182_14 rfl rfl rfl rfl
theorem c182_16 : mcode 182 16 = some (.iload 4, 2, 0, 0, 0) := rfl
theorem r182_16 : Rn 182 (16, [x0, x1, x2, x3, some (.int i), x5], st, a, h) = Rn 182 (18, [x0, x1, x2, x3, some (.int i), x5], .int i :: st, a, h) := Rn_go c182_16 rfl
theorem c182_18 : mcode 182 18 = some (.aload_n 0, 1, 0, 0, 0) := rfl
theorem r182_18 : Rn 182 (18, [some (.ref q), x1, x2, x3, x4, x5], st, a, h) = Rn 182 (19, [some (.ref q), x1, x2, x3, x4, x5], .ref q :: st, a, h) := Rn_go c182_18 rfl
theorem c182_19 : mcode 182 19 = some (.getfield 31, 3, 6, 9, 0) := rfl
theorem r182_19 : Rn 182 (19, [x0, x1, x2, x3, x4, x5], .ref q :: st, a, h) = Kv 182 22 [x0, x1, x2, x3, x4, x5] st a h (mgf h q 6 9) := Rn_getf c182_19 rfl
theorem c182_22 : mcode 182 22 = some (.iload_n 1, 1, 0, 0, 0) := rfl
theorem r182_22 : Rn 182 (22, [x0, some (.int i), x2, x3, x4, x5], st, a, h) = Rn 182 (23, [x0, some (.int i), x2, x3, x4, x5], .int i :: st, a, h) := Rn_go c182_22 rfl
theorem c182_23 : mcode 182 23 = some (.iaload, 1, 0, 0, 0) := rfl
theorem r182_23 : Rn 182 (23, [x0, x1, x2, x3, x4, x5], .int i :: .ref q :: st, a, h) = Ki 182 24 [x0, x1, x2, x3, x4, x5] st a h (mld h q i false) := Rn_iald c182_23 rfl
theorem c182_24 : mcode 182 24 = some (.if_icmp .ge 55, 3, 0, 0, 0) := rfl
theorem r182_24 : Rn 182 (24, [x0, x1, x2, x3, x4, x5], .int j :: .int i :: st, a, h) = if i < j then Rn 182 (27, [x0, x1, x2, x3, x4, x5], st, a, h) else Rn 182 (79, [x0, x1, x2, x3, x4, x5], st, a, h) := Rn_icmpn c182_24 mc_ge rfl rfl
theorem c182_27 : mcode 182 27 = some (.iload_n 3, 1, 0, 0, 0) := rfl
theorem r182_27 : Rn 182 (27, [x0, x1, x2, some (.int i), x4, x5], st, a, h) = Rn 182 (28, [x0, x1, x2, some (.int i), x4, x5], .int i :: st, a, h) := Rn_go c182_27 rfl
theorem c182_28 : mcode 182 28 = some (.ifCond .eq 51, 3, 0, 0, 0) := rfl
theorem r182_28 : Rn 182 (28, [x0, x1, x2, x3, x4, x5], .int i :: st, a, h) = if i = 0 then Rn 182 (79, [x0, x1, x2, x3, x4, x5], st, a, h) else Rn 182 (31, [x0, x1, x2, x3, x4, x5], st, a, h) := Rn_ifc c182_28 mc_eq rfl rfl
theorem c182_31 : mcode 182 31 = some (.aload_n 0, 1, 0, 0, 0) := rfl
theorem r182_31 : Rn 182 (31, [some (.ref q), x1, x2, x3, x4, x5], st, a, h) = Rn 182 (32, [some (.ref q), x1, x2, x3, x4, x5], .ref q :: st, a, h) := Rn_go c182_31 rfl
theorem c182_32 : mcode 182 32 = some (.getfield 34, 3, 6, 10, 0) := rfl
theorem r182_32 : Rn 182 (32, [x0, x1, x2, x3, x4, x5], .ref q :: st, a, h) = Kv 182 35 [x0, x1, x2, x3, x4, x5] st a h (mgf h q 6 10) := Rn_getf c182_32 rfl
theorem c182_35 : mcode 182 35 = some (.bipush 40, 2, 0, 0, 0) := rfl
theorem r182_35 : Rn 182 (35, [x0, x1, x2, x3, x4, x5], st, a, h) = Rn 182 (37, [x0, x1, x2, x3, x4, x5], .int (40 : Int32) :: st, a, h) := Rn_go c182_35 rfl
theorem c182_37 : mcode 182 37 = some (.iload_n 1, 1, 0, 0, 0) := rfl
theorem r182_37 : Rn 182 (37, [x0, some (.int i), x2, x3, x4, x5], st, a, h) = Rn 182 (38, [x0, some (.int i), x2, x3, x4, x5], .int i :: st, a, h) := Rn_go c182_37 rfl
theorem c182_38 : mcode 182 38 = some (.imul, 1, 0, 0, 0) := rfl
theorem r182_38 : Rn 182 (38, [x0, x1, x2, x3, x4, x5], .int j :: .int i :: st, a, h) = Rn 182 (39, [x0, x1, x2, x3, x4, x5], .int (i * j) :: st, a, h) := Rn_go c182_38 rfl
theorem c182_39 : mcode 182 39 = some (.iload 4, 2, 0, 0, 0) := rfl
theorem r182_39 : Rn 182 (39, [x0, x1, x2, x3, some (.int i), x5], st, a, h) = Rn 182 (41, [x0, x1, x2, x3, some (.int i), x5], .int i :: st, a, h) := Rn_go c182_39 rfl
theorem c182_41 : mcode 182 41 = some (.iadd, 1, 0, 0, 0) := rfl
theorem r182_41 : Rn 182 (41, [x0, x1, x2, x3, x4, x5], .int j :: .int i :: st, a, h) = Rn 182 (42, [x0, x1, x2, x3, x4, x5], .int (i + j) :: st, a, h) := Rn_go c182_41 rfl
theorem c182_42 : mcode 182 42 = some (.iaload, 1, 0, 0, 0) := rfl
theorem r182_42 : Rn 182 (42, [x0, x1, x2, x3, x4, x5], .int i :: .ref q :: st, a, h) = Ki 182 43 [x0, x1, x2, x3, x4, x5] st a h (mld h q i false) := Rn_iald c182_42 rfl
theorem c182_43 : mcode 182 43 = some (.istore 5, 2, 0, 0, 0) := rfl
theorem r182_43 : Rn 182 (43, [x0, x1, x2, x3, x4, x5], .int i :: st, a, h) = Nl x4 (Rn 182 (45, [x0, x1, x2, x3, x4, some (.int i)], st, a, h)) := Rn_st1 (k := 5) (v := .int i) x4 c182_43 rfl rfl rfl rfl
theorem c182_45 : mcode 182 45 = some (.iload 5, 2, 0, 0, 0) := rfl
theorem r182_45 : Rn 182 (45, [x0, x1, x2, x3, x4, some (.int i)], st, a, h) = Rn 182 (47, [x0, x1, x2, x3, x4, some (.int i)], .int i :: st, a, h) := Rn_go c182_45 rfl
theorem c182_47 : mcode 182 47 = some (.iconst (-1), 1, 0, 0, 0) := rfl
theorem r182_47 : Rn 182 (47, [x0, x1, x2, x3, x4, x5], st, a, h) = Rn 182 (48, [x0, x1, x2, x3, x4, x5], .int (-1 : Int32) :: st, a, h) := Rn_go c182_47 rfl
theorem c182_48 : mcode 182 48 = some (.if_icmp .eq 14, 3, 0, 0, 0) := rfl
theorem r182_48 : Rn 182 (48, [x0, x1, x2, x3, x4, x5], .int j :: .int i :: st, a, h) = if i = j then Rn 182 (62, [x0, x1, x2, x3, x4, x5], st, a, h) else Rn 182 (51, [x0, x1, x2, x3, x4, x5], st, a, h) := Rn_icmp c182_48 mc_eq rfl rfl
theorem c182_51 : mcode 182 51 = some (.iload 5, 2, 0, 0, 0) := rfl
theorem r182_51 : Rn 182 (51, [x0, x1, x2, x3, x4, some (.int i)], st, a, h) = Rn 182 (53, [x0, x1, x2, x3, x4, some (.int i)], .int i :: st, a, h) := Rn_go c182_51 rfl
theorem c182_53 : mcode 182 53 = some (.aload_n 0, 1, 0, 0, 0) := rfl
theorem r182_53 : Rn 182 (53, [some (.ref q), x1, x2, x3, x4, x5], st, a, h) = Rn 182 (54, [some (.ref q), x1, x2, x3, x4, x5], .ref q :: st, a, h) := Rn_go c182_53 rfl
theorem c182_54 : mcode 182 54 = some (.getfield 7, 3, 6, 0, 0) := rfl
theorem r182_54 : Rn 182 (54, [x0, x1, x2, x3, x4, x5], .ref q :: st, a, h) = Kv 182 57 [x0, x1, x2, x3, x4, x5] st a h (mgf h q 6 0) := Rn_getf c182_54 rfl
theorem c182_57 : mcode 182 57 = some (.iload_n 2, 1, 0, 0, 0) := rfl
theorem r182_57 : Rn 182 (57, [x0, x1, some (.int i), x3, x4, x5], st, a, h) = Rn 182 (58, [x0, x1, some (.int i), x3, x4, x5], .int i :: st, a, h) := Rn_go c182_57 rfl
theorem c182_58 : mcode 182 58 = some (.iaload, 1, 0, 0, 0) := rfl
theorem r182_58 : Rn 182 (58, [x0, x1, x2, x3, x4, x5], .int i :: .ref q :: st, a, h) = Ki 182 59 [x0, x1, x2, x3, x4, x5] st a h (mld h q i false) := Rn_iald c182_58 rfl
theorem c182_59 : mcode 182 59 = some (.if_icmp .ne 7, 3, 0, 0, 0) := rfl
theorem r182_59 : Rn 182 (59, [x0, x1, x2, x3, x4, x5], .int j :: .int i :: st, a, h) = if i = j then Rn 182 (62, [x0, x1, x2, x3, x4, x5], st, a, h) else Rn 182 (66, [x0, x1, x2, x3, x4, x5], st, a, h) := Rn_icmpn c182_59 mc_ne rfl rfl
theorem c182_62 : mcode 182 62 = some (.iconst 1, 1, 0, 0, 0) := rfl
theorem r182_62 : Rn 182 (62, [x0, x1, x2, x3, x4, x5], st, a, h) = Rn 182 (63, [x0, x1, x2, x3, x4, x5], .int (1 : Int32) :: st, a, h) := Rn_go c182_62 rfl
theorem c182_63 : mcode 182 63 = some (.goto 4, 3, 0, 0, 0) := rfl
theorem r182_63 : Rn 182 (63, [x0, x1, x2, x3, x4, x5], st, a, h) = Rn 182 (67, [x0, x1, x2, x3, x4, x5], st, a, h) := Rn_goto c182_63 rfl
theorem c182_66 : mcode 182 66 = some (.iconst 0, 1, 0, 0, 0) := rfl
theorem r182_66 : Rn 182 (66, [x0, x1, x2, x3, x4, x5], st, a, h) = Rn 182 (67, [x0, x1, x2, x3, x4, x5], .int (0 : Int32) :: st, a, h) := Rn_go c182_66 rfl
theorem c182_67 : mcode 182 67 = some (.istore_n 3, 1, 0, 0, 0) := rfl
theorem r182_67 : Rn 182 (67, [x0, x1, x2, x3, x4, x5], .int i :: st, a, h) = Nl x2 (Rn 182 (68, [x0, x1, x2, some (.int i), x4, x5], st, a, h)) := Rn_st1 (k := 3) (v := .int i) x2 c182_67 rfl rfl rfl rfl
theorem c182_68 : mcode 182 68 = some (.aload_n 0, 1, 0, 0, 0) := rfl
theorem r182_68 : Rn 182 (68, [some (.ref q), x1, x2, x3, x4, x5], st, a, h) = Rn 182 (69, [some (.ref q), x1, x2, x3, x4, x5], .ref q :: st, a, h) := Rn_go c182_68 rfl
theorem c182_69 : mcode 182 69 = some (.iconst 0, 1, 0, 0, 0) := rfl
theorem r182_69 : Rn 182 (69, [x0, x1, x2, x3, x4, x5], st, a, h) = Rn 182 (70, [x0, x1, x2, x3, x4, x5], .int (0 : Int32) :: st, a, h) := Rn_go c182_69 rfl
theorem c182_70 : mcode 182 70 = some (.invokevirtual 131, 3, 158, 1, 6) := rfl
theorem r182_70 : Rn 182 (70, [x0, x1, x2, x3, x4, x5], [v0, .ref q], a, h) = if mis h q 6 = true then Bk 182 73 [x0, x1, x2, x3, x4, x5] [] (Ec 158 [.ref q, v0] a h) else none := Rn_call1 c182_70 rfl (Nat.le_of_ble_eq_true rfl) rfl rfl (Nat.le_of_ble_eq_true rfl)
theorem c182_73 : mcode 182 73 = some (.iinc 4 1, 3, 0, 0, 0) := rfl
theorem r182_73 : Rn 182 (73, [x0, x1, x2, x3, some (.int i), x5], st, a, h) = Nl x3 (Rn 182 (76, [x0, x1, x2, x3, some (.int (i + (1 : Int32))), x5], st, a, h)) := Rn_st1 (k := 4) (v := .int (i + (1 : Int32))) x3 c182_73 rfl rfl rfl rfl
theorem c182_76 : mcode 182 76 = some (.goto (-60), 3, 0, 0, 0) := rfl
theorem r182_76 : Rn 182 (76, [x0, x1, x2, x3, x4, x5], st, a, h) = Rn 182 (16, [x0, x1, x2, x3, x4, x5], st, a, h) := Rn_goto c182_76 rfl
theorem c182_79 : mcode 182 79 = some (.aload_n 0, 1, 0, 0, 0) := rfl
theorem r182_79 : Rn 182 (79, [some (.ref q), x1, x2, x3, x4, x5], st, a, h) = Rn 182 (80, [some (.ref q), x1, x2, x3, x4, x5], .ref q :: st, a, h) := Rn_go c182_79 rfl
theorem c182_80 : mcode 182 80 = some (.getfield 19, 3, 6, 3, 0) := rfl
theorem r182_80 : Rn 182 (80, [x0, x1, x2, x3, x4, x5], .ref q :: st, a, h) = Kv 182 83 [x0, x1, x2, x3, x4, x5] st a h (mgf h q 6 3) := Rn_getf c182_80 rfl
theorem c182_83 : mcode 182 83 = some (.aload_n 0, 1, 0, 0, 0) := rfl
theorem r182_83 : Rn 182 (83, [some (.ref q), x1, x2, x3, x4, x5], st, a, h) = Rn 182 (84, [some (.ref q), x1, x2, x3, x4, x5], .ref q :: st, a, h) := Rn_go c182_83 rfl
theorem c182_84 : mcode 182 84 = some (.getfield 7, 3, 6, 0, 0) := rfl
theorem r182_84 : Rn 182 (84, [x0, x1, x2, x3, x4, x5], .ref q :: st, a, h) = Kv 182 87 [x0, x1, x2, x3, x4, x5] st a h (mgf h q 6 0) := Rn_getf c182_84 rfl
theorem c182_87 : mcode 182 87 = some (.invokestatic 157, 3, 127, 2, 0) := rfl
theorem r182_87 : Rn 182 (87, [x0, x1, x2, x3, x4, x5], [v1, v0], a, h) = Bk 182 90 [x0, x1, x2, x3, x4, x5] [] (Ec 127 [v0, v1] a h) := Rn_call0 c182_87 (fun z => nomatch z) rfl (Nat.le_of_ble_eq_true rfl) rfl rfl (Nat.le_of_ble_eq_true rfl)
theorem c182_90 : mcode 182 90 = some (.iload_n 3, 1, 0, 0, 0) := rfl
theorem r182_90 : Rn 182 (90, [x0, x1, x2, some (.int i), x4, x5], st, a, h) = Rn 182 (91, [x0, x1, x2, some (.int i), x4, x5], .int i :: st, a, h) := Rn_go c182_90 rfl
theorem c182_91 : mcode 182 91 = some (.ireturn, 1, 1, 0, 0) := rfl
theorem r182_91 : Rn 182 (91, [x0, x1, x2, x3, x4, x5], [.int i], a, h) = if mrt 1 i = true then some (some (.int i), a, h) else none := Rn_iretz c182_91
theorem c183_0 : mcode 183 0 = some (.aload_n 0, 1, 0, 0, 0) := rfl
theorem r183_0 : Rn 183 (0, [some (.ref q), x1, x2, x3, x4, x5, x6], st, a, h) = Rn 183 (1, [some (.ref q), x1, x2, x3, x4, x5, x6], .ref q :: st, a, h) := Rn_go c183_0 rfl
theorem c183_1 : mcode 183 1 = some (.iload_n 2, 1, 0, 0, 0) := rfl
theorem r183_1 : Rn 183 (1, [x0, x1, some (.int i), x3, x4, x5, x6], st, a, h) = Rn 183 (2, [x0, x1, some (.int i), x3, x4, x5, x6], .int i :: st, a, h) := Rn_go c183_1 rfl
theorem c183_2 : mcode 183 2 = some (.iconst 3, 1, 0, 0, 0) := rfl
theorem r183_2 : Rn 183 (2, [x0, x1, x2, x3, x4, x5, x6], st, a, h) = Rn 183 (3, [x0, x1, x2, x3, x4, x5, x6], .int (3 : Int32) :: st, a, h) := Rn_go c183_2 rfl
theorem c183_3 : mcode 183 3 = some (.invokevirtual 63, 3, 132, 2, 6) := rfl
theorem r183_3 : Rn 183 (3, [x0, x1, x2, x3, x4, x5, x6], [v1, v0, .ref q], a, h) = if mis h q 6 = true then Bk 183 6 [x0, x1, x2, x3, x4, x5, x6] [] (Ec 132 [.ref q, v0, v1] a h) else none := Rn_call1 c183_3 rfl (Nat.le_of_ble_eq_true rfl) rfl rfl (Nat.le_of_ble_eq_true rfl)
theorem c183_6 : mcode 183 6 = some (.istore 4, 2, 0, 0, 0) := rfl
theorem r183_6 : Rn 183 (6, [x0, x1, x2, x3, x4, x5, x6], .int i :: st, a, h) = Nl x3 (Rn 183 (8, [x0, x1, x2, x3, some (.int i), x5, x6], st, a, h)) := Rn_st1 (k := 4) (v := .int i) x3 c183_6 rfl rfl rfl rfl
theorem c183_8 : mcode 183 8 = some (.iconst 4, 1, 0, 0, 0) := rfl
theorem r183_8 : Rn 183 (8, [x0, x1, x2, x3, x4, x5, x6], st, a, h) = Rn 183 (9, [x0, x1, x2, x3, x4, x5, x6], .int (4 : Int32) :: st, a, h) := Rn_go c183_8 rfl
theorem c183_9 : mcode 183 9 = some (.iconst 3, 1, 0, 0, 0) := rfl
theorem r183_9 : Rn 183 (9, [x0, x1, x2, x3, x4, x5, x6], st, a, h) = Rn 183 (10, [x0, x1, x2, x3, x4, x5, x6], .int (3 : Int32) :: st, a, h) := Rn_go c183_9 rfl
theorem c183_10 : mcode 183 10 = some (.aload_n 0, 1, 0, 0, 0) := rfl
theorem r183_10 : Rn 183 (10, [some (.ref q), x1, x2, x3, x4, x5, x6], st, a, h) = Rn 183 (11, [some (.ref q), x1, x2, x3, x4, x5, x6], .ref q :: st, a, h) := Rn_go c183_10 rfl
theorem c183_11 : mcode 183 11 = some (.iload_n 2, 1, 0, 0, 0) := rfl
theorem r183_11 : Rn 183 (11, [x0, x1, some (.int i), x3, x4, x5, x6], st, a, h) = Rn 183 (12, [x0, x1, some (.int i), x3, x4, x5, x6], .int i :: st, a, h) := Rn_go c183_11 rfl
theorem c183_12 : mcode 183 12 = some (.iconst 1, 1, 0, 0, 0) := rfl
theorem r183_12 : Rn 183 (12, [x0, x1, x2, x3, x4, x5, x6], st, a, h) = Rn 183 (13, [x0, x1, x2, x3, x4, x5, x6], .int (1 : Int32) :: st, a, h) := Rn_go c183_12 rfl
theorem c183_13 : mcode 183 13 = some (.invokevirtual 63, 3, 132, 2, 6) := rfl
theorem r183_13 : Rn 183 (13, [x0, x1, x2, x3, x4, x5, x6], [v1, v0, .ref q, .int i0, .int i1], a, h) = if mis h q 6 = true then Bk 183 16 [x0, x1, x2, x3, x4, x5, x6] [.int i0, .int i1] (Ec 132 [.ref q, v0, v1] a h) else none := Rn_call1 c183_13 rfl (Nat.le_of_ble_eq_true rfl) rfl rfl (Nat.le_of_ble_eq_true rfl)
theorem c183_16 : mcode 183 16 = some (.imul, 1, 0, 0, 0) := rfl
theorem r183_16 : Rn 183 (16, [x0, x1, x2, x3, x4, x5, x6], .int j :: .int i :: st, a, h) = Rn 183 (17, [x0, x1, x2, x3, x4, x5, x6], .int (i * j) :: st, a, h) := Rn_go c183_16 rfl
theorem c183_17 : mcode 183 17 = some (.iadd, 1, 0, 0, 0) := rfl
theorem r183_17 : Rn 183 (17, [x0, x1, x2, x3, x4, x5, x6], .int j :: .int i :: st, a, h) = Rn 183 (18, [x0, x1, x2, x3, x4, x5, x6], .int (i + j) :: st, a, h) := Rn_go c183_17 rfl
theorem c183_18 : mcode 183 18 = some (.iload_n 3, 1, 0, 0, 0) := rfl
theorem r183_18 : Rn 183 (18, [x0, x1, x2, some (.int i), x4, x5, x6], st, a, h) = Rn 183 (19, [x0, x1, x2, some (.int i), x4, x5, x6], .int i :: st, a, h) := Rn_go c183_18 rfl
theorem c183_19 : mcode 183 19 = some (.iadd, 1, 0, 0, 0) := rfl
theorem r183_19 : Rn 183 (19, [x0, x1, x2, x3, x4, x5, x6], .int j :: .int i :: st, a, h) = Rn 183 (20, [x0, x1, x2, x3, x4, x5, x6], .int (i + j) :: st, a, h) := Rn_go c183_19 rfl
theorem c183_20 : mcode 183 20 = some (.istore 5, 2, 0, 0, 0) := rfl
theorem r183_20 : Rn 183 (20, [x0, x1, x2, x3, x4, x5, x6], .int i :: st, a, h) = Nl x4 (Rn 183 (22, [x0, x1, x2, x3, x4, some (.int i), x6], st, a, h)) := Rn_st1 (k := 5) (v := .int i) x4 c183_20 rfl rfl rfl rfl
theorem c183_22 : mcode 183 22 = some (.aload_n 0, 1, 0, 0, 0) := rfl
theorem r183_22 : Rn 183 (22, [some (.ref q), x1, x2, x3, x4, x5, x6], st, a, h) = Rn 183 (23, [some (.ref q), x1, x2, x3, x4, x5, x6], .ref q :: st, a, h) := Rn_go c183_22 rfl
theorem c183_23 : mcode 183 23 = some (.iconst 0, 1, 0, 0, 0) := rfl
theorem r183_23 : Rn 183 (23, [x0, x1, x2, x3, x4, x5, x6], st, a, h) = Rn 183 (24, [x0, x1, x2, x3, x4, x5, x6], .int (0 : Int32) :: st, a, h) := Rn_go c183_23 rfl
theorem c183_24 : mcode 183 24 = some (.putfield 183, 3, 6, 11, 0) := rfl
theorem r183_24 : Rn 183 (24, [x0, x1, x2, x3, x4, x5, x6], .int i :: .ref q :: st, a, h) = Kh 183 27 [x0, x1, x2, x3, x4, x5, x6] st a (mpf h q 6 11 (.int i)) := Rn_putfi c183_24 rfl rfl
theorem c183_27 : mcode 183 27 = some (.sipush 200, 3, 0, 0, 0) := rfl
theorem r183_27 : Rn 183 (27, [x0, x1, x2, x3, x4, x5, x6], st, a, h) = Rn 183 (30, [x0, x1, x2, x3, x4, x5, x6], .int (200 : Int32) :: st, a, h) := Rn_go c183_27 rfl
theorem c183_30 : mcode 183 30 = some (.istore 6, 2, 0, 0, 0) := rfl
theorem r183_30 : Rn 183 (30, [x0, x1, x2, x3, x4, x5, x6], .int i :: st, a, h) = Nl x5 (Rn 183 (32, [x0, x1, x2, x3, x4, x5, some (.int i)], st, a, h)) := Rn_st1 (k := 6) (v := .int i) x5 c183_30 rfl rfl rfl rfl
theorem c183_32 : mcode 183 32 = some (.iload 6, 2, 0, 0, 0) := rfl
theorem r183_32 : Rn 183 (32, [x0, x1, x2, x3, x4, x5, some (.int i)], st, a, h) = Rn 183 (34, [x0, x1, x2, x3, x4, x5, some (.int i)], .int i :: st, a, h) := Rn_go c183_32 rfl
theorem c183_34 : mcode 183 34 = some (.ifCond .lt 47, 3, 0, 0, 0) := rfl
theorem r183_34 : Rn 183 (34, [x0, x1, x2, x3, x4, x5, x6], .int i :: st, a, h) = if i < 0 then Rn 183 (81, [x0, x1, x2, x3, x4, x5, x6], st, a, h) else Rn 183 (37, [x0, x1, x2, x3, x4, x5, x6], st, a, h) := Rn_ifc c183_34 mc_lt rfl rfl
theorem c183_37 : mcode 183 37 = some (.aload_n 0, 1, 0, 0, 0) := rfl
theorem r183_37 : Rn 183 (37, [some (.ref q), x1, x2, x3, x4, x5, x6], st, a, h) = Rn 183 (38, [some (.ref q), x1, x2, x3, x4, x5, x6], .ref q :: st, a, h) := Rn_go c183_37 rfl
theorem c183_38 : mcode 183 38 = some (.getfield 7, 3, 6, 0, 0) := rfl
theorem r183_38 : Rn 183 (38, [x0, x1, x2, x3, x4, x5, x6], .ref q :: st, a, h) = Kv 183 41 [x0, x1, x2, x3, x4, x5, x6] st a h (mgf h q 6 0) := Rn_getf c183_38 rfl
theorem c183_41 : mcode 183 41 = some (.iload_n 2, 1, 0, 0, 0) := rfl
theorem r183_41 : Rn 183 (41, [x0, x1, some (.int i), x3, x4, x5, x6], st, a, h) = Rn 183 (42, [x0, x1, some (.int i), x3, x4, x5, x6], .int i :: st, a, h) := Rn_go c183_41 rfl
theorem c183_42 : mcode 183 42 = some (.iconst 3, 1, 0, 0, 0) := rfl
theorem r183_42 : Rn 183 (42, [x0, x1, x2, x3, x4, x5, x6], st, a, h) = Rn 183 (43, [x0, x1, x2, x3, x4, x5, x6], .int (3 : Int32) :: st, a, h) := Rn_go c183_42 rfl
theorem c183_43 : mcode 183 43 = some (.invokestatic 79, 3, 131, 2, 0) := rfl
theorem r183_43 : Rn 183 (43, [x0, x1, x2, x3, x4, x5, x6], [v1, v0, .ref q0], a, h) = Bk 183 46 [x0, x1, x2, x3, x4, x5, x6] [.ref q0] (Ec 131 [v0, v1] a h) := Rn_call0 c183_43 (fun z => nomatch z) rfl (Nat.le_of_ble_eq_true rfl) rfl rfl (Nat.le_of_ble_eq_true rfl)
theorem c183_46 : mcode 183 46 = some (.iload 6, 2, 0, 0, 0) := rfl
theorem r183_46 : Rn 183 (46, [x0, x1, x2, x3, x4, x5, some (.int i)], st, a, h) = Rn 183 (48, [x0, x1, x2, x3, x4, x5, some (.int i)], .int i :: st, a, h) := Rn_go c183_46 rfl
theorem c183_48 : mcode 183 48 = some (.iastore, 1, 0, 0, 0) := rfl
theorem r183_48 : Rn 183 (48, [x0, x1, x2, x3, x4, x5, x6], .int j :: .int i :: .ref q :: st, a, h) = Kh 183 49 [x0, x1, x2, x3, x4, x5, x6] st a (mias h q i j) := Rn_iast c183_48 rfl
theorem c183_49 : mcode 183 49 = some (.aload_n 0, 1, 0, 0, 0) := rfl
theorem r183_49 : Rn 183 (49, [some (.ref q), x1, x2, x3, x4, x5, x6], st, a, h) = Rn 183 (50, [some (.ref q), x1, x2, x3, x4, x5, x6], .ref q :: st, a, h) := Rn_go c183_49 rfl
theorem c183_50 : mcode 183 50 = some (.iload_n 1, 1, 0, 0, 0) := rfl
theorem r183_50 : Rn 183 (50, [x0, some (.int i), x2, x3, x4, x5, x6], st, a, h) = Rn 183 (51, [x0, some (.int i), x2, x3, x4, x5, x6], .int i :: st, a, h) := Rn_go c183_50 rfl
theorem c183_51 : mcode 183 51 = some (.iload 5, 2, 0, 0, 0) := rfl
theorem r183_51 : Rn 183 (51, [x0, x1, x2, x3, x4, some (.int i), x6], st, a, h) = Rn 183 (53, [x0, x1, x2, x3, x4, some (.int i), x6], .int i :: st, a, h) := Rn_go c183_51 rfl
theorem c183_53 : mcode 183 53 = some (.invokevirtual 187, 3, 182, 2, 6) := rfl
theorem r183_53 : Rn 183 (53, [x0, x1, x2, x3, x4, x5, x6], [v1, v0, .ref q], a, h) = if mis h q 6 = true then Bk 183 56 [x0, x1, x2, x3, x4, x5, x6] [] (Ec 182 [.ref q, v0, v1] a h) else none := Rn_call1 c183_53 rfl (Nat.le_of_ble_eq_true rfl) rfl rfl (Nat.le_of_ble_eq_true rfl)
theorem c183_56 : mcode 183 56 = some (.ifCond .eq 19, 3, 0, 0, 0) := rfl
theorem r183_56 : Rn 183 (56, [x0, x1, x2, x3, x4, x5, x6], .int i :: st, a, h) = if i = 0 then Rn 183 (75, [x0, x1, x2, x3, x4, x5, x6], st, a, h) else Rn 183 (59, [x0, x1, x2, x3, x4, x5, x6], st, a, h) := Rn_ifc c183_56 mc_eq rfl rfl
theorem c183_59 : mcode 183 59 = some (.aload_n 0, 1, 0, 0, 0) := rfl
theorem r183_59 : Rn 183 (59, [some (.ref q), x1, x2, x3, x4, x5, x6], st, a, h) = Rn 183 (60, [some (.ref q), x1, x2, x3, x4, x5, x6], .ref q :: st, a, h) := Rn_go c183_59 rfl
theorem c183_60 : mcode 183 60 = some (.dup, 1, 0, 0, 0) := rfl
theorem r183_60 : Rn 183 (60, [x0, x1, x2, x3, x4, x5, x6], .ref q :: st, a, h) = Rn 183 (61, [x0, x1, x2, x3, x4, x5, x6], .ref q :: .ref q :: st, a, h) := Rn_go c183_60 rfl
theorem c183_61 : mcode 183 61 = some (.getfield 183, 3, 6, 11, 0) := rfl
theorem r183_61 : Rn 183 (61, [x0, x1, x2, x3, x4, x5, x6], .ref q :: st, a, h) = Kv 183 64 [x0, x1, x2, x3, x4, x5, x6] st a h (mgf h q 6 11) := Rn_getf c183_61 rfl
theorem c183_64 : mcode 183 64 = some (.iconst 1, 1, 0, 0, 0) := rfl
theorem r183_64 : Rn 183 (64, [x0, x1, x2, x3, x4, x5, x6], st, a, h) = Rn 183 (65, [x0, x1, x2, x3, x4, x5, x6], .int (1 : Int32) :: st, a, h) := Rn_go c183_64 rfl
theorem c183_65 : mcode 183 65 = some (.iadd, 1, 0, 0, 0) := rfl
theorem r183_65 : Rn 183 (65, [x0, x1, x2, x3, x4, x5, x6], .int j :: .int i :: st, a, h) = Rn 183 (66, [x0, x1, x2, x3, x4, x5, x6], .int (i + j) :: st, a, h) := Rn_go c183_65 rfl
theorem c183_66 : mcode 183 66 = some (.putfield 183, 3, 6, 11, 0) := rfl
theorem r183_66 : Rn 183 (66, [x0, x1, x2, x3, x4, x5, x6], .int i :: .ref q :: st, a, h) = Kh 183 69 [x0, x1, x2, x3, x4, x5, x6] st a (mpf h q 6 11 (.int i)) := Rn_putfi c183_66 rfl rfl
theorem c183_69 : mcode 183 69 = some (.aload_n 0, 1, 0, 0, 0) := rfl
theorem r183_69 : Rn 183 (69, [some (.ref q), x1, x2, x3, x4, x5, x6], st, a, h) = Rn 183 (70, [some (.ref q), x1, x2, x3, x4, x5, x6], .ref q :: st, a, h) := Rn_go c183_69 rfl
theorem c183_70 : mcode 183 70 = some (.iload 6, 2, 0, 0, 0) := rfl
theorem r183_70 : Rn 183 (70, [x0, x1, x2, x3, x4, x5, some (.int i)], st, a, h) = Rn 183 (72, [x0, x1, x2, x3, x4, x5, some (.int i)], .int i :: st, a, h) := Rn_go c183_70 rfl
theorem c183_72 : mcode 183 72 = some (.putfield 191, 3, 6, 12, 0) := rfl
theorem r183_72 : Rn 183 (72, [x0, x1, x2, x3, x4, x5, x6], .int i :: .ref q :: st, a, h) = Kh 183 75 [x0, x1, x2, x3, x4, x5, x6] st a (mpf h q 6 12 (.int i)) := Rn_putfi c183_72 rfl rfl
theorem c183_75 : mcode 183 75 = some (.iinc 6 (-1), 3, 0, 0, 0) := rfl
theorem r183_75 : Rn 183 (75, [x0, x1, x2, x3, x4, x5, some (.int i)], st, a, h) = Nl x5 (Rn 183 (78, [x0, x1, x2, x3, x4, x5, some (.int (i + (-1 : Int32)))], st, a, h)) := Rn_st1 (k := 6) (v := .int (i + (-1 : Int32))) x5 c183_75 rfl rfl rfl rfl
theorem c183_78 : mcode 183 78 = some (.goto (-46), 3, 0, 0, 0) := rfl
theorem r183_78 : Rn 183 (78, [x0, x1, x2, x3, x4, x5, x6], st, a, h) = Rn 183 (32, [x0, x1, x2, x3, x4, x5, x6], st, a, h) := Rn_goto c183_78 rfl
theorem c183_81 : mcode 183 81 = some (.aload_n 0, 1, 0, 0, 0) := rfl
theorem r183_81 : Rn 183 (81, [some (.ref q), x1, x2, x3, x4, x5, x6], st, a, h) = Rn 183 (82, [some (.ref q), x1, x2, x3, x4, x5, x6], .ref q :: st, a, h) := Rn_go c183_81 rfl
theorem c183_82 : mcode 183 82 = some (.getfield 7, 3, 6, 0, 0) := rfl
theorem r183_82 : Rn 183 (82, [x0, x1, x2, x3, x4, x5, x6], .ref q :: st, a, h) = Kv 183 85 [x0, x1, x2, x3, x4, x5, x6] st a h (mgf h q 6 0) := Rn_getf c183_82 rfl
theorem c183_85 : mcode 183 85 = some (.iload_n 2, 1, 0, 0, 0) := rfl
theorem r183_85 : Rn 183 (85, [x0, x1, some (.int i), x3, x4, x5, x6], st, a, h) = Rn 183 (86, [x0, x1, some (.int i), x3, x4, x5, x6], .int i :: st, a, h) := Rn_go c183_85 rfl
theorem c183_86 : mcode 183 86 = some (.iconst 3, 1, 0, 0, 0) := rfl
theorem r183_86 : Rn 183 (86, [x0, x1, x2, x3, x4, x5, x6], st, a, h) = Rn 183 (87, [x0, x1, x2, x3, x4, x5, x6], .int (3 : Int32) :: st, a, h) := Rn_go c183_86 rfl
theorem c183_87 : mcode 183 87 = some (.invokestatic 79, 3, 131, 2, 0) := rfl
theorem r183_87 : Rn 183 (87, [x0, x1, x2, x3, x4, x5, x6], [v1, v0, .ref q0], a, h) = Bk 183 90 [x0, x1, x2, x3, x4, x5, x6] [.ref q0] (Ec 131 [v0, v1] a h) := Rn_call0 c183_87 (fun z => nomatch z) rfl (Nat.le_of_ble_eq_true rfl) rfl rfl (Nat.le_of_ble_eq_true rfl)
theorem c183_90 : mcode 183 90 = some (.iload 4, 2, 0, 0, 0) := rfl
theorem r183_90 : Rn 183 (90, [x0, x1, x2, x3, some (.int i), x5, x6], st, a, h) = Rn 183 (92, [x0, x1, x2, x3, some (.int i), x5, x6], .int i :: st, a, h) := Rn_go c183_90 rfl
theorem c183_92 : mcode 183 92 = some (.iastore, 1, 0, 0, 0) := rfl
theorem r183_92 : Rn 183 (92, [x0, x1, x2, x3, x4, x5, x6], .int j :: .int i :: .ref q :: st, a, h) = Kh 183 93 [x0, x1, x2, x3, x4, x5, x6] st a (mias h q i j) := Rn_iast c183_92 rfl
theorem c183_93 : mcode 183 93 = some (.return_, 1, 0, 0, 0) := rfl
theorem r183_93 : Rn 183 (93, [x0, x1, x2, x3, x4, x5, x6], [], a, h) = some (none, a, h) := Rn_act c183_93
theorem c184_0 : mcode 184 0 = some (.aload_n 0, 1, 0, 0, 0) := rfl
theorem r184_0 : Rn 184 (0, [some (.ref q), x1, x2, x3], st, a, h) = Rn 184 (1, [some (.ref q), x1, x2, x3], .ref q :: st, a, h) := Rn_go c184_0 rfl
theorem c184_1 : mcode 184 1 = some (.iload_n 1, 1, 0, 0, 0) := rfl
theorem r184_1 : Rn 184 (1, [x0, some (.int i), x2, x3], st, a, h) = Rn 184 (2, [x0, some (.int i), x2, x3], .int i :: st, a, h) := Rn_go c184_1 rfl
theorem c184_2 : mcode 184 2 = some (.invokevirtual 194, 3, 219, 1, 6) := rfl
theorem r184_2 : Rn 184 (2, [x0, x1, x2, x3], [v0, .ref q], a, h) = if mis h q 6 = true then Bk 184 5 [x0, x1, x2, x3] [] (Ec 219 [.ref q, v0] a h) else none := Rn_call1 c184_2 rfl (Nat.le_of_ble_eq_true rfl) rfl rfl (Nat.le_of_ble_eq_true rfl)
theorem c184_5 : mcode 184 5 = some (.ifCond .eq 11, 3, 0, 0, 0) := rfl
theorem r184_5 : Rn 184 (5, [x0, x1, x2, x3], .int i :: st, a, h) = if i = 0 then Rn 184 (16, [x0, x1, x2, x3], st, a, h) else Rn 184 (8, [x0, x1, x2, x3], st, a, h) := Rn_ifc c184_5 mc_eq rfl rfl
theorem c184_8 : mcode 184 8 = some (.aload_n 0, 1, 0, 0, 0) := rfl
theorem r184_8 : Rn 184 (8, [some (.ref q), x1, x2, x3], st, a, h) = Rn 184 (9, [some (.ref q), x1, x2, x3], .ref q :: st, a, h) := Rn_go c184_8 rfl
theorem c184_9 : mcode 184 9 = some (.iload_n 1, 1, 0, 0, 0) := rfl
theorem r184_9 : Rn 184 (9, [x0, some (.int i), x2, x3], st, a, h) = Rn 184 (10, [x0, some (.int i), x2, x3], .int i :: st, a, h) := Rn_go c184_9 rfl
theorem c184_10 : mcode 184 10 = some (.invokevirtual 194, 3, 219, 1, 6) := rfl
theorem r184_10 : Rn 184 (10, [x0, x1, x2, x3], [v0, .ref q], a, h) = if mis h q 6 = true then Bk 184 13 [x0, x1, x2, x3] [] (Ec 219 [.ref q, v0] a h) else none := Rn_call1 c184_10 rfl (Nat.le_of_ble_eq_true rfl) rfl rfl (Nat.le_of_ble_eq_true rfl)
theorem c184_13 : mcode 184 13 = some (.goto 24, 3, 0, 0, 0) := rfl
theorem r184_13 : Rn 184 (13, [x0, x1, x2, x3], st, a, h) = Rn 184 (37, [x0, x1, x2, x3], st, a, h) := Rn_goto c184_13 rfl
theorem c184_16 : mcode 184 16 = some (.aload_n 0, 1, 0, 0, 0) := rfl
theorem r184_16 : Rn 184 (16, [some (.ref q), x1, x2, x3], st, a, h) = Rn 184 (17, [some (.ref q), x1, x2, x3], .ref q :: st, a, h) := Rn_go c184_16 rfl
theorem c184_17 : mcode 184 17 = some (.iload_n 2, 1, 0, 0, 0) := rfl
theorem r184_17 : Rn 184 (17, [x0, x1, some (.int i), x3], st, a, h) = Rn 184 (18, [x0, x1, some (.int i), x3], .int i :: st, a, h) := Rn_go c184_17 rfl
theorem c184_18 : mcode 184 18 = some (.invokevirtual 98, 3, 130, 1, 6) := rfl
theorem r184_18 : Rn 184 (18, [x0, x1, x2, x3], [v0, .ref q], a, h) = if mis h q 6 = true then Bk 184 21 [x0, x1, x2, x3] [] (Ec 130 [.ref q, v0] a h) else none := Rn_call1 c184_18 rfl (Nat.le_of_ble_eq_true rfl) rfl rfl (Nat.le_of_ble_eq_true rfl)
theorem c184_21 : mcode 184 21 = some (.ifCond .eq 14, 3, 0, 0, 0) := rfl
theorem r184_21 : Rn 184 (21, [x0, x1, x2, x3], .int i :: st, a, h) = if i = 0 then Rn 184 (35, [x0, x1, x2, x3], st, a, h) else Rn 184 (24, [x0, x1, x2, x3], st, a, h) := Rn_ifc c184_21 mc_eq rfl rfl
theorem c184_24 : mcode 184 24 = some (.iload_n 3, 1, 0, 0, 0) := rfl
theorem r184_24 : Rn 184 (24, [x0, x1, x2, some (.int i)], st, a, h) = Rn 184 (25, [x0, x1, x2, some (.int i)], .int i :: st, a, h) := Rn_go c184_24 rfl
theorem c184_25 : mcode 184 25 = some (.invokestatic 47, 3, 129, 1, 0) := rfl
theorem r184_25 : Rn 184 (25, [x0, x1, x2, x3], [v0], a, h) = Bk 184 28 [x0, x1, x2, x3] [] (Ec 129 [v0] a h) := Rn_call0 c184_25 (fun z => nomatch z) rfl (Nat.le_of_ble_eq_true rfl) rfl rfl (Nat.le_of_ble_eq_true rfl)
theorem c184_28 : mcode 184 28 = some (.ifCond .eq 7, 3, 0, 0, 0) := rfl
theorem r184_28 : Rn 184 (28, [x0, x1, x2, x3], .int i :: st, a, h) = if i = 0 then Rn 184 (35, [x0, x1, x2, x3], st, a, h) else Rn 184 (31, [x0, x1, x2, x3], st, a, h) := Rn_ifc c184_28 mc_eq rfl rfl
theorem c184_31 : mcode 184 31 = some (.iconst 0, 1, 0, 0, 0) := rfl
theorem r184_31 : Rn 184 (31, [x0, x1, x2, x3], st, a, h) = Rn 184 (32, [x0, x1, x2, x3], .int (0 : Int32) :: st, a, h) := Rn_go c184_31 rfl
theorem c184_32 : mcode 184 32 = some (.goto 5, 3, 0, 0, 0) := rfl
theorem r184_32 : Rn 184 (32, [x0, x1, x2, x3], st, a, h) = Rn 184 (37, [x0, x1, x2, x3], st, a, h) := Rn_goto c184_32 rfl
theorem c184_35 : mcode 184 35 = some (.ldc 37, 2, 0, 0, -1000001) := rfl
theorem r184_35 : Rn 184 (35, [x0, x1, x2, x3], st, a, h) = Rn 184 (37, [x0, x1, x2, x3], .int (-1000001 : Int32) :: st, a, h) := Rn_go c184_35 rfl
theorem c184_37 : mcode 184 37 = some (.ireturn, 1, 0, 0, 0) := rfl
theorem r184_37 : Rn 184 (37, [x0, x1, x2, x3], [.int i], a, h) = some (some (.int i), a, h) := Rn_ireti c184_37
theorem c185_0 : mcode 185 0 = some (.aload_n 0, 1, 0, 0, 0) := rfl
theorem r185_0 : Rn 185 (0, [some (.ref q), x1, x2, x3, x4], st, a, h) = Rn 185 (1, [some (.ref q), x1, x2, x3, x4], .ref q :: st, a, h) := Rn_go c185_0 rfl
theorem c185_1 : mcode 185 1 = some (.iload_n 1, 1, 0, 0, 0) := rfl
theorem r185_1 : Rn 185 (1, [x0, some (.int i), x2, x3, x4], st, a, h) = Rn 185 (2, [x0, some (.int i), x2, x3, x4], .int i :: st, a, h) := Rn_go c185_1 rfl
theorem c185_2 : mcode 185 2 = some (.iload_n 2, 1, 0, 0, 0) := rfl
theorem r185_2 : Rn 185 (2, [x0, x1, some (.int i), x3, x4], st, a, h) = Rn 185 (3, [x0, x1, some (.int i), x3, x4], .int i :: st, a, h) := Rn_go c185_2 rfl
theorem c185_3 : mcode 185 3 = some (.iload_n 3, 1, 0, 0, 0) := rfl
theorem r185_3 : Rn 185 (3, [x0, x1, x2, some (.int i), x4], st, a, h) = Rn 185 (4, [x0, x1, x2, some (.int i), x4], .int i :: st, a, h) := Rn_go c185_3 rfl
theorem c185_4 : mcode 185 4 = some (.invokevirtual 197, 3, 184, 3, 6) := rfl
theorem r185_4 : Rn 185 (4, [x0, x1, x2, x3, x4], [v2, v1, v0, .ref q], a, h) = if mis h q 6 = true then Bk 185 7 [x0, x1, x2, x3, x4] [] (Ec 184 [.ref q, v0, v1, v2] a h) else none := Rn_call1 c185_4 rfl (Nat.le_of_ble_eq_true rfl) rfl rfl (Nat.le_of_ble_eq_true rfl)
theorem c185_7 : mcode 185 7 = some (.istore 4, 2, 0, 0, 0) := rfl
theorem r185_7 : Rn 185 (7, [x0, x1, x2, x3, x4], .int i :: st, a, h) = Nl x3 (Rn 185 (9, [x0, x1, x2, x3, some (.int i)], st, a, h)) := Rn_st1 (k := 4) (v := .int i) x3 c185_7 rfl rfl rfl rfl
theorem c185_9 : mcode 185 9 = some (.iload 4, 2, 0, 0, 0) := rfl
theorem r185_9 : Rn 185 (9, [x0, x1, x2, x3, some (.int i)], st, a, h) = Rn 185 (11, [x0, x1, x2, x3, some (.int i)], .int i :: st, a, h) := Rn_go c185_9 rfl
theorem c185_11 : mcode 185 11 = some (.ifCond .eq 10, 3, 0, 0, 0) := rfl
theorem r185_11 : Rn 185 (11, [x0, x1, x2, x3, x4], .int i :: st, a, h) = if i = 0 then Rn 185 (21, [x0, x1, x2, x3, x4], st, a, h) else Rn 185 (14, [x0, x1, x2, x3, x4], st, a, h) := Rn_ifc c185_11 mc_eq rfl rfl
theorem c185_14 : mcode 185 14 = some (.aload_n 0, 1, 0, 0, 0) := rfl
theorem r185_14 : Rn 185 (14, [some (.ref q), x1, x2, x3, x4], st, a, h) = Rn 185 (15, [some (.ref q), x1, x2, x3, x4], .ref q :: st, a, h) := Rn_go c185_14 rfl
theorem c185_15 : mcode 185 15 = some (.iload 4, 2, 0, 0, 0) := rfl
theorem r185_15 : Rn 185 (15, [x0, x1, x2, x3, some (.int i)], st, a, h) = Rn 185 (17, [x0, x1, x2, x3, some (.int i)], .int i :: st, a, h) := Rn_go c185_15 rfl
theorem c185_17 : mcode 185 17 = some (.invokevirtual 39, 3, 125, 1, 6) := rfl
theorem r185_17 : Rn 185 (17, [x0, x1, x2, x3, x4], [v0, .ref q], a, h) = if mis h q 6 = true then Bk 185 20 [x0, x1, x2, x3, x4] [] (Ec 125 [.ref q, v0] a h) else none := Rn_call1 c185_17 rfl (Nat.le_of_ble_eq_true rfl) rfl rfl (Nat.le_of_ble_eq_true rfl)
theorem c185_20 : mcode 185 20 = some (.ireturn, 1, 0, 0, 0) := rfl
theorem r185_20 : Rn 185 (20, [x0, x1, x2, x3, x4], [.int i], a, h) = some (some (.int i), a, h) := Rn_ireti c185_20
theorem c185_21 : mcode 185 21 = some (.aload_n 0, 1, 0, 0, 0) := rfl
theorem r185_21 : Rn 185 (21, [some (.ref q), x1, x2, x3, x4], st, a, h) = Rn 185 (22, [some (.ref q), x1, x2, x3, x4], .ref q :: st, a, h) := Rn_go c185_21 rfl
theorem c185_22 : mcode 185 22 = some (.iload_n 1, 1, 0, 0, 0) := rfl
theorem r185_22 : Rn 185 (22, [x0, some (.int i), x2, x3, x4], st, a, h) = Rn 185 (23, [x0, some (.int i), x2, x3, x4], .int i :: st, a, h) := Rn_go c185_22 rfl
theorem c185_23 : mcode 185 23 = some (.iload_n 2, 1, 0, 0, 0) := rfl
theorem r185_23 : Rn 185 (23, [x0, x1, some (.int i), x3, x4], st, a, h) = Rn 185 (24, [x0, x1, some (.int i), x3, x4], .int i :: st, a, h) := Rn_go c185_23 rfl
theorem c185_24 : mcode 185 24 = some (.iload_n 3, 1, 0, 0, 0) := rfl
theorem r185_24 : Rn 185 (24, [x0, x1, x2, some (.int i), x4], st, a, h) = Rn 185 (25, [x0, x1, x2, some (.int i), x4], .int i :: st, a, h) := Rn_go c185_24 rfl
theorem c185_25 : mcode 185 25 = some (.invokevirtual 201, 3, 183, 3, 6) := rfl
theorem r185_25 : Rn 185 (25, [x0, x1, x2, x3, x4], [v2, v1, v0, .ref q], a, h) = if mis h q 6 = true then Bk 185 28 [x0, x1, x2, x3, x4] [] (Ec 183 [.ref q, v0, v1, v2] a h) else none := Rn_call1 c185_25 rfl (Nat.le_of_ble_eq_true rfl) rfl rfl (Nat.le_of_ble_eq_true rfl)
theorem c185_28 : mcode 185 28 = some (.aload_n 0, 1, 0, 0, 0) := rfl
theorem r185_28 : Rn 185 (28, [some (.ref q), x1, x2, x3, x4], st, a, h) = Rn 185 (29, [some (.ref q), x1, x2, x3, x4], .ref q :: st, a, h) := Rn_go c185_28 rfl
theorem c185_29 : mcode 185 29 = some (.getfield 183, 3, 6, 11, 0) := rfl
theorem r185_29 : Rn 185 (29, [x0, x1, x2, x3, x4], .ref q :: st, a, h) = Kv 185 32 [x0, x1, x2, x3, x4] st a h (mgf h q 6 11) := Rn_getf c185_29 rfl
theorem c185_32 : mcode 185 32 = some (.ireturn, 1, 0, 0, 0) := rfl
theorem r185_32 : Rn 185 (32, [x0, x1, x2, x3, x4], [.int i], a, h) = some (some (.int i), a, h) := Rn_ireti c185_32
theorem c186_0 : mcode 186 0 = some (.aload_n 0, 1, 0, 0, 0) := rfl
theorem r186_0 : Rn 186 (0, [some (.ref q), x1, x2, x3, x4], st, a, h) = Rn 186 (1, [some (.ref q), x1, x2, x3, x4], .ref q :: st, a, h) := Rn_go c186_0 rfl
theorem c186_1 : mcode 186 1 = some (.iload_n 1, 1, 0, 0, 0) := rfl
theorem r186_1 : Rn 186 (1, [x0, some (.int i), x2, x3, x4], st, a, h) = Rn 186 (2, [x0, some (.int i), x2, x3, x4], .int i :: st, a, h) := Rn_go c186_1 rfl
theorem c186_2 : mcode 186 2 = some (.iload_n 2, 1, 0, 0, 0) := rfl
theorem r186_2 : Rn 186 (2, [x0, x1, some (.int i), x3, x4], st, a, h) = Rn 186 (3, [x0, x1, some (.int i), x3, x4], .int i :: st, a, h) := Rn_go c186_2 rfl
theorem c186_3 : mcode 186 3 = some (.iload_n 3, 1, 0, 0, 0) := rfl
theorem r186_3 : Rn 186 (3, [x0, x1, x2, some (.int i), x4], st, a, h) = Rn 186 (4, [x0, x1, x2, some (.int i), x4], .int i :: st, a, h) := Rn_go c186_3 rfl
theorem c186_4 : mcode 186 4 = some (.invokevirtual 197, 3, 184, 3, 6) := rfl
theorem r186_4 : Rn 186 (4, [x0, x1, x2, x3, x4], [v2, v1, v0, .ref q], a, h) = if mis h q 6 = true then Bk 186 7 [x0, x1, x2, x3, x4] [] (Ec 184 [.ref q, v0, v1, v2] a h) else none := Rn_call1 c186_4 rfl (Nat.le_of_ble_eq_true rfl) rfl rfl (Nat.le_of_ble_eq_true rfl)
theorem c186_7 : mcode 186 7 = some (.istore 4, 2, 0, 0, 0) := rfl
theorem r186_7 : Rn 186 (7, [x0, x1, x2, x3, x4], .int i :: st, a, h) = Nl x3 (Rn 186 (9, [x0, x1, x2, x3, some (.int i)], st, a, h)) := Rn_st1 (k := 4) (v := .int i) x3 c186_7 rfl rfl rfl rfl
theorem c186_9 : mcode 186 9 = some (.iload 4, 2, 0, 0, 0) := rfl
theorem r186_9 : Rn 186 (9, [x0, x1, x2, x3, some (.int i)], st, a, h) = Rn 186 (11, [x0, x1, x2, x3, some (.int i)], .int i :: st, a, h) := Rn_go c186_9 rfl
theorem c186_11 : mcode 186 11 = some (.ifCond .eq 10, 3, 0, 0, 0) := rfl
theorem r186_11 : Rn 186 (11, [x0, x1, x2, x3, x4], .int i :: st, a, h) = if i = 0 then Rn 186 (21, [x0, x1, x2, x3, x4], st, a, h) else Rn 186 (14, [x0, x1, x2, x3, x4], st, a, h) := Rn_ifc c186_11 mc_eq rfl rfl
theorem c186_14 : mcode 186 14 = some (.aload_n 0, 1, 0, 0, 0) := rfl
theorem r186_14 : Rn 186 (14, [some (.ref q), x1, x2, x3, x4], st, a, h) = Rn 186 (15, [some (.ref q), x1, x2, x3, x4], .ref q :: st, a, h) := Rn_go c186_14 rfl
theorem c186_15 : mcode 186 15 = some (.iload 4, 2, 0, 0, 0) := rfl
theorem r186_15 : Rn 186 (15, [x0, x1, x2, x3, some (.int i)], st, a, h) = Rn 186 (17, [x0, x1, x2, x3, some (.int i)], .int i :: st, a, h) := Rn_go c186_15 rfl
theorem c186_17 : mcode 186 17 = some (.invokevirtual 39, 3, 125, 1, 6) := rfl
theorem r186_17 : Rn 186 (17, [x0, x1, x2, x3, x4], [v0, .ref q], a, h) = if mis h q 6 = true then Bk 186 20 [x0, x1, x2, x3, x4] [] (Ec 125 [.ref q, v0] a h) else none := Rn_call1 c186_17 rfl (Nat.le_of_ble_eq_true rfl) rfl rfl (Nat.le_of_ble_eq_true rfl)
theorem c186_20 : mcode 186 20 = some (.ireturn, 1, 0, 0, 0) := rfl
theorem r186_20 : Rn 186 (20, [x0, x1, x2, x3, x4], [.int i], a, h) = some (some (.int i), a, h) := Rn_ireti c186_20
theorem c186_21 : mcode 186 21 = some (.aload_n 0, 1, 0, 0, 0) := rfl
theorem r186_21 : Rn 186 (21, [some (.ref q), x1, x2, x3, x4], st, a, h) = Rn 186 (22, [some (.ref q), x1, x2, x3, x4], .ref q :: st, a, h) := Rn_go c186_21 rfl
theorem c186_22 : mcode 186 22 = some (.iload_n 1, 1, 0, 0, 0) := rfl
theorem r186_22 : Rn 186 (22, [x0, some (.int i), x2, x3, x4], st, a, h) = Rn 186 (23, [x0, some (.int i), x2, x3, x4], .int i :: st, a, h) := Rn_go c186_22 rfl
theorem c186_23 : mcode 186 23 = some (.iload_n 2, 1, 0, 0, 0) := rfl
theorem r186_23 : Rn 186 (23, [x0, x1, some (.int i), x3, x4], st, a, h) = Rn 186 (24, [x0, x1, some (.int i), x3, x4], .int i :: st, a, h) := Rn_go c186_23 rfl
theorem c186_24 : mcode 186 24 = some (.iload_n 3, 1, 0, 0, 0) := rfl
theorem r186_24 : Rn 186 (24, [x0, x1, x2, some (.int i), x4], st, a, h) = Rn 186 (25, [x0, x1, x2, some (.int i), x4], .int i :: st, a, h) := Rn_go c186_24 rfl
theorem c186_25 : mcode 186 25 = some (.invokevirtual 201, 3, 183, 3, 6) := rfl
theorem r186_25 : Rn 186 (25, [x0, x1, x2, x3, x4], [v2, v1, v0, .ref q], a, h) = if mis h q 6 = true then Bk 186 28 [x0, x1, x2, x3, x4] [] (Ec 183 [.ref q, v0, v1, v2] a h) else none := Rn_call1 c186_25 rfl (Nat.le_of_ble_eq_true rfl) rfl rfl (Nat.le_of_ble_eq_true rfl)
theorem c186_28 : mcode 186 28 = some (.aload_n 0, 1, 0, 0, 0) := rfl
theorem r186_28 : Rn 186 (28, [some (.ref q), x1, x2, x3, x4], st, a, h) = Rn 186 (29, [some (.ref q), x1, x2, x3, x4], .ref q :: st, a, h) := Rn_go c186_28 rfl
theorem c186_29 : mcode 186 29 = some (.getfield 183, 3, 6, 11, 0) := rfl
theorem r186_29 : Rn 186 (29, [x0, x1, x2, x3, x4], .ref q :: st, a, h) = Kv 186 32 [x0, x1, x2, x3, x4] st a h (mgf h q 6 11) := Rn_getf c186_29 rfl
theorem c186_32 : mcode 186 32 = some (.ifCond .le 10, 3, 0, 0, 0) := rfl
theorem r186_32 : Rn 186 (32, [x0, x1, x2, x3, x4], .int i :: st, a, h) = if 0 < i then Rn 186 (35, [x0, x1, x2, x3, x4], st, a, h) else Rn 186 (42, [x0, x1, x2, x3, x4], st, a, h) := Rn_ifcn c186_32 mc_le rfl rfl
theorem c186_35 : mcode 186 35 = some (.aload_n 0, 1, 0, 0, 0) := rfl
theorem r186_35 : Rn 186 (35, [some (.ref q), x1, x2, x3, x4], st, a, h) = Rn 186 (36, [some (.ref q), x1, x2, x3, x4], .ref q :: st, a, h) := Rn_go c186_35 rfl
theorem c186_36 : mcode 186 36 = some (.getfield 191, 3, 6, 12, 0) := rfl
theorem r186_36 : Rn 186 (36, [x0, x1, x2, x3, x4], .ref q :: st, a, h) = Kv 186 39 [x0, x1, x2, x3, x4] st a h (mgf h q 6 12) := Rn_getf c186_36 rfl
theorem c186_39 : mcode 186 39 = some (.goto 9, 3, 0, 0, 0) := rfl
theorem r186_39 : Rn 186 (39, [x0, x1, x2, x3, x4], st, a, h) = Rn 186 (48, [x0, x1, x2, x3, x4], st, a, h) := Rn_goto c186_39 rfl
theorem c186_42 : mcode 186 42 = some (.aload_n 0, 1, 0, 0, 0) := rfl
theorem r186_42 : Rn 186 (42, [some (.ref q), x1, x2, x3, x4], st, a, h) = Rn 186 (43, [some (.ref q), x1, x2, x3, x4], .ref q :: st, a, h) := Rn_go c186_42 rfl
theorem c186_43 : mcode 186 43 = some (.ldc 38, 2, 0, 0, -1000004) := rfl
theorem r186_43 : Rn 186 (43, [x0, x1, x2, x3, x4], st, a, h) = Rn 186 (45, [x0, x1, x2, x3, x4], .int (-1000004 : Int32) :: st, a, h) := Rn_go c186_43 rfl
theorem c186_45 : mcode 186 45 = some (.invokevirtual 39, 3, 125, 1, 6) := rfl
theorem r186_45 : Rn 186 (45, [x0, x1, x2, x3, x4], [v0, .ref q], a, h) = if mis h q 6 = true then Bk 186 48 [x0, x1, x2, x3, x4] [] (Ec 125 [.ref q, v0] a h) else none := Rn_call1 c186_45 rfl (Nat.le_of_ble_eq_true rfl) rfl rfl (Nat.le_of_ble_eq_true rfl)
theorem c186_48 : mcode 186 48 = some (.ireturn, 1, 0, 0, 0) := rfl
theorem r186_48 : Rn 186 (48, [x0, x1, x2, x3, x4], [.int i], a, h) = some (some (.int i), a, h) := Rn_ireti c186_48
theorem c187_0 : mcode 187 0 = some (.aload_n 0, 1, 0, 0, 0) := rfl
theorem r187_0 : Rn 187 (0, [some (.ref q), x1, x2, x3, x4, x5, x6], st, a, h) = Rn 187 (1, [some (.ref q), x1, x2, x3, x4, x5, x6], .ref q :: st, a, h) := Rn_go c187_0 rfl
theorem c187_1 : mcode 187 1 = some (.iload_n 1, 1, 0, 0, 0) := rfl
theorem r187_1 : Rn 187 (1, [x0, some (.int i), x2, x3, x4, x5, x6], st, a, h) = Rn 187 (2, [x0, some (.int i), x2, x3, x4, x5, x6], .int i :: st, a, h) := Rn_go c187_1 rfl
theorem c187_2 : mcode 187 2 = some (.iload_n 2, 1, 0, 0, 0) := rfl
theorem r187_2 : Rn 187 (2, [x0, x1, some (.int i), x3, x4, x5, x6], st, a, h) = Rn 187 (3, [x0, x1, some (.int i), x3, x4, x5, x6], .int i :: st, a, h) := Rn_go c187_2 rfl
theorem c187_3 : mcode 187 3 = some (.iconst 0, 1, 0, 0, 0) := rfl
theorem r187_3 : Rn 187 (3, [x0, x1, x2, x3, x4, x5, x6], st, a, h) = Rn 187 (4, [x0, x1, x2, x3, x4, x5, x6], .int (0 : Int32) :: st, a, h) := Rn_go c187_3 rfl
theorem c187_4 : mcode 187 4 = some (.invokevirtual 197, 3, 184, 3, 6) := rfl
theorem r187_4 : Rn 187 (4, [x0, x1, x2, x3, x4, x5, x6], [v2, v1, v0, .ref q], a, h) = if mis h q 6 = true then Bk 187 7 [x0, x1, x2, x3, x4, x5, x6] [] (Ec 184 [.ref q, v0, v1, v2] a h) else none := Rn_call1 c187_4 rfl (Nat.le_of_ble_eq_true rfl) rfl rfl (Nat.le_of_ble_eq_true rfl)
theorem c187_7 : mcode 187 7 = some (.istore_n 3, 1, 0, 0, 0) := rfl
theorem r187_7 : Rn 187 (7, [x0, x1, x2, x3, x4, x5, x6], .int i :: st, a, h) = Nl x2 (Rn 187 (8, [x0, x1, x2, some (.int i), x4, x5, x6], st, a, h)) := Rn_st1 (k := 3) (v := .int i) x2 c187_7 rfl rfl rfl rfl
theorem c187_8 : mcode 187 8 = some (.iload_n 3, 1, 0, 0, 0) := rfl
theorem r187_8 : Rn 187 (8, [x0, x1, x2, some (.int i), x4, x5, x6], st, a, h) = Rn 187 (9, [x0, x1, x2, some (.int i), x4, x5, x6], .int i :: st, a, h) := Rn_go c187_8 rfl
theorem c187_9 : mcode 187 9 = some (.ifCond .eq 9, 3, 0, 0, 0) := rfl
theorem r187_9 : Rn 187 (9, [x0, x1, x2, x3, x4, x5, x6], .int i :: st, a, h) = if i = 0 then Rn 187 (18, [x0, x1, x2, x3, x4, x5, x6], st, a, h) else Rn 187 (12, [x0, x1, x2, x3, x4, x5, x6], st, a, h) := Rn_ifc c187_9 mc_eq rfl rfl
theorem c187_12 : mcode 187 12 = some (.aload_n 0, 1, 0, 0, 0) := rfl
theorem r187_12 : Rn 187 (12, [some (.ref q), x1, x2, x3, x4, x5, x6], st, a, h) = Rn 187 (13, [some (.ref q), x1, x2, x3, x4, x5, x6], .ref q :: st, a, h) := Rn_go c187_12 rfl
theorem c187_13 : mcode 187 13 = some (.iload_n 3, 1, 0, 0, 0) := rfl
theorem r187_13 : Rn 187 (13, [x0, x1, x2, some (.int i), x4, x5, x6], st, a, h) = Rn 187 (14, [x0, x1, x2, some (.int i), x4, x5, x6], .int i :: st, a, h) := Rn_go c187_13 rfl
theorem c187_14 : mcode 187 14 = some (.invokevirtual 39, 3, 125, 1, 6) := rfl
theorem r187_14 : Rn 187 (14, [x0, x1, x2, x3, x4, x5, x6], [v0, .ref q], a, h) = if mis h q 6 = true then Bk 187 17 [x0, x1, x2, x3, x4, x5, x6] [] (Ec 125 [.ref q, v0] a h) else none := Rn_call1 c187_14 rfl (Nat.le_of_ble_eq_true rfl) rfl rfl (Nat.le_of_ble_eq_true rfl)
theorem c187_17 : mcode 187 17 = some (.ireturn, 1, 0, 0, 0) := rfl
theorem r187_17 : Rn 187 (17, [x0, x1, x2, x3, x4, x5, x6], [.int i], a, h) = some (some (.int i), a, h) := Rn_ireti c187_17
theorem c187_18 : mcode 187 18 = some (.aload_n 0, 1, 0, 0, 0) := rfl
theorem r187_18 : Rn 187 (18, [some (.ref q), x1, x2, x3, x4, x5, x6], st, a, h) = Rn 187 (19, [some (.ref q), x1, x2, x3, x4, x5, x6], .ref q :: st, a, h) := Rn_go c187_18 rfl
theorem c187_19 : mcode 187 19 = some (.iload_n 2, 1, 0, 0, 0) := rfl
theorem r187_19 : Rn 187 (19, [x0, x1, some (.int i), x3, x4, x5, x6], st, a, h) = Rn 187 (20, [x0, x1, some (.int i), x3, x4, x5, x6], .int i :: st, a, h) := Rn_go c187_19 rfl
theorem c187_20 : mcode 187 20 = some (.iconst 0, 1, 0, 0, 0) := rfl
theorem r187_20 : Rn 187 (20, [x0, x1, x2, x3, x4, x5, x6], st, a, h) = Rn 187 (21, [x0, x1, x2, x3, x4, x5, x6], .int (0 : Int32) :: st, a, h) := Rn_go c187_20 rfl
theorem c187_21 : mcode 187 21 = some (.invokevirtual 63, 3, 132, 2, 6) := rfl
theorem r187_21 : Rn 187 (21, [x0, x1, x2, x3, x4, x5, x6], [v1, v0, .ref q], a, h) = if mis h q 6 = true then Bk 187 24 [x0, x1, x2, x3, x4, x5, x6] [] (Ec 132 [.ref q, v0, v1] a h) else none := Rn_call1 c187_21 rfl (Nat.le_of_ble_eq_true rfl) rfl rfl (Nat.le_of_ble_eq_true rfl)
theorem c187_24 : mcode 187 24 = some (.istore 4, 2, 0, 0, 0) := rfl
theorem r187_24 : Rn 187 (24, [x0, x1, x2, x3, x4, x5, x6], .int i :: st, a, h) = Nl x3 (Rn 187 (26, [x0, x1, x2, x3, some (.int i), x5, x6], st, a, h)) := Rn_st1 (k := 4) (v := .int i) x3 c187_24 rfl rfl rfl rfl
theorem c187_26 : mcode 187 26 = some (.iconst 0, 1, 0, 0, 0) := rfl
theorem r187_26 : Rn 187 (26, [x0, x1, x2, x3, x4, x5, x6], st, a, h) = Rn 187 (27, [x0, x1, x2, x3, x4, x5, x6], .int (0 : Int32) :: st, a, h) := Rn_go c187_26 rfl
theorem c187_27 : mcode 187 27 = some (.istore 5, 2, 0, 0, 0) := rfl
theorem r187_27 : Rn 187 (27, [x0, x1, x2, x3, x4, x5, x6], .int i :: st, a, h) = Nl x4 (Rn 187 (29, [x0, x1, x2, x3, x4, some (.int i), x6], st, a, h)) := Rn_st1 (k := 5) (v := .int i) x4 c187_27 rfl rfl rfl rfl
theorem c187_29 : mcode 187 29 = some (.iconst 0, 1, 0, 0, 0) := rfl
theorem r187_29 : Rn 187 (29, [x0, x1, x2, x3, x4, x5, x6], st, a, h) = Rn 187 (30, [x0, x1, x2, x3, x4, x5, x6], .int (0 : Int32) :: st, a, h) := Rn_go c187_29 rfl
theorem c187_30 : mcode 187 30 = some (.istore 6, 2, 0, 0, 0) := rfl
theorem r187_30 : Rn 187 (30, [x0, x1, x2, x3, x4, x5, x6], .int i :: st, a, h) = Nl x5 (Rn 187 (32, [x0, x1, x2, x3, x4, x5, some (.int i)], st, a, h)) := Rn_st1 (k := 6) (v := .int i) x5 c187_30 rfl rfl rfl rfl
theorem c187_32 : mcode 187 32 = some (.iload 6, 2, 0, 0, 0) := rfl
theorem r187_32 : Rn 187 (32, [x0, x1, x2, x3, x4, x5, some (.int i)], st, a, h) = Rn 187 (34, [x0, x1, x2, x3, x4, x5, some (.int i)], .int i :: st, a, h) := Rn_go c187_32 rfl
theorem c187_34 : mcode 187 34 = some (.bipush 6, 2, 0, 0, 0) := rfl
theorem r187_34 : Rn 187 (34, [x0, x1, x2, x3, x4, x5, x6], st, a, h) = Rn 187 (36, [x0, x1, x2, x3, x4, x5, x6], .int (6 : Int32) :: st, a, h) := Rn_go c187_34 rfl
theorem c187_36 : mcode 187 36 = some (.if_icmp .gt 47, 3, 0, 0, 0) := rfl
theorem r187_36 : Rn 187 (36, [x0, x1, x2, x3, x4, x5, x6], .int j :: .int i :: st, a, h) = if j < i then Rn 187 (83, [x0, x1, x2, x3, x4, x5, x6], st, a, h) else Rn 187 (39, [x0, x1, x2, x3, x4, x5, x6], st, a, h) := Rn_icmp c187_36 mc_gt rfl rfl
theorem c187_39 : mcode 187 39 = some (.aload_n 0, 1, 0, 0, 0) := rfl
theorem r187_39 : Rn 187 (39, [some (.ref q), x1, x2, x3, x4, x5, x6], st, a, h) = Rn 187 (40, [some (.ref q), x1, x2, x3, x4, x5, x6], .ref q :: st, a, h) := Rn_go c187_39 rfl
theorem c187_40 : mcode 187 40 = some (.getfield 7, 3, 6, 0, 0) := rfl
theorem r187_40 : Rn 187 (40, [x0, x1, x2, x3, x4, x5, x6], .ref q :: st, a, h) = Kv 187 43 [x0, x1, x2, x3, x4, x5, x6] st a h (mgf h q 6 0) := Rn_getf c187_40 rfl
theorem c187_43 : mcode 187 43 = some (.iload_n 2, 1, 0, 0, 0) := rfl
theorem r187_43 : Rn 187 (43, [x0, x1, some (.int i), x3, x4, x5, x6], st, a, h) = Rn 187 (44, [x0, x1, some (.int i), x3, x4, x5, x6], .int i :: st, a, h) := Rn_go c187_43 rfl
theorem c187_44 : mcode 187 44 = some (.iconst 0, 1, 0, 0, 0) := rfl
theorem r187_44 : Rn 187 (44, [x0, x1, x2, x3, x4, x5, x6], st, a, h) = Rn 187 (45, [x0, x1, x2, x3, x4, x5, x6], .int (0 : Int32) :: st, a, h) := Rn_go c187_44 rfl
theorem c187_45 : mcode 187 45 = some (.invokestatic 79, 3, 131, 2, 0) := rfl
theorem r187_45 : Rn 187 (45, [x0, x1, x2, x3, x4, x5, x6], [v1, v0, .ref q0], a, h) = Bk 187 48 [x0, x1, x2, x3, x4, x5, x6] [.ref q0] (Ec 131 [v0, v1] a h) := Rn_call0 c187_45 (fun z => nomatch z) rfl (Nat.le_of_ble_eq_true rfl) rfl rfl (Nat.le_of_ble_eq_true rfl)
theorem c187_48 : mcode 187 48 = some (.iload 6, 2, 0, 0, 0) := rfl
theorem r187_48 : Rn 187 (48, [x0, x1, x2, x3, x4, x5, some (.int i)], st, a, h) = Rn 187 (50, [x0, x1, x2, x3, x4, x5, some (.int i)], .int i :: st, a, h) := Rn_go c187_48 rfl
theorem c187_50 : mcode 187 50 = some (.iastore, 1, 0, 0, 0) := rfl
theorem r187_50 : Rn 187 (50, [x0, x1, x2, x3, x4, x5, x6], .int j :: .int i :: .ref q :: st, a, h) = Kh 187 51 [x0, x1, x2, x3, x4, x5, x6] st a (mias h q i j) := Rn_iast c187_50 rfl
theorem c187_51 : mcode 187 51 = some (.iload 5, 2, 0, 0, 0) := rfl
theorem r187_51 : Rn 187 (51, [x0, x1, x2, x3, x4, some (.int i), x6], st, a, h) = Rn 187 (53, [x0, x1, x2, x3, x4, some (.int i), x6], .int i :: st, a, h) := Rn_go c187_51 rfl
theorem c187_53 : mcode 187 53 = some (.aload_n 0, 1, 0, 0, 0) := rfl
theorem r187_53 : Rn 187 (53, [some (.ref q), x1, x2, x3, x4, x5, x6], st, a, h) = Rn 187 (54, [some (.ref q), x1, x2, x3, x4, x5, x6], .ref q :: st, a, h) := Rn_go c187_53 rfl
theorem c187_54 : mcode 187 54 = some (.iload_n 1, 1, 0, 0, 0) := rfl
theorem r187_54 : Rn 187 (54, [x0, some (.int i), x2, x3, x4, x5, x6], st, a, h) = Rn 187 (55, [x0, some (.int i), x2, x3, x4, x5, x6], .int i :: st, a, h) := Rn_go c187_54 rfl
theorem c187_55 : mcode 187 55 = some (.iload_n 2, 1, 0, 0, 0) := rfl
theorem r187_55 : Rn 187 (55, [x0, x1, some (.int i), x3, x4, x5, x6], st, a, h) = Rn 187 (56, [x0, x1, some (.int i), x3, x4, x5, x6], .int i :: st, a, h) := Rn_go c187_55 rfl
theorem c187_56 : mcode 187 56 = some (.iconst 1, 1, 0, 0, 0) := rfl
theorem r187_56 : Rn 187 (56, [x0, x1, x2, x3, x4, x5, x6], st, a, h) = Rn 187 (57, [x0, x1, x2, x3, x4, x5, x6], .int (1 : Int32) :: st, a, h) := Rn_go c187_56 rfl
theorem c187_57 : mcode 187 57 = some (.invokestatic 79, 3, 131, 2, 0) := rfl
theorem r187_57 : Rn 187 (57, [x0, x1, x2, x3, x4, x5, x6], [v1, v0, .int i0, .ref q1, .int i2], a, h) = Bk 187 60 [x0, x1, x2, x3, x4, x5, x6] [.int i0, .ref q1, .int i2] (Ec 131 [v0, v1] a h) := Rn_call0 c187_57 (fun z => nomatch z) rfl (Nat.le_of_ble_eq_true rfl) rfl rfl (Nat.le_of_ble_eq_true rfl)
theorem c187_60 : mcode 187 60 = some (.invokevirtual 187, 3, 182, 2, 6) := rfl
theorem r187_60 : Rn 187 (60, [x0, x1, x2, x3, x4, x5, x6], [v1, v0, .ref q, .int i0], a, h) = if mis h q 6 = true then Bk 187 63 [x0, x1, x2, x3, x4, x5, x6] [.int i0] (Ec 182 [.ref q, v0, v1] a h) else none := Rn_call1 c187_60 rfl (Nat.le_of_ble_eq_true rfl) rfl rfl (Nat.le_of_ble_eq_true rfl)
theorem c187_63 : mcode 187 63 = some (.ifCond .eq 10, 3, 0, 0, 0) := rfl
theorem r187_63 : Rn 187 (63, [x0, x1, x2, x3, x4, x5, x6], .int i :: st, a, h) = if i = 0 then Rn 187 (73, [x0, x1, x2, x3, x4, x5, x6], st, a, h) else Rn 187 (66, [x0, x1, x2, x3, x4, x5, x6], st, a, h) := Rn_ifc c187_63 mc_eq rfl rfl
theorem c187_66 : mcode 187 66 = some (.iconst 1, 1, 0, 0, 0) := rfl
theorem r187_66 : Rn 187 (66, [x0, x1, x2, x3, x4, x5, x6], st, a, h) = Rn 187 (67, [x0, x1, x2, x3, x4, x5, x6], .int (1 : Int32) :: st, a, h) := Rn_go c187_66 rfl
theorem c187_67 : mcode 187 67 = some (.iload 6, 2, 0, 0, 0) := rfl
theorem r187_67 : Rn 187 (67, [x0, x1, x2, x3, x4, x5, some (.int i)], st, a, h) = Rn 187 (69, [x0, x1, x2, x3, x4, x5, some (.int i)], .int i :: st, a, h) := Rn_go c187_67 rfl
theorem c187_69 : mcode 187 69 = some (.ishl, 1, 0, 0, 0) := rfl
theorem r187_69 : Rn 187 (69, [x0, x1, x2, x3, x4, x5, x6], .int j :: .int i :: st, a, h) = Rn 187 (70, [x0, x1, x2, x3, x4, x5, x6], .int (i <<< (j &&& 31)) :: st, a, h) := Rn_go c187_69 rfl
theorem c187_70 : mcode 187 70 = some (.goto 4, 3, 0, 0, 0) := rfl
theorem r187_70 : Rn 187 (70, [x0, x1, x2, x3, x4, x5, x6], st, a, h) = Rn 187 (74, [x0, x1, x2, x3, x4, x5, x6], st, a, h) := Rn_goto c187_70 rfl
theorem c187_73 : mcode 187 73 = some (.iconst 0, 1, 0, 0, 0) := rfl
theorem r187_73 : Rn 187 (73, [x0, x1, x2, x3, x4, x5, x6], st, a, h) = Rn 187 (74, [x0, x1, x2, x3, x4, x5, x6], .int (0 : Int32) :: st, a, h) := Rn_go c187_73 rfl
theorem c187_74 : mcode 187 74 = some (.ior, 1, 0, 0, 0) := rfl
theorem r187_74 : Rn 187 (74, [x0, x1, x2, x3, x4, x5, x6], .int j :: .int i :: st, a, h) = Rn 187 (75, [x0, x1, x2, x3, x4, x5, x6], .int (i ||| j) :: st, a, h) := Rn_go c187_74 rfl
theorem c187_75 : mcode 187 75 = some (.istore 5, 2, 0, 0, 0) := rfl
theorem r187_75 : Rn 187 (75, [x0, x1, x2, x3, x4, x5, x6], .int i :: st, a, h) = Nl x4 (Rn 187 (77, [x0, x1, x2, x3, x4, some (.int i), x6], st, a, h)) := Rn_st1 (k := 5) (v := .int i) x4 c187_75 rfl rfl rfl rfl
theorem c187_77 : mcode 187 77 = some (.iinc 6 1, 3, 0, 0, 0) := rfl
theorem r187_77 : Rn 187 (77, [x0, x1, x2, x3, x4, x5, some (.int i)], st, a, h) = Nl x5 (Rn 187 (80, [x0, x1, x2, x3, x4, x5, some (.int (i + (1 : Int32)))], st, a, h)) := Rn_st1 (k := 6) (v := .int (i + (1 : Int32))) x5 c187_77 rfl rfl rfl rfl
theorem c187_80 : mcode 187 80 = some (.goto (-48), 3, 0, 0, 0) := rfl
theorem r187_80 : Rn 187 (80, [x0, x1, x2, x3, x4, x5, x6], st, a, h) = Rn 187 (32, [x0, x1, x2, x3, x4, x5, x6], st, a, h) := Rn_goto c187_80 rfl
theorem c187_83 : mcode 187 83 = some (.aload_n 0, 1, 0, 0, 0) := rfl
theorem r187_83 : Rn 187 (83, [some (.ref q), x1, x2, x3, x4, x5, x6], st, a, h) = Rn 187 (84, [some (.ref q), x1, x2, x3, x4, x5, x6], .ref q :: st, a, h) := Rn_go c187_83 rfl
theorem c187_84 : mcode 187 84 = some (.getfield 7, 3, 6, 0, 0) := rfl
theorem r187_84 : Rn 187 (84, [x0, x1, x2, x3, x4, x5, x6], .ref q :: st, a, h) = Kv 187 87 [x0, x1, x2, x3, x4, x5, x6] st a h (mgf h q 6 0) := Rn_getf c187_84 rfl
theorem c187_87 : mcode 187 87 = some (.iload_n 2, 1, 0, 0, 0) := rfl
theorem r187_87 : Rn 187 (87, [x0, x1, some (.int i), x3, x4, x5, x6], st, a, h) = Rn 187 (88, [x0, x1, some (.int i), x3, x4, x5, x6], .int i :: st, a, h) := Rn_go c187_87 rfl
theorem c187_88 : mcode 187 88 = some (.iconst 0, 1, 0, 0, 0) := rfl
theorem r187_88 : Rn 187 (88, [x0, x1, x2, x3, x4, x5, x6], st, a, h) = Rn 187 (89, [x0, x1, x2, x3, x4, x5, x6], .int (0 : Int32) :: st, a, h) := Rn_go c187_88 rfl
theorem c187_89 : mcode 187 89 = some (.invokestatic 79, 3, 131, 2, 0) := rfl
theorem r187_89 : Rn 187 (89, [x0, x1, x2, x3, x4, x5, x6], [v1, v0, .ref q0], a, h) = Bk 187 92 [x0, x1, x2, x3, x4, x5, x6] [.ref q0] (Ec 131 [v0, v1] a h) := Rn_call0 c187_89 (fun z => nomatch z) rfl (Nat.le_of_ble_eq_true rfl) rfl rfl (Nat.le_of_ble_eq_true rfl)
theorem c187_92 : mcode 187 92 = some (.iload 4, 2, 0, 0, 0) := rfl
theorem r187_92 : Rn 187 (92, [x0, x1, x2, x3, some (.int i), x5, x6], st, a, h) = Rn 187 (94, [x0, x1, x2, x3, some (.int i), x5, x6], .int i :: st, a, h) := Rn_go c187_92 rfl
theorem c187_94 : mcode 187 94 = some (.iastore, 1, 0, 0, 0) := rfl
theorem r187_94 : Rn 187 (94, [x0, x1, x2, x3, x4, x5, x6], .int j :: .int i :: .ref q :: st, a, h) = Kh 187 95 [x0, x1, x2, x3, x4, x5, x6] st a (mias h q i j) := Rn_iast c187_94 rfl
theorem c187_95 : mcode 187 95 = some (.iload 5, 2, 0, 0, 0) := rfl
theorem r187_95 : Rn 187 (95, [x0, x1, x2, x3, x4, some (.int i), x6], st, a, h) = Rn 187 (97, [x0, x1, x2, x3, x4, some (.int i), x6], .int i :: st, a, h) := Rn_go c187_95 rfl
theorem c187_97 : mcode 187 97 = some (.ireturn, 1, 0, 0, 0) := rfl
theorem r187_97 : Rn 187 (97, [x0, x1, x2, x3, x4, x5, x6], [.int i], a, h) = some (some (.int i), a, h) := Rn_ireti c187_97
theorem c188_0 : mcode 188 0 = some (.aload_n 0, 1, 0, 0, 0) := rfl
theorem r188_0 : Rn 188 (0, [some (.ref q)], st, a, h) = Rn 188 (1, [some (.ref q)], .ref q :: st, a, h) := Rn_go c188_0 rfl
theorem c188_1 : mcode 188 1 = some (.getfield 7, 3, 6, 0, 0) := rfl
theorem r188_1 : Rn 188 (1, [x0], .ref q :: st, a, h) = Kv 188 4 [x0] st a h (mgf h q 6 0) := Rn_getf c188_1 rfl
theorem c188_4 : mcode 188 4 = some (.iconst 2, 1, 0, 0, 0) := rfl
theorem r188_4 : Rn 188 (4, [x0], st, a, h) = Rn 188 (5, [x0], .int (2 : Int32) :: st, a, h) := Rn_go c188_4 rfl
theorem c188_5 : mcode 188 5 = some (.aload_n 0, 1, 0, 0, 0) := rfl
theorem r188_5 : Rn 188 (5, [some (.ref q)], st, a, h) = Rn 188 (6, [some (.ref q)], .ref q :: st, a, h) := Rn_go c188_5 rfl
theorem c188_6 : mcode 188 6 = some (.getfield 7, 3, 6, 0, 0) := rfl
theorem r188_6 : Rn 188 (6, [x0], .ref q :: st, a, h) = Kv 188 9 [x0] st a h (mgf h q 6 0) := Rn_getf c188_6 rfl
theorem c188_9 : mcode 188 9 = some (.iconst 2, 1, 0, 0, 0) := rfl
theorem r188_9 : Rn 188 (9, [x0], st, a, h) = Rn 188 (10, [x0], .int (2 : Int32) :: st, a, h) := Rn_go c188_9 rfl
theorem c188_10 : mcode 188 10 = some (.iaload, 1, 0, 0, 0) := rfl
theorem r188_10 : Rn 188 (10, [x0], .int i :: .ref q :: st, a, h) = Ki 188 11 [x0] st a h (mld h q i false) := Rn_iald c188_10 rfl
theorem c188_11 : mcode 188 11 = some (.ldc 205, 2, 0, 0, 1103515245) := rfl
theorem r188_11 : Rn 188 (11, [x0], st, a, h) = Rn 188 (13, [x0], .int (1103515245 : Int32) :: st, a, h) := Rn_go c188_11 rfl
theorem c188_13 : mcode 188 13 = some (.imul, 1, 0, 0, 0) := rfl
theorem r188_13 : Rn 188 (13, [x0], .int j :: .int i :: st, a, h) = Rn 188 (14, [x0], .int (i * j) :: st, a, h) := Rn_go c188_13 rfl
theorem c188_14 : mcode 188 14 = some (.sipush 12345, 3, 0, 0, 0) := rfl
theorem r188_14 : Rn 188 (14, [x0], st, a, h) = Rn 188 (17, [x0], .int (12345 : Int32) :: st, a, h) := Rn_go c188_14 rfl
theorem c188_17 : mcode 188 17 = some (.iadd, 1, 0, 0, 0) := rfl
theorem r188_17 : Rn 188 (17, [x0], .int j :: .int i :: st, a, h) = Rn 188 (18, [x0], .int (i + j) :: st, a, h) := Rn_go c188_17 rfl
theorem c188_18 : mcode 188 18 = some (.iastore, 1, 0, 0, 0) := rfl
theorem r188_18 : Rn 188 (18, [x0], .int j :: .int i :: .ref q :: st, a, h) = Kh 188 19 [x0] st a (mias h q i j) := Rn_iast c188_18 rfl
theorem c188_19 : mcode 188 19 = some (.aload_n 0, 1, 0, 0, 0) := rfl
theorem r188_19 : Rn 188 (19, [some (.ref q)], st, a, h) = Rn 188 (20, [some (.ref q)], .ref q :: st, a, h) := Rn_go c188_19 rfl
theorem c188_20 : mcode 188 20 = some (.getfield 7, 3, 6, 0, 0) := rfl
theorem r188_20 : Rn 188 (20, [x0], .ref q :: st, a, h) = Kv 188 23 [x0] st a h (mgf h q 6 0) := Rn_getf c188_20 rfl
theorem c188_23 : mcode 188 23 = some (.iconst 2, 1, 0, 0, 0) := rfl
theorem r188_23 : Rn 188 (23, [x0], st, a, h) = Rn 188 (24, [x0], .int (2 : Int32) :: st, a, h) := Rn_go c188_23 rfl
theorem c188_24 : mcode 188 24 = some (.iaload, 1, 0, 0, 0) := rfl
theorem r188_24 : Rn 188 (24, [x0], .int i :: .ref q :: st, a, h) = Ki 188 25 [x0] st a h (mld h q i false) := Rn_iald c188_24 rfl
theorem c188_25 : mcode 188 25 = some (.bipush 8, 2, 0, 0, 0) := rfl
theorem r188_25 : Rn 188 (25, [x0], st, a, h) = Rn 188 (27, [x0], .int (8 : Int32) :: st, a, h) := Rn_go c188_25 rfl
theorem c188_27 : mcode 188 27 = some (.iushr, 1, 0, 0, 0) := rfl
theorem r188_27 : Rn 188 (27, [x0], .int j :: .int i :: st, a, h) = Rn 188 (28, [x0], .int ((i.toUInt32 >>> (j.toUInt32 &&& Int32.toUInt32 31)).toInt32) :: st, a, h) := Rn_go c188_27 rfl
theorem c188_28 : mcode 188 28 = some (.ireturn, 1, 0, 0, 0) := rfl
theorem r188_28 : Rn 188 (28, [x0], [.int i], a, h) = some (some (.int i), a, h) := Rn_ireti c188_28
theorem c189_0 : mcode 189 0 = some (.iload_n 1, 1, 0, 0, 0) := rfl
theorem r189_0 : Rn 189 (0, [x0, some (.int i), x2, x3, x4], st, a, h) = Rn 189 (1, [x0, some (.int i), x2, x3, x4], .int i :: st, a, h) := Rn_go c189_0 rfl
theorem c189_1 : mcode 189 1 = some (.i2l, 1, 0, 0, 0) := rfl
theorem r189_1 : Rn 189 (1, [x0, x1, x2, x3, x4], .int i :: st, a, h) = Rn 189 (2, [x0, x1, x2, x3, x4], .long i.toInt64 :: st, a, h) := Rn_go c189_1 rfl
theorem c189_2 : mcode 189 2 = some (.lconst 1, 1, 0, 0, 0) := rfl
theorem r189_2 : Rn 189 (2, [x0, x1, x2, x3, x4], st, a, h) = Rn 189 (3, [x0, x1, x2, x3, x4], .long (1 : Int64) :: st, a, h) := Rn_go c189_2 rfl
theorem c189_3 : mcode 189 3 = some (.ldc2_w 181, 3, 0, 0, 20) := rfl
theorem r189_3 : Rn 189 (3, [x0, x1, x2, x3, x4], st, a, h) = Rn 189 (6, [x0, x1, x2, x3, x4], .long (20 : Int64) :: st, a, h) := Rn_go c189_3 rfl
theorem c189_6 : mcode 189 6 = some (.invokestatic 52, 3, 124, 3, 0) := rfl
theorem r189_6 : Rn 189 (6, [x0, x1, x2, x3, x4], [v2, v1, v0], a, h) = Bk 189 9 [x0, x1, x2, x3, x4] [] (Ec 124 [v0, v1, v2] a h) := Rn_call0 c189_6 (fun z => nomatch z) rfl (Nat.le_of_ble_eq_true rfl) rfl rfl (Nat.le_of_ble_eq_true rfl)
theorem c189_9 : mcode 189 9 = some (.ifCond .ne 10, 3, 0, 0, 0) := rfl
theorem r189_9 : Rn 189 (9, [x0, x1, x2, x3, x4], .int i :: st, a, h) = if i = 0 then Rn 189 (12, [x0, x1, x2, x3, x4], st, a, h) else Rn 189 (19, [x0, x1, x2, x3, x4], st, a, h) := Rn_ifcn c189_9 mc_ne rfl rfl
theorem c189_12 : mcode 189 12 = some (.aload_n 0, 1, 0, 0, 0) := rfl
theorem r189_12 : Rn 189 (12, [some (.ref q), x1, x2, x3, x4], st, a, h) = Rn 189 (13, [some (.ref q), x1, x2, x3, x4], .ref q :: st, a, h) := Rn_go c189_12 rfl
theorem c189_13 : mcode 189 13 = some (.ldc 37, 2, 0, 0, -1000001) := rfl
theorem r189_13 : Rn 189 (13, [x0, x1, x2, x3, x4], st, a, h) = Rn 189 (15, [x0, x1, x2, x3, x4], .int (-1000001 : Int32) :: st, a, h) := Rn_go c189_13 rfl
theorem c189_15 : mcode 189 15 = some (.invokevirtual 39, 3, 125, 1, 6) := rfl
theorem r189_15 : Rn 189 (15, [x0, x1, x2, x3, x4], [v0, .ref q], a, h) = if mis h q 6 = true then Bk 189 18 [x0, x1, x2, x3, x4] [] (Ec 125 [.ref q, v0] a h) else none := Rn_call1 c189_15 rfl (Nat.le_of_ble_eq_true rfl) rfl rfl (Nat.le_of_ble_eq_true rfl)
theorem c189_18 : mcode 189 18 = some (.ireturn, 1, 0, 0, 0) := rfl
theorem r189_18 : Rn 189 (18, [x0, x1, x2, x3, x4], [.int i], a, h) = some (some (.int i), a, h) := Rn_ireti c189_18
theorem c189_19 : mcode 189 19 = some (.aload_n 0, 1, 0, 0, 0) := rfl
theorem r189_19 : Rn 189 (19, [some (.ref q), x1, x2, x3, x4], st, a, h) = Rn 189 (20, [some (.ref q), x1, x2, x3, x4], .ref q :: st, a, h) := Rn_go c189_19 rfl
theorem c189_20 : mcode 189 20 = some (.getfield 7, 3, 6, 0, 0) := rfl
theorem r189_20 : Rn 189 (20, [x0, x1, x2, x3, x4], .ref q :: st, a, h) = Kv 189 23 [x0, x1, x2, x3, x4] st a h (mgf h q 6 0) := Rn_getf c189_20 rfl
theorem c189_23 : mcode 189 23 = some (.iconst 1, 1, 0, 0, 0) := rfl
theorem r189_23 : Rn 189 (23, [x0, x1, x2, x3, x4], st, a, h) = Rn 189 (24, [x0, x1, x2, x3, x4], .int (1 : Int32) :: st, a, h) := Rn_go c189_23 rfl
theorem c189_24 : mcode 189 24 = some (.iaload, 1, 0, 0, 0) := rfl
theorem r189_24 : Rn 189 (24, [x0, x1, x2, x3, x4], .int i :: .ref q :: st, a, h) = Ki 189 25 [x0, x1, x2, x3, x4] st a h (mld h q i false) := Rn_iald c189_24 rfl
theorem c189_25 : mcode 189 25 = some (.iload_n 1, 1, 0, 0, 0) := rfl
theorem r189_25 : Rn 189 (25, [x0, some (.int i), x2, x3, x4], st, a, h) = Rn 189 (26, [x0, some (.int i), x2, x3, x4], .int i :: st, a, h) := Rn_go c189_25 rfl
theorem c189_26 : mcode 189 26 = some (.iadd, 1, 0, 0, 0) := rfl
theorem r189_26 : Rn 189 (26, [x0, x1, x2, x3, x4], .int j :: .int i :: st, a, h) = Rn 189 (27, [x0, x1, x2, x3, x4], .int (i + j) :: st, a, h) := Rn_go c189_26 rfl
theorem c189_27 : mcode 189 27 = some (.ldc 136, 2, 0, 0, 99999) := rfl
theorem r189_27 : Rn 189 (27, [x0, x1, x2, x3, x4], st, a, h) = Rn 189 (29, [x0, x1, x2, x3, x4], .int (99999 : Int32) :: st, a, h) := Rn_go c189_27 rfl
theorem c189_29 : mcode 189 29 = some (.if_icmp .le 10, 3, 0, 0, 0) := rfl
theorem r189_29 : Rn 189 (29, [x0, x1, x2, x3, x4], .int j :: .int i :: st, a, h) = if j < i then Rn 189 (32, [x0, x1, x2, x3, x4], st, a, h) else Rn 189 (39, [x0, x1, x2, x3, x4], st, a, h) := Rn_icmpn c189_29 mc_le rfl rfl
theorem c189_32 : mcode 189 32 = some (.aload_n 0, 1, 0, 0, 0) := rfl
theorem r189_32 : Rn 189 (32, [some (.ref q), x1, x2, x3, x4], st, a, h) = Rn 189 (33, [some (.ref q), x1, x2, x3, x4], .ref q :: st, a, h) := Rn_go c189_32 rfl
theorem c189_33 : mcode 189 33 = some (.ldc 137, 2, 0, 0, -1000005) := rfl
theorem r189_33 : Rn 189 (33, [x0, x1, x2, x3, x4], st, a, h) = Rn 189 (35, [x0, x1, x2, x3, x4], .int (-1000005 : Int32) :: st, a, h) := Rn_go c189_33 rfl
theorem c189_35 : mcode 189 35 = some (.invokevirtual 39, 3, 125, 1, 6) := rfl
theorem r189_35 : Rn 189 (35, [x0, x1, x2, x3, x4], [v0, .ref q], a, h) = if mis h q 6 = true then Bk 189 38 [x0, x1, x2, x3, x4] [] (Ec 125 [.ref q, v0] a h) else none := Rn_call1 c189_35 rfl (Nat.le_of_ble_eq_true rfl) rfl rfl (Nat.le_of_ble_eq_true rfl)
theorem c189_38 : mcode 189 38 = some (.ireturn, 1, 0, 0, 0) := rfl
theorem r189_38 : Rn 189 (38, [x0, x1, x2, x3, x4], [.int i], a, h) = some (some (.int i), a, h) := Rn_ireti c189_38
theorem c189_39 : mcode 189 39 = some (.iconst 0, 1, 0, 0, 0) := rfl
theorem r189_39 : Rn 189 (39, [x0, x1, x2, x3, x4], st, a, h) = Rn 189 (40, [x0, x1, x2, x3, x4], .int (0 : Int32) :: st, a, h) := Rn_go c189_39 rfl
theorem c189_40 : mcode 189 40 = some (.istore_n 2, 1, 0, 0, 0) := rfl
theorem r189_40 : Rn 189 (40, [x0, x1, x2, x3, x4], .int i :: st, a, h) = Nl x1 (Rn 189 (41, [x0, x1, some (.int i), x3, x4], st, a, h)) := Rn_st1 (k := 2) (v := .int i) x1 c189_40 rfl rfl rfl rfl
theorem c189_41 : mcode 189 41 = some (.iload_n 2, 1, 0, 0, 0) := rfl
theorem r189_41 : Rn 189 (41, [x0, x1, some (.int i), x3, x4], st, a, h) = Rn 189 (42, [x0, x1, some (.int i), x3, x4], .int i :: st, a, h) := Rn_go c189_41 rfl
theorem c189_42 : mcode 189 42 = some (.iload_n 1, 1, 0, 0, 0) := rfl
theorem r189_42 : Rn 189 (42, [x0, some (.int i), x2, x3, x4], st, a, h) = Rn 189 (43, [x0, some (.int i), x2, x3, x4], .int i :: st, a, h) := Rn_go c189_42 rfl
theorem c189_43 : mcode 189 43 = some (.if_icmp .ge 44, 3, 0, 0, 0) := rfl
theorem r189_43 : Rn 189 (43, [x0, x1, x2, x3, x4], .int j :: .int i :: st, a, h) = if i < j then Rn 189 (46, [x0, x1, x2, x3, x4], st, a, h) else Rn 189 (87, [x0, x1, x2, x3, x4], st, a, h) := Rn_icmpn c189_43 mc_ge rfl rfl
theorem c189_46 : mcode 189 46 = some (.aload_n 0, 1, 0, 0, 0) := rfl
theorem r189_46 : Rn 189 (46, [some (.ref q), x1, x2, x3, x4], st, a, h) = Rn 189 (47, [some (.ref q), x1, x2, x3, x4], .ref q :: st, a, h) := Rn_go c189_46 rfl
theorem c189_47 : mcode 189 47 = some (.invokevirtual 206, 3, 188, 0, 6) := rfl
theorem r189_47 : Rn 189 (47, [x0, x1, x2, x3, x4], [.ref q], a, h) = if mis h q 6 = true then Bk 189 50 [x0, x1, x2, x3, x4] [] (Ec 188 [.ref q] a h) else none := Rn_call1 c189_47 rfl (Nat.le_of_ble_eq_true rfl) rfl rfl (Nat.le_of_ble_eq_true rfl)
theorem c189_50 : mcode 189 50 = some (.bipush 8, 2, 0, 0, 0) := rfl
theorem r189_50 : Rn 189 (50, [x0, x1, x2, x3, x4], st, a, h) = Rn 189 (52, [x0, x1, x2, x3, x4], .int (8 : Int32) :: st, a, h) := Rn_go c189_50 rfl
theorem c189_52 : mcode 189 52 = some (.irem, 1, 0, 0, 0) := rfl
theorem r189_52 : Rn 189 (52, [x0, x1, x2, x3, x4], .int j :: .int i :: st, a, h) = if j = 0 then none else Rn 189 (53, [x0, x1, x2, x3, x4], .int (i % j) :: st, a, h) := Rn_irem c189_52 rfl
theorem c189_53 : mcode 189 53 = some (.istore_n 3, 1, 0, 0, 0) := rfl
theorem r189_53 : Rn 189 (53, [x0, x1, x2, x3, x4], .int i :: st, a, h) = Nl x2 (Rn 189 (54, [x0, x1, x2, some (.int i), x4], st, a, h)) := Rn_st1 (k := 3) (v := .int i) x2 c189_53 rfl rfl rfl rfl
theorem c189_54 : mcode 189 54 = some (.aload_n 0, 1, 0, 0, 0) := rfl
theorem r189_54 : Rn 189 (54, [some (.ref q), x1, x2, x3, x4], st, a, h) = Rn 189 (55, [some (.ref q), x1, x2, x3, x4], .ref q :: st, a, h) := Rn_go c189_54 rfl
theorem c189_55 : mcode 189 55 = some (.invokevirtual 206, 3, 188, 0, 6) := rfl
theorem r189_55 : Rn 189 (55, [x0, x1, x2, x3, x4], [.ref q], a, h) = if mis h q 6 = true then Bk 189 58 [x0, x1, x2, x3, x4] [] (Ec 188 [.ref q] a h) else none := Rn_call1 c189_55 rfl (Nat.le_of_ble_eq_true rfl) rfl rfl (Nat.le_of_ble_eq_true rfl)
theorem c189_58 : mcode 189 58 = some (.bipush 8, 2, 0, 0, 0) := rfl
theorem r189_58 : Rn 189 (58, [x0, x1, x2, x3, x4], st, a, h) = Rn 189 (60, [x0, x1, x2, x3, x4], .int (8 : Int32) :: st, a, h) := Rn_go c189_58 rfl
theorem c189_60 : mcode 189 60 = some (.irem, 1, 0, 0, 0) := rfl
theorem r189_60 : Rn 189 (60, [x0, x1, x2, x3, x4], .int j :: .int i :: st, a, h) = if j = 0 then none else Rn 189 (61, [x0, x1, x2, x3, x4], .int (i % j) :: st, a, h) := Rn_irem c189_60 rfl
theorem c189_61 : mcode 189 61 = some (.istore 4, 2, 0, 0, 0) := rfl
theorem r189_61 : Rn 189 (61, [x0, x1, x2, x3, x4], .int i :: st, a, h) = Nl x3 (Rn 189 (63, [x0, x1, x2, x3, some (.int i)], st, a, h)) := Rn_st1 (k := 4) (v := .int i) x3 c189_61 rfl rfl rfl rfl
theorem c189_63 : mcode 189 63 = some (.iload_n 3, 1, 0, 0, 0) := rfl
theorem r189_63 : Rn 189 (63, [x0, x1, x2, some (.int i), x4], st, a, h) = Rn 189 (64, [x0, x1, x2, some (.int i), x4], .int i :: st, a, h) := Rn_go c189_63 rfl
theorem c189_64 : mcode 189 64 = some (.iload 4, 2, 0, 0, 0) := rfl
theorem r189_64 : Rn 189 (64, [x0, x1, x2, x3, some (.int i)], st, a, h) = Rn 189 (66, [x0, x1, x2, x3, some (.int i)], .int i :: st, a, h) := Rn_go c189_64 rfl
theorem c189_66 : mcode 189 66 = some (.if_icmp .eq 10, 3, 0, 0, 0) := rfl
theorem r189_66 : Rn 189 (66, [x0, x1, x2, x3, x4], .int j :: .int i :: st, a, h) = if i = j then Rn 189 (76, [x0, x1, x2, x3, x4], st, a, h) else Rn 189 (69, [x0, x1, x2, x3, x4], st, a, h) := Rn_icmp c189_66 mc_eq rfl rfl
theorem c189_69 : mcode 189 69 = some (.aload_n 0, 1, 0, 0, 0) := rfl
theorem r189_69 : Rn 189 (69, [some (.ref q), x1, x2, x3, x4], st, a, h) = Rn 189 (70, [some (.ref q), x1, x2, x3, x4], .ref q :: st, a, h) := Rn_go c189_69 rfl
theorem c189_70 : mcode 189 70 = some (.iload_n 3, 1, 0, 0, 0) := rfl
theorem r189_70 : Rn 189 (70, [x0, x1, x2, some (.int i), x4], st, a, h) = Rn 189 (71, [x0, x1, x2, some (.int i), x4], .int i :: st, a, h) := Rn_go c189_70 rfl
theorem c189_71 : mcode 189 71 = some (.iload 4, 2, 0, 0, 0) := rfl
theorem r189_71 : Rn 189 (71, [x0, x1, x2, x3, some (.int i)], st, a, h) = Rn 189 (73, [x0, x1, x2, x3, some (.int i)], .int i :: st, a, h) := Rn_go c189_71 rfl
theorem c189_73 : mcode 189 73 = some (.invokevirtual 82, 3, 144, 2, 6) := rfl
theorem r189_73 : Rn 189 (73, [x0, x1, x2, x3, x4], [v1, v0, .ref q], a, h) = if mis h q 6 = true then Bk 189 76 [x0, x1, x2, x3, x4] [] (Ec 144 [.ref q, v0, v1] a h) else none := Rn_call1 c189_73 rfl (Nat.le_of_ble_eq_true rfl) rfl rfl (Nat.le_of_ble_eq_true rfl)
theorem c189_76 : mcode 189 76 = some (.aload_n 0, 1, 0, 0, 0) := rfl
theorem r189_76 : Rn 189 (76, [some (.ref q), x1, x2, x3, x4], st, a, h) = Rn 189 (77, [some (.ref q), x1, x2, x3, x4], .ref q :: st, a, h) := Rn_go c189_76 rfl
theorem c189_77 : mcode 189 77 = some (.iconst 0, 1, 0, 0, 0) := rfl
theorem r189_77 : Rn 189 (77, [x0, x1, x2, x3, x4], st, a, h) = Rn 189 (78, [x0, x1, x2, x3, x4], .int (0 : Int32) :: st, a, h) := Rn_go c189_77 rfl
theorem c189_78 : mcode 189 78 = some (.invokevirtual 131, 3, 158, 1, 6) := rfl
theorem r189_78 : Rn 189 (78, [x0, x1, x2, x3, x4], [v0, .ref q], a, h) = if mis h q 6 = true then Bk 189 81 [x0, x1, x2, x3, x4] [] (Ec 158 [.ref q, v0] a h) else none := Rn_call1 c189_78 rfl (Nat.le_of_ble_eq_true rfl) rfl rfl (Nat.le_of_ble_eq_true rfl)
theorem c189_81 : mcode 189 81 = some (.iinc 2 1, 3, 0, 0, 0) := rfl
theorem r189_81 : Rn 189 (81, [x0, x1, some (.int i), x3, x4], st, a, h) = Nl x1 (Rn 189 (84, [x0, x1, some (.int (i + (1 : Int32))), x3, x4], st, a, h)) := Rn_st1 (k := 2) (v := .int (i + (1 : Int32))) x1 c189_81 rfl rfl rfl rfl
theorem c189_84 : mcode 189 84 = some (.goto (-43), 3, 0, 0, 0) := rfl
theorem r189_84 : Rn 189 (84, [x0, x1, x2, x3, x4], st, a, h) = Rn 189 (41, [x0, x1, x2, x3, x4], st, a, h) := Rn_goto c189_84 rfl
theorem c189_87 : mcode 189 87 = some (.aload_n 0, 1, 0, 0, 0) := rfl
theorem r189_87 : Rn 189 (87, [some (.ref q), x1, x2, x3, x4], st, a, h) = Rn 189 (88, [some (.ref q), x1, x2, x3, x4], .ref q :: st, a, h) := Rn_go c189_87 rfl
theorem c189_88 : mcode 189 88 = some (.iconst 5, 1, 0, 0, 0) := rfl
theorem r189_88 : Rn 189 (88, [x0, x1, x2, x3, x4], st, a, h) = Rn 189 (89, [x0, x1, x2, x3, x4], .int (5 : Int32) :: st, a, h) := Rn_go c189_88 rfl
theorem c189_89 : mcode 189 89 = some (.invokevirtual 148, 3, 161, 1, 6) := rfl
theorem r189_89 : Rn 189 (89, [x0, x1, x2, x3, x4], [v0, .ref q], a, h) = if mis h q 6 = true then Bk 189 92 [x0, x1, x2, x3, x4] [] (Ec 161 [.ref q, v0] a h) else none := Rn_call1 c189_89 rfl (Nat.le_of_ble_eq_true rfl) rfl rfl (Nat.le_of_ble_eq_true rfl)
theorem c189_92 : mcode 189 92 = some (.ireturn, 1, 0, 0, 0) := rfl
theorem r189_92 : Rn 189 (92, [x0, x1, x2, x3, x4], [.int i], a, h) = some (some (.int i), a, h) := Rn_ireti c189_92
theorem c190_0 : mcode 190 0 = some (.iload_n 1, 1, 0, 0, 0) := rfl
theorem r190_0 : Rn 190 (0, [x0, some (.int i), x2, x3, x4, x5, x6, x7, x8], st, a, h) = Rn 190 (1, [x0, some (.int i), x2, x3, x4, x5, x6, x7, x8], .int i :: st, a, h) := Rn_go c190_0 rfl
theorem c190_1 : mcode 190 1 = some (.i2l, 1, 0, 0, 0) := rfl
theorem r190_1 : Rn 190 (1, [x0, x1, x2, x3, x4, x5, x6, x7, x8], .int i :: st, a, h) = Rn 190 (2, [x0, x1, x2, x3, x4, x5, x6, x7, x8], .long i.toInt64 :: st, a, h) := Rn_go c190_1 rfl
theorem c190_2 : mcode 190 2 = some (.lconst 0, 1, 0, 0, 0) := rfl
theorem r190_2 : Rn 190 (2, [x0, x1, x2, x3, x4, x5, x6, x7, x8], st, a, h) = Rn 190 (3, [x0, x1, x2, x3, x4, x5, x6, x7, x8], .long (0 : Int64) :: st, a, h) := Rn_go c190_2 rfl
theorem c190_3 : mcode 190 3 = some (.ldc2_w 181, 3, 0, 0, 20) := rfl
theorem r190_3 : Rn 190 (3, [x0, x1, x2, x3, x4, x5, x6, x7, x8], st, a, h) = Rn 190 (6, [x0, x1, x2, x3, x4, x5, x6, x7, x8], .long (20 : Int64) :: st, a, h) := Rn_go c190_3 rfl
theorem c190_6 : mcode 190 6 = some (.invokestatic 52, 3, 124, 3, 0) := rfl
theorem r190_6 : Rn 190 (6, [x0, x1, x2, x3, x4, x5, x6, x7, x8], [v2, v1, v0], a, h) = Bk 190 9 [x0, x1, x2, x3, x4, x5, x6, x7, x8] [] (Ec 124 [v0, v1, v2] a h) := Rn_call0 c190_6 (fun z => nomatch z) rfl (Nat.le_of_ble_eq_true rfl) rfl rfl (Nat.le_of_ble_eq_true rfl)
theorem c190_9 : mcode 190 9 = some (.ifCond .eq 13, 3, 0, 0, 0) := rfl
theorem r190_9 : Rn 190 (9, [x0, x1, x2, x3, x4, x5, x6, x7, x8], .int i :: st, a, h) = if i = 0 then Rn 190 (22, [x0, x1, x2, x3, x4, x5, x6, x7, x8], st, a, h) else Rn 190 (12, [x0, x1, x2, x3, x4, x5, x6, x7, x8], st, a, h) := Rn_ifc c190_9 mc_eq rfl rfl
theorem c190_12 : mcode 190 12 = some (.iload_n 2, 1, 0, 0, 0) := rfl
theorem r190_12 : Rn 190 (12, [x0, x1, some (.int i), x3, x4, x5, x6, x7, x8], st, a, h) = Rn 190 (13, [x0, x1, some (.int i), x3, x4, x5, x6, x7, x8], .int i :: st, a, h) := Rn_go c190_12 rfl
theorem c190_13 : mcode 190 13 = some (.i2l, 1, 0, 0, 0) := rfl
theorem r190_13 : Rn 190 (13, [x0, x1, x2, x3, x4, x5, x6, x7, x8], .int i :: st, a, h) = Rn 190 (14, [x0, x1, x2, x3, x4, x5, x6, x7, x8], .long i.toInt64 :: st, a, h) := Rn_go c190_13 rfl
theorem c190_14 : mcode 190 14 = some (.lconst 0, 1, 0, 0, 0) := rfl
theorem r190_14 : Rn 190 (14, [x0, x1, x2, x3, x4, x5, x6, x7, x8], st, a, h) = Rn 190 (15, [x0, x1, x2, x3, x4, x5, x6, x7, x8], .long (0 : Int64) :: st, a, h) := Rn_go c190_14 rfl
theorem c190_15 : mcode 190 15 = some (.lconst 1, 1, 0, 0, 0) := rfl
theorem r190_15 : Rn 190 (15, [x0, x1, x2, x3, x4, x5, x6, x7, x8], st, a, h) = Rn 190 (16, [x0, x1, x2, x3, x4, x5, x6, x7, x8], .long (1 : Int64) :: st, a, h) := Rn_go c190_15 rfl
theorem c190_16 : mcode 190 16 = some (.invokestatic 52, 3, 124, 3, 0) := rfl
theorem r190_16 : Rn 190 (16, [x0, x1, x2, x3, x4, x5, x6, x7, x8], [v2, v1, v0], a, h) = Bk 190 19 [x0, x1, x2, x3, x4, x5, x6, x7, x8] [] (Ec 124 [v0, v1, v2] a h) := Rn_call0 c190_16 (fun z => nomatch z) rfl (Nat.le_of_ble_eq_true rfl) rfl rfl (Nat.le_of_ble_eq_true rfl)
theorem c190_19 : mcode 190 19 = some (.ifCond .ne 11, 3, 0, 0, 0) := rfl
theorem r190_19 : Rn 190 (19, [x0, x1, x2, x3, x4, x5, x6, x7, x8], .int i :: st, a, h) = if i = 0 then Rn 190 (22, [x0, x1, x2, x3, x4, x5, x6, x7, x8], st, a, h) else Rn 190 (30, [x0, x1, x2, x3, x4, x5, x6, x7, x8], st, a, h) := Rn_ifcn c190_19 mc_ne rfl rfl
theorem c190_22 : mcode 190 22 = some (.aload_n 0, 1, 0, 0, 0) := rfl
theorem r190_22 : Rn 190 (22, [some (.ref q), x1, x2, x3, x4, x5, x6, x7, x8], st, a, h) = Rn 190 (23, [some (.ref q), x1, x2, x3, x4, x5, x6, x7, x8], .ref q :: st, a, h) := Rn_go c190_22 rfl
theorem c190_23 : mcode 190 23 = some (.ldc 37, 2, 0, 0, -1000001) := rfl
theorem r190_23 : Rn 190 (23, [x0, x1, x2, x3, x4, x5, x6, x7, x8], st, a, h) = Rn 190 (25, [x0, x1, x2, x3, x4, x5, x6, x7, x8], .int (-1000001 : Int32) :: st, a, h) := Rn_go c190_23 rfl
theorem c190_25 : mcode 190 25 = some (.invokevirtual 39, 3, 125, 1, 6) := rfl
theorem r190_25 : Rn 190 (25, [x0, x1, x2, x3, x4, x5, x6, x7, x8], [v0, .ref q], a, h) = if mis h q 6 = true then Bk 190 28 [x0, x1, x2, x3, x4, x5, x6, x7, x8] [] (Ec 125 [.ref q, v0] a h) else none := Rn_call1 c190_25 rfl (Nat.le_of_ble_eq_true rfl) rfl rfl (Nat.le_of_ble_eq_true rfl)
theorem c190_28 : mcode 190 28 = some (.i2l, 1, 0, 0, 0) := rfl
theorem r190_28 : Rn 190 (28, [x0, x1, x2, x3, x4, x5, x6, x7, x8], .int i :: st, a, h) = Rn 190 (29, [x0, x1, x2, x3, x4, x5, x6, x7, x8], .long i.toInt64 :: st, a, h) := Rn_go c190_28 rfl
theorem c190_29 : mcode 190 29 = some (.lreturn, 1, 0, 0, 0) := rfl
theorem r190_29 : Rn 190 (29, [x0, x1, x2, x3, x4, x5, x6, x7, x8], [.long l], a, h) = some (some (.long l), a, h) := Rn_act c190_29
theorem c190_30 : mcode 190 30 = some (.lconst 1, 1, 0, 0, 0) := rfl
theorem r190_30 : Rn 190 (30, [x0, x1, x2, x3, x4, x5, x6, x7, x8], st, a, h) = Rn 190 (31, [x0, x1, x2, x3, x4, x5, x6, x7, x8], .long (1 : Int64) :: st, a, h) := Rn_go c190_30 rfl
theorem c190_31 : mcode 190 31 = some (.lstore_n 3, 1, 0, 0, 0) := rfl
theorem r190_31 : Rn 190 (31, [x0, x1, x2, x3, x4, x5, x6, x7, x8], .long l :: st, a, h) = Nl x2 (Rn 190 (32, [x0, x1, x2, some (.long l), none, x5, x6, x7, x8], st, a, h)) := Rn_st2 (k := 3) (v := .long l) x2 c190_31 rfl rfl rfl rfl
theorem c190_32 : mcode 190 32 = some (.lconst 1, 1, 0, 0, 0) := rfl
theorem r190_32 : Rn 190 (32, [x0, x1, x2, x3, x4, x5, x6, x7, x8], st, a, h) = Rn 190 (33, [x0, x1, x2, x3, x4, x5, x6, x7, x8], .long (1 : Int64) :: st, a, h) := Rn_go c190_32 rfl
theorem c190_33 : mcode 190 33 = some (.lstore 5, 2, 0, 0, 0) := rfl
theorem r190_33 : Rn 190 (33, [x0, x1, x2, x3, x4, x5, x6, x7, x8], .long l :: st, a, h) = Nl x4 (Rn 190 (35, [x0, x1, x2, x3, x4, some (.long l), none, x7, x8], st, a, h)) := Rn_st2 (k := 5) (v := .long l) x4 c190_33 rfl rfl rfl rfl
theorem c190_35 : mcode 190 35 = some (.aload_n 0, 1, 0, 0, 0) := rfl
theorem r190_35 : Rn 190 (35, [some (.ref q), x1, x2, x3, x4, x5, x6, x7, x8], st, a, h) = Rn 190 (36, [some (.ref q), x1, x2, x3, x4, x5, x6, x7, x8], .ref q :: st, a, h) := Rn_go c190_35 rfl
theorem c190_36 : mcode 190 36 = some (.invokevirtual 151, 3, 164, 0, 6) := rfl
theorem r190_36 : Rn 190 (36, [x0, x1, x2, x3, x4, x5, x6, x7, x8], [.ref q], a, h) = if mis h q 6 = true then Bk 190 39 [x0, x1, x2, x3, x4, x5, x6, x7, x8] [] (Ec 164 [.ref q] a h) else none := Rn_call1 c190_36 rfl (Nat.le_of_ble_eq_true rfl) rfl rfl (Nat.le_of_ble_eq_true rfl)
theorem c190_39 : mcode 190 39 = some (.invokestatic 86, 3, 137, 1, 0) := rfl
theorem r190_39 : Rn 190 (39, [x0, x1, x2, x3, x4, x5, x6, x7, x8], [v0], a, h) = Bk 190 42 [x0, x1, x2, x3, x4, x5, x6, x7, x8] [] (Ec 137 [v0] a h) := Rn_call0 c190_39 (fun z => nomatch z) rfl (Nat.le_of_ble_eq_true rfl) rfl rfl (Nat.le_of_ble_eq_true rfl)
theorem c190_42 : mcode 190 42 = some (.istore 7, 2, 0, 0, 0) := rfl
theorem r190_42 : Rn 190 (42, [x0, x1, x2, x3, x4, x5, x6, x7, x8], .int i :: st, a, h) = Nl x6 (Rn 190 (44, [x0, x1, x2, x3, x4, x5, x6, some (.int i), x8], st, a, h)) := Rn_st1 (k := 7) (v := .int i) x6 c190_42 rfl rfl rfl rfl
theorem c190_44 : mcode 190 44 = some (.iconst 0, 1, 0, 0, 0) := rfl
theorem r190_44 : Rn 190 (44, [x0, x1, x2, x3, x4, x5, x6, x7, x8], st, a, h) = Rn 190 (45, [x0, x1, x2, x3, x4, x5, x6, x7, x8], .int (0 : Int32) :: st, a, h) := Rn_go c190_44 rfl
theorem c190_45 : mcode 190 45 = some (.istore 8, 2, 0, 0, 0) := rfl
theorem r190_45 : Rn 190 (45, [x0, x1, x2, x3, x4, x5, x6, x7, x8], .int i :: st, a, h) = Nl x7 (Rn 190 (47, [x0, x1, x2, x3, x4, x5, x6, x7, some (.int i)], st, a, h)) := Rn_st1 (k := 8) (v := .int i) x7 c190_45 rfl rfl rfl rfl
theorem c190_47 : mcode 190 47 = some (.iload 8, 2, 0, 0, 0) := rfl
theorem r190_47 : Rn 190 (47, [x0, x1, x2, x3, x4, x5, x6, x7, some (.int i)], st, a, h) = Rn 190 (49, [x0, x1, x2, x3, x4, x5, x6, x7, some (.int i)], .int i :: st, a, h) := Rn_go c190_47 rfl
theorem c190_49 : mcode 190 49 = some (.iload_n 1, 1, 0, 0, 0) := rfl
theorem r190_49 : Rn 190 (49, [x0, some (.int i), x2, x3, x4, x5, x6, x7, x8], st, a, h) = Rn 190 (50, [x0, some (.int i), x2, x3, x4, x5, x6, x7, x8], .int i :: st, a, h) := Rn_go c190_49 rfl
theorem c190_50 : mcode 190 50 = some (.if_icmp .ge 23, 3, 0, 0, 0) := rfl
theorem r190_50 : Rn 190 (50, [x0, x1, x2, x3, x4, x5, x6, x7, x8], .int j :: .int i :: st, a, h) = if i < j then Rn 190 (53, [x0, x1, x2, x3, x4, x5, x6, x7, x8], st, a, h) else Rn 190 (73, [x0, x1, x2, x3, x4, x5, x6, x7, x8], st, a, h) := Rn_icmpn c190_50 mc_ge rfl rfl
theorem c190_53 : mcode 190 53 = some (.lload_n 3, 1, 0, 0, 0) := rfl
theorem r190_53 : Rn 190 (53, [x0, x1, x2, some (.long l), x4, x5, x6, x7, x8], st, a, h) = Rn 190 (54, [x0, x1, x2, some (.long l), x4, x5, x6, x7, x8], .long l :: st, a, h) := Rn_go c190_53 rfl
theorem c190_54 : mcode 190 54 = some (.iload 7, 2, 0, 0, 0) := rfl
theorem r190_54 : Rn 190 (54, [x0, x1, x2, x3, x4, x5, x6, some (.int i), x8], st, a, h) = Rn 190 (56, [x0, x1, x2, x3, x4, x5, x6, some (.int i), x8], .int i :: st, a, h) := Rn_go c190_54 rfl
theorem c190_56 : mcode 190 56 = some (.i2l, 1, 0, 0, 0) := rfl
theorem r190_56 : Rn 190 (56, [x0, x1, x2, x3, x4, x5, x6, x7, x8], .int i :: st, a, h) = Rn 190 (57, [x0, x1, x2, x3, x4, x5, x6, x7, x8], .long i.toInt64 :: st, a, h) := Rn_go c190_56 rfl
theorem c190_57 : mcode 190 57 = some (.lmul, 1, 0, 0, 0) := rfl
theorem r190_57 : Rn 190 (57, [x0, x1, x2, x3, x4, x5, x6, x7, x8], .long m :: .long l :: st, a, h) = Rn 190 (58, [x0, x1, x2, x3, x4, x5, x6, x7, x8], .long (l * m) :: st, a, h) := Rn_go c190_57 rfl
theorem c190_58 : mcode 190 58 = some (.lstore_n 3, 1, 0, 0, 0) := rfl
theorem r190_58 : Rn 190 (58, [x0, x1, x2, x3, x4, x5, x6, x7, x8], .long l :: st, a, h) = Nl x2 (Rn 190 (59, [x0, x1, x2, some (.long l), none, x5, x6, x7, x8], st, a, h)) := Rn_st2 (k := 3) (v := .long l) x2 c190_58 rfl rfl rfl rfl
theorem c190_59 : mcode 190 59 = some (.lload 5, 2, 0, 0, 0) := rfl
theorem r190_59 : Rn 190 (59, [x0, x1, x2, x3, x4, some (.long l), x6, x7, x8], st, a, h) = Rn 190 (61, [x0, x1, x2, x3, x4, some (.long l), x6, x7, x8], .long l :: st, a, h) := Rn_go c190_59 rfl
theorem c190_61 : mcode 190 61 = some (.ldc2_w 101, 3, 0, 0, 8) := rfl
theorem r190_61 : Rn 190 (61, [x0, x1, x2, x3, x4, x5, x6, x7, x8], st, a, h) = Rn 190 (64, [x0, x1, x2, x3, x4, x5, x6, x7, x8], .long (8 : Int64) :: st, a, h) := Rn_go c190_61 rfl
theorem c190_64 : mcode 190 64 = some (.lmul, 1, 0, 0, 0) := rfl
theorem r190_64 : Rn 190 (64, [x0, x1, x2, x3, x4, x5, x6, x7, x8], .long m :: .long l :: st, a, h) = Rn 190 (65, [x0, x1, x2, x3, x4, x5, x6, x7, x8], .long (l * m) :: st, a, h) := Rn_go c190_64 rfl
theorem c190_65 : mcode 190 65 = some (.lstore 5, 2, 0, 0, 0) := rfl
theorem r190_65 : Rn 190 (65, [x0, x1, x2, x3, x4, x5, x6, x7, x8], .long l :: st, a, h) = Nl x4 (Rn 190 (67, [x0, x1, x2, x3, x4, some (.long l), none, x7, x8], st, a, h)) := Rn_st2 (k := 5) (v := .long l) x4 c190_65 rfl rfl rfl rfl
theorem c190_67 : mcode 190 67 = some (.iinc 8 1, 3, 0, 0, 0) := rfl
theorem r190_67 : Rn 190 (67, [x0, x1, x2, x3, x4, x5, x6, x7, some (.int i)], st, a, h) = Nl x7 (Rn 190 (70, [x0, x1, x2, x3, x4, x5, x6, x7, some (.int (i + (1 : Int32)))], st, a, h)) := Rn_st1 (k := 8) (v := .int (i + (1 : Int32))) x7 c190_67 rfl rfl rfl rfl
theorem c190_70 : mcode 190 70 = some (.goto (-23), 3, 0, 0, 0) := rfl
theorem r190_70 : Rn 190 (70, [x0, x1, x2, x3, x4, x5, x6, x7, x8], st, a, h) = Rn 190 (47, [x0, x1, x2, x3, x4, x5, x6, x7, x8], st, a, h) := Rn_goto c190_70 rfl
theorem c190_73 : mcode 190 73 = some (.lload_n 3, 1, 0, 0, 0) := rfl
theorem r190_73 : Rn 190 (73, [x0, x1, x2, some (.long l), x4, x5, x6, x7, x8], st, a, h) = Rn 190 (74, [x0, x1, x2, some (.long l), x4, x5, x6, x7, x8], .long l :: st, a, h) := Rn_go c190_73 rfl
theorem c190_74 : mcode 190 74 = some (.lconst 0, 1, 0, 0, 0) := rfl
theorem r190_74 : Rn 190 (74, [x0, x1, x2, x3, x4, x5, x6, x7, x8], st, a, h) = Rn 190 (75, [x0, x1, x2, x3, x4, x5, x6, x7, x8], .long (0 : Int64) :: st, a, h) := Rn_go c190_74 rfl
theorem c190_75 : mcode 190 75 = some (.lcmp, 1, 0, 0, 0) := rfl
theorem r190_75 : Rn 190 (75, [x0, x1, x2, x3, x4, x5, x6, x7, x8], .long m :: .long l :: st, a, h) = Rn 190 (76, [x0, x1, x2, x3, x4, x5, x6, x7, x8], .int (if l < m then -1 else if l = m then 0 else 1) :: st, a, h) := Rn_go c190_75 rfl
theorem c190_76 : mcode 190 76 = some (.ifCond .ne 7, 3, 0, 0, 0) := rfl
theorem r190_76 : Rn 190 (76, [x0, x1, x2, x3, x4, x5, x6, x7, x8], .int i :: st, a, h) = if i = 0 then Rn 190 (79, [x0, x1, x2, x3, x4, x5, x6, x7, x8], st, a, h) else Rn 190 (83, [x0, x1, x2, x3, x4, x5, x6, x7, x8], st, a, h) := Rn_ifcn c190_76 mc_ne rfl rfl
theorem c190_79 : mcode 190 79 = some (.lconst 1, 1, 0, 0, 0) := rfl
theorem r190_79 : Rn 190 (79, [x0, x1, x2, x3, x4, x5, x6, x7, x8], st, a, h) = Rn 190 (80, [x0, x1, x2, x3, x4, x5, x6, x7, x8], .long (1 : Int64) :: st, a, h) := Rn_go c190_79 rfl
theorem c190_80 : mcode 190 80 = some (.goto 5, 3, 0, 0, 0) := rfl
theorem r190_80 : Rn 190 (80, [x0, x1, x2, x3, x4, x5, x6, x7, x8], st, a, h) = Rn 190 (85, [x0, x1, x2, x3, x4, x5, x6, x7, x8], st, a, h) := Rn_goto c190_80 rfl
theorem c190_83 : mcode 190 83 = some (.lload 5, 2, 0, 0, 0) := rfl
theorem r190_83 : Rn 190 (83, [x0, x1, x2, x3, x4, some (.long l), x6, x7, x8], st, a, h) = Rn 190 (85, [x0, x1, x2, x3, x4, some (.long l), x6, x7, x8], .long l :: st, a, h) := Rn_go c190_83 rfl
theorem c190_85 : mcode 190 85 = some (.lstore 5, 2, 0, 0, 0) := rfl
theorem r190_85 : Rn 190 (85, [x0, x1, x2, x3, x4, x5, x6, x7, x8], .long l :: st, a, h) = Nl x4 (Rn 190 (87, [x0, x1, x2, x3, x4, some (.long l), none, x7, x8], st, a, h)) := Rn_st2 (k := 5) (v := .long l) x4 c190_85 rfl rfl rfl rfl
theorem c190_87 : mcode 190 87 = some (.lload_n 3, 1, 0, 0, 0) := rfl
theorem r190_87 : Rn 190 (87, [x0, x1, x2, some (.long l), x4, x5, x6, x7, x8], st, a, h) = Rn 190 (88, [x0, x1, x2, some (.long l), x4, x5, x6, x7, x8], .long l :: st, a, h) := Rn_go c190_87 rfl
theorem c190_88 : mcode 190 88 = some (.ldc2_w 209, 3, 0, 0, 2) := rfl
theorem r190_88 : Rn 190 (88, [x0, x1, x2, x3, x4, x5, x6, x7, x8], st, a, h) = Rn 190 (91, [x0, x1, x2, x3, x4, x5, x6, x7, x8], .long (2 : Int64) :: st, a, h) := Rn_go c190_88 rfl
theorem c190_91 : mcode 190 91 = some (.lrem, 1, 0, 0, 0) := rfl
theorem r190_91 : Rn 190 (91, [x0, x1, x2, x3, x4, x5, x6, x7, x8], .long m :: .long l :: st, a, h) = if m = 0 then none else Rn 190 (92, [x0, x1, x2, x3, x4, x5, x6, x7, x8], .long (l % m) :: st, a, h) := Rn_lrem c190_91 rfl
theorem c190_92 : mcode 190 92 = some (.lconst 0, 1, 0, 0, 0) := rfl
theorem r190_92 : Rn 190 (92, [x0, x1, x2, x3, x4, x5, x6, x7, x8], st, a, h) = Rn 190 (93, [x0, x1, x2, x3, x4, x5, x6, x7, x8], .long (0 : Int64) :: st, a, h) := Rn_go c190_92 rfl
theorem c190_93 : mcode 190 93 = some (.lcmp, 1, 0, 0, 0) := rfl
theorem r190_93 : Rn 190 (93, [x0, x1, x2, x3, x4, x5, x6, x7, x8], .long m :: .long l :: st, a, h) = Rn 190 (94, [x0, x1, x2, x3, x4, x5, x6, x7, x8], .int (if l < m then -1 else if l = m then 0 else 1) :: st, a, h) := Rn_go c190_93 rfl
theorem c190_94 : mcode 190 94 = some (.ifCond .ne 31, 3, 0, 0, 0) := rfl
theorem r190_94 : Rn 190 (94, [x0, x1, x2, x3, x4, x5, x6, x7, x8], .int i :: st, a, h) = if i = 0 then Rn 190 (97, [x0, x1, x2, x3, x4, x5, x6, x7, x8], st, a, h) else Rn 190 (125, [x0, x1, x2, x3, x4, x5, x6, x7, x8], st, a, h) := Rn_ifcn c190_94 mc_ne rfl rfl
theorem c190_97 : mcode 190 97 = some (.lload 5, 2, 0, 0, 0) := rfl
theorem r190_97 : Rn 190 (97, [x0, x1, x2, x3, x4, some (.long l), x6, x7, x8], st, a, h) = Rn 190 (99, [x0, x1, x2, x3, x4, some (.long l), x6, x7, x8], .long l :: st, a, h) := Rn_go c190_97 rfl
theorem c190_99 : mcode 190 99 = some (.ldc2_w 209, 3, 0, 0, 2) := rfl
theorem r190_99 : Rn 190 (99, [x0, x1, x2, x3, x4, x5, x6, x7, x8], st, a, h) = Rn 190 (102, [x0, x1, x2, x3, x4, x5, x6, x7, x8], .long (2 : Int64) :: st, a, h) := Rn_go c190_99 rfl
theorem c190_102 : mcode 190 102 = some (.lrem, 1, 0, 0, 0) := rfl
theorem r190_102 : Rn 190 (102, [x0, x1, x2, x3, x4, x5, x6, x7, x8], .long m :: .long l :: st, a, h) = if m = 0 then none else Rn 190 (103, [x0, x1, x2, x3, x4, x5, x6, x7, x8], .long (l % m) :: st, a, h) := Rn_lrem c190_102 rfl
theorem c190_103 : mcode 190 103 = some (.lconst 0, 1, 0, 0, 0) := rfl
theorem r190_103 : Rn 190 (103, [x0, x1, x2, x3, x4, x5, x6, x7, x8], st, a, h) = Rn 190 (104, [x0, x1, x2, x3, x4, x5, x6, x7, x8], .long (0 : Int64) :: st, a, h) := Rn_go c190_103 rfl
theorem c190_104 : mcode 190 104 = some (.lcmp, 1, 0, 0, 0) := rfl
theorem r190_104 : Rn 190 (104, [x0, x1, x2, x3, x4, x5, x6, x7, x8], .long m :: .long l :: st, a, h) = Rn 190 (105, [x0, x1, x2, x3, x4, x5, x6, x7, x8], .int (if l < m then -1 else if l = m then 0 else 1) :: st, a, h) := Rn_go c190_104 rfl
theorem c190_105 : mcode 190 105 = some (.ifCond .ne 20, 3, 0, 0, 0) := rfl
theorem r190_105 : Rn 190 (105, [x0, x1, x2, x3, x4, x5, x6, x7, x8], .int i :: st, a, h) = if i = 0 then Rn 190 (108, [x0, x1, x2, x3, x4, x5, x6, x7, x8], st, a, h) else Rn 190 (125, [x0, x1, x2, x3, x4, x5, x6, x7, x8], st, a, h) := Rn_ifcn c190_105 mc_ne rfl rfl
theorem c190_108 : mcode 190 108 = some (.lload_n 3, 1, 0, 0, 0) := rfl
theorem r190_108 : Rn 190 (108, [x0, x1, x2, some (.long l), x4, x5, x6, x7, x8], st, a, h) = Rn 190 (109, [x0, x1, x2, some (.long l), x4, x5, x6, x7, x8], .long l :: st, a, h) := Rn_go c190_108 rfl
theorem c190_109 : mcode 190 109 = some (.ldc2_w 209, 3, 0, 0, 2) := rfl
theorem r190_109 : Rn 190 (109, [x0, x1, x2, x3, x4, x5, x6, x7, x8], st, a, h) = Rn 190 (112, [x0, x1, x2, x3, x4, x5, x6, x7, x8], .long (2 : Int64) :: st, a, h) := Rn_go c190_109 rfl
theorem c190_112 : mcode 190 112 = some (.ldiv, 1, 0, 0, 0) := rfl
theorem r190_112 : Rn 190 (112, [x0, x1, x2, x3, x4, x5, x6, x7, x8], .long m :: .long l :: st, a, h) = if m = 0 then none else Rn 190 (113, [x0, x1, x2, x3, x4, x5, x6, x7, x8], .long (l / m) :: st, a, h) := Rn_ldiv c190_112 rfl
theorem c190_113 : mcode 190 113 = some (.lstore_n 3, 1, 0, 0, 0) := rfl
theorem r190_113 : Rn 190 (113, [x0, x1, x2, x3, x4, x5, x6, x7, x8], .long l :: st, a, h) = Nl x2 (Rn 190 (114, [x0, x1, x2, some (.long l), none, x5, x6, x7, x8], st, a, h)) := Rn_st2 (k := 3) (v := .long l) x2 c190_113 rfl rfl rfl rfl
theorem c190_114 : mcode 190 114 = some (.lload 5, 2, 0, 0, 0) := rfl
theorem r190_114 : Rn 190 (114, [x0, x1, x2, x3, x4, some (.long l), x6, x7, x8], st, a, h) = Rn 190 (116, [x0, x1, x2, x3, x4, some (.long l), x6, x7, x8], .long l :: st, a, h) := Rn_go c190_114 rfl
theorem c190_116 : mcode 190 116 = some (.ldc2_w 209, 3, 0, 0, 2) := rfl
theorem r190_116 : Rn 190 (116, [x0, x1, x2, x3, x4, x5, x6, x7, x8], st, a, h) = Rn 190 (119, [x0, x1, x2, x3, x4, x5, x6, x7, x8], .long (2 : Int64) :: st, a, h) := Rn_go c190_116 rfl
theorem c190_119 : mcode 190 119 = some (.ldiv, 1, 0, 0, 0) := rfl
theorem r190_119 : Rn 190 (119, [x0, x1, x2, x3, x4, x5, x6, x7, x8], .long m :: .long l :: st, a, h) = if m = 0 then none else Rn 190 (120, [x0, x1, x2, x3, x4, x5, x6, x7, x8], .long (l / m) :: st, a, h) := Rn_ldiv c190_119 rfl
theorem c190_120 : mcode 190 120 = some (.lstore 5, 2, 0, 0, 0) := rfl
theorem r190_120 : Rn 190 (120, [x0, x1, x2, x3, x4, x5, x6, x7, x8], .long l :: st, a, h) = Nl x4 (Rn 190 (122, [x0, x1, x2, x3, x4, some (.long l), none, x7, x8], st, a, h)) := Rn_st2 (k := 5) (v := .long l) x4 c190_120 rfl rfl rfl rfl
theorem c190_122 : mcode 190 122 = some (.goto (-35), 3, 0, 0, 0) := rfl
theorem r190_122 : Rn 190 (122, [x0, x1, x2, x3, x4, x5, x6, x7, x8], st, a, h) = Rn 190 (87, [x0, x1, x2, x3, x4, x5, x6, x7, x8], st, a, h) := Rn_goto c190_122 rfl
theorem c190_125 : mcode 190 125 = some (.iload_n 2, 1, 0, 0, 0) := rfl
theorem r190_125 : Rn 190 (125, [x0, x1, some (.int i), x3, x4, x5, x6, x7, x8], st, a, h) = Rn 190 (126, [x0, x1, some (.int i), x3, x4, x5, x6, x7, x8], .int i :: st, a, h) := Rn_go c190_125 rfl
theorem c190_126 : mcode 190 126 = some (.ifCond .ne 7, 3, 0, 0, 0) := rfl
theorem r190_126 : Rn 190 (126, [x0, x1, x2, x3, x4, x5, x6, x7, x8], .int i :: st, a, h) = if i = 0 then Rn 190 (129, [x0, x1, x2, x3, x4, x5, x6, x7, x8], st, a, h) else Rn 190 (133, [x0, x1, x2, x3, x4, x5, x6, x7, x8], st, a, h) := Rn_ifcn c190_126 mc_ne rfl rfl
theorem c190_129 : mcode 190 129 = some (.lload_n 3, 1, 0, 0, 0) := rfl
theorem r190_129 : Rn 190 (129, [x0, x1, x2, some (.long l), x4, x5, x6, x7, x8], st, a, h) = Rn 190 (130, [x0, x1, x2, some (.long l), x4, x5, x6, x7, x8], .long l :: st, a, h) := Rn_go c190_129 rfl
theorem c190_130 : mcode 190 130 = some (.goto 5, 3, 0, 0, 0) := rfl
theorem r190_130 : Rn 190 (130, [x0, x1, x2, x3, x4, x5, x6, x7, x8], st, a, h) = Rn 190 (135, [x0, x1, x2, x3, x4, x5, x6, x7, x8], st, a, h) := Rn_goto c190_130 rfl
theorem c190_133 : mcode 190 133 = some (.lload 5, 2, 0, 0, 0) := rfl
theorem r190_133 : Rn 190 (133, [x0, x1, x2, x3, x4, some (.long l), x6, x7, x8], st, a, h) = Rn 190 (135, [x0, x1, x2, x3, x4, some (.long l), x6, x7, x8], .long l :: st, a, h) := Rn_go c190_133 rfl
theorem c190_135 : mcode 190 135 = some (.lreturn, 1, 0, 0, 0) := rfl
theorem r190_135 : Rn 190 (135, [x0, x1, x2, x3, x4, x5, x6, x7, x8], [.long l], a, h) = some (some (.long l), a, h) := Rn_act c190_135
theorem c191_0 : mcode 191 0 = some (.aload_n 0, 1, 0, 0, 0) := rfl
theorem r191_0 : Rn 191 (0, [some (.ref q), x1], st, a, h) = Rn 191 (1, [some (.ref q), x1], .ref q :: st, a, h) := Rn_go c191_0 rfl
theorem c191_1 : mcode 191 1 = some (.iconst 2, 1, 0, 0, 0) := rfl
theorem r191_1 : Rn 191 (1, [x0, x1], st, a, h) = Rn 191 (2, [x0, x1], .int (2 : Int32) :: st, a, h) := Rn_go c191_1 rfl
theorem c191_2 : mcode 191 2 = some (.iload_n 1, 1, 0, 0, 0) := rfl
theorem r191_2 : Rn 191 (2, [x0, some (.int i)], st, a, h) = Rn 191 (3, [x0, some (.int i)], .int i :: st, a, h) := Rn_go c191_2 rfl
theorem c191_3 : mcode 191 3 = some (.invokevirtual 56, 3, 126, 2, 6) := rfl
theorem r191_3 : Rn 191 (3, [x0, x1], [v1, v0, .ref q], a, h) = if mis h q 6 = true then Bk 191 6 [x0, x1] [] (Ec 126 [.ref q, v0, v1] a h) else none := Rn_call1 c191_3 rfl (Nat.le_of_ble_eq_true rfl) rfl rfl (Nat.le_of_ble_eq_true rfl)
theorem c191_6 : mcode 191 6 = some (.ireturn, 1, 0, 0, 0) := rfl
theorem r191_6 : Rn 191 (6, [x0, x1], [.int i], a, h) = some (some (.int i), a, h) := Rn_ireti c191_6
theorem c192_0 : mcode 192 0 = some (.iload_n 2, 1, 0, 0, 0) := rfl
theorem r192_0 : Rn 192 (0, [x0, x1, some (.int i), x3], st, a, h) = Rn 192 (1, [x0, x1, some (.int i), x3], .int i :: st, a, h) := Rn_go c192_0 rfl
theorem c192_1 : mcode 192 1 = some (.i2l, 1, 0, 0, 0) := rfl
theorem r192_1 : Rn 192 (1, [x0, x1, x2, x3], .int i :: st, a, h) = Rn 192 (2, [x0, x1, x2, x3], .long i.toInt64 :: st, a, h) := Rn_go c192_1 rfl
theorem c192_2 : mcode 192 2 = some (.lconst 1, 1, 0, 0, 0) := rfl
theorem r192_2 : Rn 192 (2, [x0, x1, x2, x3], st, a, h) = Rn 192 (3, [x0, x1, x2, x3], .long (1 : Int64) :: st, a, h) := Rn_go c192_2 rfl
theorem c192_3 : mcode 192 3 = some (.ldc2_w 211, 3, 0, 0, 4) := rfl
theorem r192_3 : Rn 192 (3, [x0, x1, x2, x3], st, a, h) = Rn 192 (6, [x0, x1, x2, x3], .long (4 : Int64) :: st, a, h) := Rn_go c192_3 rfl
theorem c192_6 : mcode 192 6 = some (.invokestatic 52, 3, 124, 3, 0) := rfl
theorem r192_6 : Rn 192 (6, [x0, x1, x2, x3], [v2, v1, v0], a, h) = Bk 192 9 [x0, x1, x2, x3] [] (Ec 124 [v0, v1, v2] a h) := Rn_call0 c192_6 (fun z => nomatch z) rfl (Nat.le_of_ble_eq_true rfl) rfl rfl (Nat.le_of_ble_eq_true rfl)
theorem c192_9 : mcode 192 9 = some (.ifCond .ne 10, 3, 0, 0, 0) := rfl
theorem r192_9 : Rn 192 (9, [x0, x1, x2, x3], .int i :: st, a, h) = if i = 0 then Rn 192 (12, [x0, x1, x2, x3], st, a, h) else Rn 192 (19, [x0, x1, x2, x3], st, a, h) := Rn_ifcn c192_9 mc_ne rfl rfl
theorem c192_12 : mcode 192 12 = some (.aload_n 0, 1, 0, 0, 0) := rfl
theorem r192_12 : Rn 192 (12, [some (.ref q), x1, x2, x3], st, a, h) = Rn 192 (13, [some (.ref q), x1, x2, x3], .ref q :: st, a, h) := Rn_go c192_12 rfl
theorem c192_13 : mcode 192 13 = some (.ldc 37, 2, 0, 0, -1000001) := rfl
theorem r192_13 : Rn 192 (13, [x0, x1, x2, x3], st, a, h) = Rn 192 (15, [x0, x1, x2, x3], .int (-1000001 : Int32) :: st, a, h) := Rn_go c192_13 rfl
theorem c192_15 : mcode 192 15 = some (.invokevirtual 39, 3, 125, 1, 6) := rfl
theorem r192_15 : Rn 192 (15, [x0, x1, x2, x3], [v0, .ref q], a, h) = if mis h q 6 = true then Bk 192 18 [x0, x1, x2, x3] [] (Ec 125 [.ref q, v0] a h) else none := Rn_call1 c192_15 rfl (Nat.le_of_ble_eq_true rfl) rfl rfl (Nat.le_of_ble_eq_true rfl)
theorem c192_18 : mcode 192 18 = some (.ireturn, 1, 0, 0, 0) := rfl
theorem r192_18 : Rn 192 (18, [x0, x1, x2, x3], [.int i], a, h) = some (some (.int i), a, h) := Rn_ireti c192_18
theorem c192_19 : mcode 192 19 = some (.aload_n 0, 1, 0, 0, 0) := rfl
theorem r192_19 : Rn 192 (19, [some (.ref q), x1, x2, x3], st, a, h) = Rn 192 (20, [some (.ref q), x1, x2, x3], .ref q :: st, a, h) := Rn_go c192_19 rfl
theorem c192_20 : mcode 192 20 = some (.getfield 213, 3, 6, 7, 0) := rfl
theorem r192_20 : Rn 192 (20, [x0, x1, x2, x3], .ref q :: st, a, h) = Kv 192 23 [x0, x1, x2, x3] st a h (mgf h q 6 7) := Rn_getf c192_20 rfl
theorem c192_23 : mcode 192 23 = some (.iload_n 2, 1, 0, 0, 0) := rfl
theorem r192_23 : Rn 192 (23, [x0, x1, some (.int i), x3], st, a, h) = Rn 192 (24, [x0, x1, some (.int i), x3], .int i :: st, a, h) := Rn_go c192_23 rfl
theorem c192_24 : mcode 192 24 = some (.iadd, 1, 0, 0, 0) := rfl
theorem r192_24 : Rn 192 (24, [x0, x1, x2, x3], .int j :: .int i :: st, a, h) = Rn 192 (25, [x0, x1, x2, x3], .int (i + j) :: st, a, h) := Rn_go c192_24 rfl
theorem c192_25 : mcode 192 25 = some (.bipush 120, 2, 0, 0, 0) := rfl
theorem r192_25 : Rn 192 (25, [x0, x1, x2, x3], st, a, h) = Rn 192 (27, [x0, x1, x2, x3], .int (120 : Int32) :: st, a, h) := Rn_go c192_25 rfl
theorem c192_27 : mcode 192 27 = some (.if_icmp .le 10, 3, 0, 0, 0) := rfl
theorem r192_27 : Rn 192 (27, [x0, x1, x2, x3], .int j :: .int i :: st, a, h) = if j < i then Rn 192 (30, [x0, x1, x2, x3], st, a, h) else Rn 192 (37, [x0, x1, x2, x3], st, a, h) := Rn_icmpn c192_27 mc_le rfl rfl
theorem c192_30 : mcode 192 30 = some (.aload_n 0, 1, 0, 0, 0) := rfl
theorem r192_30 : Rn 192 (30, [some (.ref q), x1, x2, x3], st, a, h) = Rn 192 (31, [some (.ref q), x1, x2, x3], .ref q :: st, a, h) := Rn_go c192_30 rfl
theorem c192_31 : mcode 192 31 = some (.ldc 91, 2, 0, 0, -1000002) := rfl
theorem r192_31 : Rn 192 (31, [x0, x1, x2, x3], st, a, h) = Rn 192 (33, [x0, x1, x2, x3], .int (-1000002 : Int32) :: st, a, h) := Rn_go c192_31 rfl
theorem c192_33 : mcode 192 33 = some (.invokevirtual 39, 3, 125, 1, 6) := rfl
theorem r192_33 : Rn 192 (33, [x0, x1, x2, x3], [v0, .ref q], a, h) = if mis h q 6 = true then Bk 192 36 [x0, x1, x2, x3] [] (Ec 125 [.ref q, v0] a h) else none := Rn_call1 c192_33 rfl (Nat.le_of_ble_eq_true rfl) rfl rfl (Nat.le_of_ble_eq_true rfl)
theorem c192_36 : mcode 192 36 = some (.ireturn, 1, 0, 0, 0) := rfl
theorem r192_36 : Rn 192 (36, [x0, x1, x2, x3], [.int i], a, h) = some (some (.int i), a, h) := Rn_ireti c192_36
theorem c192_37 : mcode 192 37 = some (.iload_n 2, 1, 0, 0, 0) := rfl
theorem r192_37 : Rn 192 (37, [x0, x1, some (.int i), x3], st, a, h) = Rn 192 (38, [x0, x1, some (.int i), x3], .int i :: st, a, h) := Rn_go c192_37 rfl
theorem c192_38 : mcode 192 38 = some (.iconst 1, 1, 0, 0, 0) := rfl
theorem r192_38 : Rn 192 (38, [x0, x1, x2, x3], st, a, h) = Rn 192 (39, [x0, x1, x2, x3], .int (1 : Int32) :: st, a, h) := Rn_go c192_38 rfl
theorem c192_39 : mcode 192 39 = some (.isub, 1, 0, 0, 0) := rfl
theorem r192_39 : Rn 192 (39, [x0, x1, x2, x3], .int j :: .int i :: st, a, h) = Rn 192 (40, [x0, x1, x2, x3], .int (i - j) :: st, a, h) := Rn_go c192_39 rfl
theorem c192_40 : mcode 192 40 = some (.istore_n 3, 1, 0, 0, 0) := rfl
theorem r192_40 : Rn 192 (40, [x0, x1, x2, x3], .int i :: st, a, h) = Nl x2 (Rn 192 (41, [x0, x1, x2, some (.int i)], st, a, h)) := Rn_st1 (k := 3) (v := .int i) x2 c192_40 rfl rfl rfl rfl
theorem c192_41 : mcode 192 41 = some (.iload_n 3, 1, 0, 0, 0) := rfl
theorem r192_41 : Rn 192 (41, [x0, x1, x2, some (.int i)], st, a, h) = Rn 192 (42, [x0, x1, x2, some (.int i)], .int i :: st, a, h) := Rn_go c192_41 rfl
theorem c192_42 : mcode 192 42 = some (.ifCond .lt 38, 3, 0, 0, 0) := rfl
theorem r192_42 : Rn 192 (42, [x0, x1, x2, x3], .int i :: st, a, h) = if i < 0 then Rn 192 (80, [x0, x1, x2, x3], st, a, h) else Rn 192 (45, [x0, x1, x2, x3], st, a, h) := Rn_ifc c192_42 mc_lt rfl rfl
theorem c192_45 : mcode 192 45 = some (.aload_n 0, 1, 0, 0, 0) := rfl
theorem r192_45 : Rn 192 (45, [some (.ref q), x1, x2, x3], st, a, h) = Rn 192 (46, [some (.ref q), x1, x2, x3], .ref q :: st, a, h) := Rn_go c192_45 rfl
theorem c192_46 : mcode 192 46 = some (.getfield 25, 3, 6, 6, 0) := rfl
theorem r192_46 : Rn 192 (46, [x0, x1, x2, x3], .ref q :: st, a, h) = Kv 192 49 [x0, x1, x2, x3] st a h (mgf h q 6 6) := Rn_getf c192_46 rfl
theorem c192_49 : mcode 192 49 = some (.aload_n 0, 1, 0, 0, 0) := rfl
theorem r192_49 : Rn 192 (49, [some (.ref q), x1, x2, x3], st, a, h) = Rn 192 (50, [some (.ref q), x1, x2, x3], .ref q :: st, a, h) := Rn_go c192_49 rfl
theorem c192_50 : mcode 192 50 = some (.getfield 213, 3, 6, 7, 0) := rfl
theorem r192_50 : Rn 192 (50, [x0, x1, x2, x3], .ref q :: st, a, h) = Kv 192 53 [x0, x1, x2, x3] st a h (mgf h q 6 7) := Rn_getf c192_50 rfl
theorem c192_53 : mcode 192 53 = some (.iload_n 1, 1, 0, 0, 0) := rfl
theorem r192_53 : Rn 192 (53, [x0, some (.int i), x2, x3], st, a, h) = Rn 192 (54, [x0, some (.int i), x2, x3], .int i :: st, a, h) := Rn_go c192_53 rfl
theorem c192_54 : mcode 192 54 = some (.bipush 8, 2, 0, 0, 0) := rfl
theorem r192_54 : Rn 192 (54, [x0, x1, x2, x3], st, a, h) = Rn 192 (56, [x0, x1, x2, x3], .int (8 : Int32) :: st, a, h) := Rn_go c192_54 rfl
theorem c192_56 : mcode 192 56 = some (.iload_n 3, 1, 0, 0, 0) := rfl
theorem r192_56 : Rn 192 (56, [x0, x1, x2, some (.int i)], st, a, h) = Rn 192 (57, [x0, x1, x2, some (.int i)], .int i :: st, a, h) := Rn_go c192_56 rfl
theorem c192_57 : mcode 192 57 = some (.imul, 1, 0, 0, 0) := rfl
theorem r192_57 : Rn 192 (57, [x0, x1, x2, x3], .int j :: .int i :: st, a, h) = Rn 192 (58, [x0, x1, x2, x3], .int (i * j) :: st, a, h) := Rn_go c192_57 rfl
theorem c192_58 : mcode 192 58 = some (.ishr, 1, 0, 0, 0) := rfl
theorem r192_58 : Rn 192 (58, [x0, x1, x2, x3], .int j :: .int i :: st, a, h) = Rn 192 (59, [x0, x1, x2, x3], .int (i >>> (j &&& 31)) :: st, a, h) := Rn_go c192_58 rfl
theorem c192_59 : mcode 192 59 = some (.sipush 255, 3, 0, 0, 0) := rfl
theorem r192_59 : Rn 192 (59, [x0, x1, x2, x3], st, a, h) = Rn 192 (62, [x0, x1, x2, x3], .int (255 : Int32) :: st, a, h) := Rn_go c192_59 rfl
theorem c192_62 : mcode 192 62 = some (.iand, 1, 0, 0, 0) := rfl
theorem r192_62 : Rn 192 (62, [x0, x1, x2, x3], .int j :: .int i :: st, a, h) = Rn 192 (63, [x0, x1, x2, x3], .int (i &&& j) :: st, a, h) := Rn_go c192_62 rfl
theorem c192_63 : mcode 192 63 = some (.iastore, 1, 0, 0, 0) := rfl
theorem r192_63 : Rn 192 (63, [x0, x1, x2, x3], .int j :: .int i :: .ref q :: st, a, h) = Kh 192 64 [x0, x1, x2, x3] st a (mias h q i j) := Rn_iast c192_63 rfl
theorem c192_64 : mcode 192 64 = some (.aload_n 0, 1, 0, 0, 0) := rfl
theorem r192_64 : Rn 192 (64, [some (.ref q), x1, x2, x3], st, a, h) = Rn 192 (65, [some (.ref q), x1, x2, x3], .ref q :: st, a, h) := Rn_go c192_64 rfl
theorem c192_65 : mcode 192 65 = some (.dup, 1, 0, 0, 0) := rfl
theorem r192_65 : Rn 192 (65, [x0, x1, x2, x3], .ref q :: st, a, h) = Rn 192 (66, [x0, x1, x2, x3], .ref q :: .ref q :: st, a, h) := Rn_go c192_65 rfl
theorem c192_66 : mcode 192 66 = some (.getfield 213, 3, 6, 7, 0) := rfl
theorem r192_66 : Rn 192 (66, [x0, x1, x2, x3], .ref q :: st, a, h) = Kv 192 69 [x0, x1, x2, x3] st a h (mgf h q 6 7) := Rn_getf c192_66 rfl
theorem c192_69 : mcode 192 69 = some (.iconst 1, 1, 0, 0, 0) := rfl
theorem r192_69 : Rn 192 (69, [x0, x1, x2, x3], st, a, h) = Rn 192 (70, [x0, x1, x2, x3], .int (1 : Int32) :: st, a, h) := Rn_go c192_69 rfl
theorem c192_70 : mcode 192 70 = some (.iadd, 1, 0, 0, 0) := rfl
theorem r192_70 : Rn 192 (70, [x0, x1, x2, x3], .int j :: .int i :: st, a, h) = Rn 192 (71, [x0, x1, x2, x3], .int (i + j) :: st, a, h) := Rn_go c192_70 rfl
theorem c192_71 : mcode 192 71 = some (.putfield 213, 3, 6, 7, 0) := rfl
theorem r192_71 : Rn 192 (71, [x0, x1, x2, x3], .int i :: .ref q :: st, a, h) = Kh 192 74 [x0, x1, x2, x3] st a (mpf h q 6 7 (.int i)) := Rn_putfi c192_71 rfl rfl
theorem c192_74 : mcode 192 74 = some (.iinc 3 (-1), 3, 0, 0, 0) := rfl
theorem r192_74 : Rn 192 (74, [x0, x1, x2, some (.int i)], st, a, h) = Nl x2 (Rn 192 (77, [x0, x1, x2, some (.int (i + (-1 : Int32)))], st, a, h)) := Rn_st1 (k := 3) (v := .int (i + (-1 : Int32))) x2 c192_74 rfl rfl rfl rfl
theorem c192_77 : mcode 192 77 = some (.goto (-36), 3, 0, 0, 0) := rfl
theorem r192_77 : Rn 192 (77, [x0, x1, x2, x3], st, a, h) = Rn 192 (41, [x0, x1, x2, x3], st, a, h) := Rn_goto c192_77 rfl
theorem c192_80 : mcode 192 80 = some (.aload_n 0, 1, 0, 0, 0) := rfl
theorem r192_80 : Rn 192 (80, [some (.ref q), x1, x2, x3], st, a, h) = Rn 192 (81, [some (.ref q), x1, x2, x3], .ref q :: st, a, h) := Rn_go c192_80 rfl
theorem c192_81 : mcode 192 81 = some (.getfield 213, 3, 6, 7, 0) := rfl
theorem r192_81 : Rn 192 (81, [x0, x1, x2, x3], .ref q :: st, a, h) = Kv 192 84 [x0, x1, x2, x3] st a h (mgf h q 6 7) := Rn_getf c192_81 rfl
theorem c192_84 : mcode 192 84 = some (.ireturn, 1, 0, 0, 0) := rfl
theorem r192_84 : Rn 192 (84, [x0, x1, x2, x3], [.int i], a, h) = some (some (.int i), a, h) := Rn_ireti c192_84
theorem c193_0 : mcode 193 0 = some (.aload_n 0, 1, 0, 0, 0) := rfl
theorem r193_0 : Rn 193 (0, [some (.ref q), x1], st, a, h) = Rn 193 (1, [some (.ref q), x1], .ref q :: st, a, h) := Rn_go c193_0 rfl
theorem c193_1 : mcode 193 1 = some (.getfield 213, 3, 6, 7, 0) := rfl
theorem r193_1 : Rn 193 (1, [x0, x1], .ref q :: st, a, h) = Kv 193 4 [x0, x1] st a h (mgf h q 6 7) := Rn_getf c193_1 rfl
theorem c193_4 : mcode 193 4 = some (.istore_n 1, 1, 0, 0, 0) := rfl
theorem r193_4 : Rn 193 (4, [x0, x1], .int i :: st, a, h) = Nl x0 (Rn 193 (5, [x0, some (.int i)], st, a, h)) := Rn_st1 (k := 1) (v := .int i) x0 c193_4 rfl rfl rfl rfl
theorem c193_5 : mcode 193 5 = some (.aload_n 0, 1, 0, 0, 0) := rfl
theorem r193_5 : Rn 193 (5, [some (.ref q), x1], st, a, h) = Rn 193 (6, [some (.ref q), x1], .ref q :: st, a, h) := Rn_go c193_5 rfl
theorem c193_6 : mcode 193 6 = some (.iconst 0, 1, 0, 0, 0) := rfl
theorem r193_6 : Rn 193 (6, [x0, x1], st, a, h) = Rn 193 (7, [x0, x1], .int (0 : Int32) :: st, a, h) := Rn_go c193_6 rfl
theorem c193_7 : mcode 193 7 = some (.putfield 213, 3, 6, 7, 0) := rfl
theorem r193_7 : Rn 193 (7, [x0, x1], .int i :: .ref q :: st, a, h) = Kh 193 10 [x0, x1] st a (mpf h q 6 7 (.int i)) := Rn_putfi c193_7 rfl rfl
theorem c193_10 : mcode 193 10 = some (.iload_n 1, 1, 0, 0, 0) := rfl
theorem r193_10 : Rn 193 (10, [x0, some (.int i)], st, a, h) = Rn 193 (11, [x0, some (.int i)], .int i :: st, a, h) := Rn_go c193_10 rfl
theorem c193_11 : mcode 193 11 = some (.ireturn, 1, 0, 0, 0) := rfl
theorem r193_11 : Rn 193 (11, [x0, x1], [.int i], a, h) = some (some (.int i), a, h) := Rn_ireti c193_11
theorem c194_0 : mcode 194 0 = some (.iload_n 0, 1, 0, 0, 0) := rfl
theorem r194_0 : Rn 194 (0, [some (.int i)], st, a, h) = Rn 194 (1, [some (.int i)], .int i :: st, a, h) := Rn_go c194_0 rfl
theorem c194_1 : mcode 194 1 = some (.bipush 97, 2, 0, 0, 0) := rfl
theorem r194_1 : Rn 194 (1, [x0], st, a, h) = Rn 194 (3, [x0], .int (97 : Int32) :: st, a, h) := Rn_go c194_1 rfl
theorem c194_3 : mcode 194 3 = some (.if_icmp .lt 13, 3, 0, 0, 0) := rfl
theorem r194_3 : Rn 194 (3, [x0], .int j :: .int i :: st, a, h) = if i < j then Rn 194 (16, [x0], st, a, h) else Rn 194 (6, [x0], st, a, h) := Rn_icmp c194_3 mc_lt rfl rfl
theorem c194_6 : mcode 194 6 = some (.iload_n 0, 1, 0, 0, 0) := rfl
theorem r194_6 : Rn 194 (6, [some (.int i)], st, a, h) = Rn 194 (7, [some (.int i)], .int i :: st, a, h) := Rn_go c194_6 rfl
theorem c194_7 : mcode 194 7 = some (.bipush 122, 2, 0, 0, 0) := rfl
theorem r194_7 : Rn 194 (7, [x0], st, a, h) = Rn 194 (9, [x0], .int (122 : Int32) :: st, a, h) := Rn_go c194_7 rfl
theorem c194_9 : mcode 194 9 = some (.if_icmp .gt 7, 3, 0, 0, 0) := rfl
theorem r194_9 : Rn 194 (9, [x0], .int j :: .int i :: st, a, h) = if j < i then Rn 194 (16, [x0], st, a, h) else Rn 194 (12, [x0], st, a, h) := Rn_icmp c194_9 mc_gt rfl rfl
theorem c194_12 : mcode 194 12 = some (.iconst 1, 1, 0, 0, 0) := rfl
theorem r194_12 : Rn 194 (12, [x0], st, a, h) = Rn 194 (13, [x0], .int (1 : Int32) :: st, a, h) := Rn_go c194_12 rfl
theorem c194_13 : mcode 194 13 = some (.goto 4, 3, 0, 0, 0) := rfl
theorem r194_13 : Rn 194 (13, [x0], st, a, h) = Rn 194 (17, [x0], st, a, h) := Rn_goto c194_13 rfl
theorem c194_16 : mcode 194 16 = some (.iconst 0, 1, 0, 0, 0) := rfl
theorem r194_16 : Rn 194 (16, [x0], st, a, h) = Rn 194 (17, [x0], .int (0 : Int32) :: st, a, h) := Rn_go c194_16 rfl
theorem c194_17 : mcode 194 17 = some (.ireturn, 1, 1, 0, 0) := rfl
theorem r194_17 : Rn 194 (17, [x0], [.int i], a, h) = if mrt 1 i = true then some (some (.int i), a, h) else none := Rn_iretz c194_17
theorem c195_0 : mcode 195 0 = some (.iload_n 0, 1, 0, 0, 0) := rfl
theorem r195_0 : Rn 195 (0, [some (.int i)], st, a, h) = Rn 195 (1, [some (.int i)], .int i :: st, a, h) := Rn_go c195_0 rfl
theorem c195_1 : mcode 195 1 = some (.bipush 48, 2, 0, 0, 0) := rfl
theorem r195_1 : Rn 195 (1, [x0], st, a, h) = Rn 195 (3, [x0], .int (48 : Int32) :: st, a, h) := Rn_go c195_1 rfl
theorem c195_3 : mcode 195 3 = some (.if_icmp .lt 13, 3, 0, 0, 0) := rfl
theorem r195_3 : Rn 195 (3, [x0], .int j :: .int i :: st, a, h) = if i < j then Rn 195 (16, [x0], st, a, h) else Rn 195 (6, [x0], st, a, h) := Rn_icmp c195_3 mc_lt rfl rfl
theorem c195_6 : mcode 195 6 = some (.iload_n 0, 1, 0, 0, 0) := rfl
theorem r195_6 : Rn 195 (6, [some (.int i)], st, a, h) = Rn 195 (7, [some (.int i)], .int i :: st, a, h) := Rn_go c195_6 rfl
theorem c195_7 : mcode 195 7 = some (.bipush 57, 2, 0, 0, 0) := rfl
theorem r195_7 : Rn 195 (7, [x0], st, a, h) = Rn 195 (9, [x0], .int (57 : Int32) :: st, a, h) := Rn_go c195_7 rfl
theorem c195_9 : mcode 195 9 = some (.if_icmp .gt 7, 3, 0, 0, 0) := rfl
theorem r195_9 : Rn 195 (9, [x0], .int j :: .int i :: st, a, h) = if j < i then Rn 195 (16, [x0], st, a, h) else Rn 195 (12, [x0], st, a, h) := Rn_icmp c195_9 mc_gt rfl rfl
theorem c195_12 : mcode 195 12 = some (.iconst 1, 1, 0, 0, 0) := rfl
theorem r195_12 : Rn 195 (12, [x0], st, a, h) = Rn 195 (13, [x0], .int (1 : Int32) :: st, a, h) := Rn_go c195_12 rfl
theorem c195_13 : mcode 195 13 = some (.goto 4, 3, 0, 0, 0) := rfl
theorem r195_13 : Rn 195 (13, [x0], st, a, h) = Rn 195 (17, [x0], st, a, h) := Rn_goto c195_13 rfl
theorem c195_16 : mcode 195 16 = some (.iconst 0, 1, 0, 0, 0) := rfl
theorem r195_16 : Rn 195 (16, [x0], st, a, h) = Rn 195 (17, [x0], .int (0 : Int32) :: st, a, h) := Rn_go c195_16 rfl
theorem c195_17 : mcode 195 17 = some (.ireturn, 1, 1, 0, 0) := rfl
theorem r195_17 : Rn 195 (17, [x0], [.int i], a, h) = if mrt 1 i = true then some (some (.int i), a, h) else none := Rn_iretz c195_17
theorem c196_0 : mcode 196 0 = some (.iload_n 1, 1, 0, 0, 0) := rfl
theorem r196_0 : Rn 196 (0, [x0, some (.int i)], st, a, h) = Rn 196 (1, [x0, some (.int i)], .int i :: st, a, h) := Rn_go c196_0 rfl
theorem c196_1 : mcode 196 1 = some (.aload_n 0, 1, 0, 0, 0) := rfl
theorem r196_1 : Rn 196 (1, [some (.ref q), x1], st, a, h) = Rn 196 (2, [some (.ref q), x1], .ref q :: st, a, h) := Rn_go c196_1 rfl
theorem c196_2 : mcode 196 2 = some (.getfield 213, 3, 6, 7, 0) := rfl
theorem r196_2 : Rn 196 (2, [x0, x1], .ref q :: st, a, h) = Kv 196 5 [x0, x1] st a h (mgf h q 6 7) := Rn_getf c196_2 rfl
theorem c196_5 : mcode 196 5 = some (.if_icmp .ge 12, 3, 0, 0, 0) := rfl
theorem r196_5 : Rn 196 (5, [x0, x1], .int j :: .int i :: st, a, h) = if i < j then Rn 196 (8, [x0, x1], st, a, h) else Rn 196 (17, [x0, x1], st, a, h) := Rn_icmpn c196_5 mc_ge rfl rfl
theorem c196_8 : mcode 196 8 = some (.aload_n 0, 1, 0, 0, 0) := rfl
theorem r196_8 : Rn 196 (8, [some (.ref q), x1], st, a, h) = Rn 196 (9, [some (.ref q), x1], .ref q :: st, a, h) := Rn_go c196_8 rfl
theorem c196_9 : mcode 196 9 = some (.getfield 25, 3, 6, 6, 0) := rfl
theorem r196_9 : Rn 196 (9, [x0, x1], .ref q :: st, a, h) = Kv 196 12 [x0, x1] st a h (mgf h q 6 6) := Rn_getf c196_9 rfl
theorem c196_12 : mcode 196 12 = some (.iload_n 1, 1, 0, 0, 0) := rfl
theorem r196_12 : Rn 196 (12, [x0, some (.int i)], st, a, h) = Rn 196 (13, [x0, some (.int i)], .int i :: st, a, h) := Rn_go c196_12 rfl
theorem c196_13 : mcode 196 13 = some (.iaload, 1, 0, 0, 0) := rfl
theorem r196_13 : Rn 196 (13, [x0, x1], .int i :: .ref q :: st, a, h) = Ki 196 14 [x0, x1] st a h (mld h q i false) := Rn_iald c196_13 rfl
theorem c196_14 : mcode 196 14 = some (.goto 4, 3, 0, 0, 0) := rfl
theorem r196_14 : Rn 196 (14, [x0, x1], st, a, h) = Rn 196 (18, [x0, x1], st, a, h) := Rn_goto c196_14 rfl
theorem c196_17 : mcode 196 17 = some (.iconst (-1), 1, 0, 0, 0) := rfl
theorem r196_17 : Rn 196 (17, [x0, x1], st, a, h) = Rn 196 (18, [x0, x1], .int (-1 : Int32) :: st, a, h) := Rn_go c196_17 rfl
theorem c196_18 : mcode 196 18 = some (.ireturn, 1, 0, 0, 0) := rfl
theorem r196_18 : Rn 196 (18, [x0, x1], [.int i], a, h) = some (some (.int i), a, h) := Rn_ireti c196_18
theorem c197_0 : mcode 197 0 = some (.aload_n 0, 1, 0, 0, 0) := rfl
theorem r197_0 : Rn 197 (0, [some (.ref q), x1], st, a, h) = Rn 197 (1, [some (.ref q), x1], .ref q :: st, a, h) := Rn_go c197_0 rfl
theorem c197_1 : mcode 197 1 = some (.aload_n 0, 1, 0, 0, 0) := rfl
theorem r197_1 : Rn 197 (1, [some (.ref q), x1], st, a, h) = Rn 197 (2, [some (.ref q), x1], .ref q :: st, a, h) := Rn_go c197_1 rfl
theorem c197_2 : mcode 197 2 = some (.getfield 216, 3, 6, 15, 0) := rfl
theorem r197_2 : Rn 197 (2, [x0, x1], .ref q :: st, a, h) = Kv 197 5 [x0, x1] st a h (mgf h q 6 15) := Rn_getf c197_2 rfl
theorem c197_5 : mcode 197 5 = some (.putfield 219, 3, 6, 14, 0) := rfl
theorem r197_5 : Rn 197 (5, [x0, x1], .int i :: .ref q :: st, a, h) = Kh 197 8 [x0, x1] st a (mpf h q 6 14 (.int i)) := Rn_putfi c197_5 rfl rfl
theorem c197_8 : mcode 197 8 = some (.aload_n 0, 1, 0, 0, 0) := rfl
theorem r197_8 : Rn 197 (8, [some (.ref q), x1], st, a, h) = Rn 197 (9, [some (.ref q), x1], .ref q :: st, a, h) := Rn_go c197_8 rfl
theorem c197_9 : mcode 197 9 = some (.aload_n 0, 1, 0, 0, 0) := rfl
theorem r197_9 : Rn 197 (9, [some (.ref q), x1], st, a, h) = Rn 197 (10, [some (.ref q), x1], .ref q :: st, a, h) := Rn_go c197_9 rfl
theorem c197_10 : mcode 197 10 = some (.getfield 219, 3, 6, 14, 0) := rfl
theorem r197_10 : Rn 197 (10, [x0, x1], .ref q :: st, a, h) = Kv 197 13 [x0, x1] st a h (mgf h q 6 14) := Rn_getf c197_10 rfl
theorem c197_13 : mcode 197 13 = some (.invokevirtual 222, 3, 196, 1, 6) := rfl
theorem r197_13 : Rn 197 (13, [x0, x1], [v0, .ref q], a, h) = if mis h q 6 = true then Bk 197 16 [x0, x1] [] (Ec 196 [.ref q, v0] a h) else none := Rn_call1 c197_13 rfl (Nat.le_of_ble_eq_true rfl) rfl rfl (Nat.le_of_ble_eq_true rfl)
theorem c197_16 : mcode 197 16 = some (.bipush 32, 2, 0, 0, 0) := rfl
theorem r197_16 : Rn 197 (16, [x0, x1], st, a, h) = Rn 197 (18, [x0, x1], .int (32 : Int32) :: st, a, h) := Rn_go c197_16 rfl
theorem c197_18 : mcode 197 18 = some (.if_icmp .ne 16, 3, 0, 0, 0) := rfl
theorem r197_18 : Rn 197 (18, [x0, x1], .int j :: .int i :: st, a, h) = if i = j then Rn 197 (21, [x0, x1], st, a, h) else Rn 197 (34, [x0, x1], st, a, h) := Rn_icmpn c197_18 mc_ne rfl rfl
theorem c197_21 : mcode 197 21 = some (.aload_n 0, 1, 0, 0, 0) := rfl
theorem r197_21 : Rn 197 (21, [some (.ref q), x1], st, a, h) = Rn 197 (22, [some (.ref q), x1], .ref q :: st, a, h) := Rn_go c197_21 rfl
theorem c197_22 : mcode 197 22 = some (.dup, 1, 0, 0, 0) := rfl
theorem r197_22 : Rn 197 (22, [x0, x1], .ref q :: st, a, h) = Rn 197 (23, [x0, x1], .ref q :: .ref q :: st, a, h) := Rn_go c197_22 rfl
theorem c197_23 : mcode 197 23 = some (.getfield 219, 3, 6, 14, 0) := rfl
theorem r197_23 : Rn 197 (23, [x0, x1], .ref q :: st, a, h) = Kv 197 26 [x0, x1] st a h (mgf h q 6 14) := Rn_getf c197_23 rfl
theorem c197_26 : mcode 197 26 = some (.iconst 1, 1, 0, 0, 0) := rfl
theorem r197_26 : Rn 197 (26, [x0, x1], st, a, h) = Rn 197 (27, [x0, x1], .int (1 : Int32) :: st, a, h) := Rn_go c197_26 rfl
theorem c197_27 : mcode 197 27 = some (.iadd, 1, 0, 0, 0) := rfl
theorem r197_27 : Rn 197 (27, [x0, x1], .int j :: .int i :: st, a, h) = Rn 197 (28, [x0, x1], .int (i + j) :: st, a, h) := Rn_go c197_27 rfl
theorem c197_28 : mcode 197 28 = some (.putfield 219, 3, 6, 14, 0) := rfl
theorem r197_28 : Rn 197 (28, [x0, x1], .int i :: .ref q :: st, a, h) = Kh 197 31 [x0, x1] st a (mpf h q 6 14 (.int i)) := Rn_putfi c197_28 rfl rfl
theorem c197_31 : mcode 197 31 = some (.goto (-23), 3, 0, 0, 0) := rfl
theorem r197_31 : Rn 197 (31, [x0, x1], st, a, h) = Rn 197 (8, [x0, x1], st, a, h) := Rn_goto c197_31 rfl
theorem c197_34 : mcode 197 34 = some (.aload_n 0, 1, 0, 0, 0) := rfl
theorem r197_34 : Rn 197 (34, [some (.ref q), x1], st, a, h) = Rn 197 (35, [some (.ref q), x1], .ref q :: st, a, h) := Rn_go c197_34 rfl
theorem c197_35 : mcode 197 35 = some (.aload_n 0, 1, 0, 0, 0) := rfl
theorem r197_35 : Rn 197 (35, [some (.ref q), x1], st, a, h) = Rn 197 (36, [some (.ref q), x1], .ref q :: st, a, h) := Rn_go c197_35 rfl
theorem c197_36 : mcode 197 36 = some (.getfield 219, 3, 6, 14, 0) := rfl
theorem r197_36 : Rn 197 (36, [x0, x1], .ref q :: st, a, h) = Kv 197 39 [x0, x1] st a h (mgf h q 6 14) := Rn_getf c197_36 rfl
theorem c197_39 : mcode 197 39 = some (.putfield 216, 3, 6, 15, 0) := rfl
theorem r197_39 : Rn 197 (39, [x0, x1], .int i :: .ref q :: st, a, h) = Kh 197 42 [x0, x1] st a (mpf h q 6 15 (.int i)) := Rn_putfi c197_39 rfl rfl
theorem c197_42 : mcode 197 42 = some (.aload_n 0, 1, 0, 0, 0) := rfl
theorem r197_42 : Rn 197 (42, [some (.ref q), x1], st, a, h) = Rn 197 (43, [some (.ref q), x1], .ref q :: st, a, h) := Rn_go c197_42 rfl
theorem c197_43 : mcode 197 43 = some (.aload_n 0, 1, 0, 0, 0) := rfl
theorem r197_43 : Rn 197 (43, [some (.ref q), x1], st, a, h) = Rn 197 (44, [some (.ref q), x1], .ref q :: st, a, h) := Rn_go c197_43 rfl
theorem c197_44 : mcode 197 44 = some (.getfield 219, 3, 6, 14, 0) := rfl
theorem r197_44 : Rn 197 (44, [x0, x1], .ref q :: st, a, h) = Kv 197 47 [x0, x1] st a h (mgf h q 6 14) := Rn_getf c197_44 rfl
theorem c197_47 : mcode 197 47 = some (.invokevirtual 222, 3, 196, 1, 6) := rfl
theorem r197_47 : Rn 197 (47, [x0, x1], [v0, .ref q], a, h) = if mis h q 6 = true then Bk 197 50 [x0, x1] [] (Ec 196 [.ref q, v0] a h) else none := Rn_call1 c197_47 rfl (Nat.le_of_ble_eq_true rfl) rfl rfl (Nat.le_of_ble_eq_true rfl)
theorem c197_50 : mcode 197 50 = some (.istore_n 1, 1, 0, 0, 0) := rfl
theorem r197_50 : Rn 197 (50, [x0, x1], .int i :: st, a, h) = Nl x0 (Rn 197 (51, [x0, some (.int i)], st, a, h)) := Rn_st1 (k := 1) (v := .int i) x0 c197_50 rfl rfl rfl rfl
theorem c197_51 : mcode 197 51 = some (.aload_n 0, 1, 0, 0, 0) := rfl
theorem r197_51 : Rn 197 (51, [some (.ref q), x1], st, a, h) = Rn 197 (52, [some (.ref q), x1], .ref q :: st, a, h) := Rn_go c197_51 rfl
theorem c197_52 : mcode 197 52 = some (.iload_n 1, 1, 0, 0, 0) := rfl
theorem r197_52 : Rn 197 (52, [x0, some (.int i)], st, a, h) = Rn 197 (53, [x0, some (.int i)], .int i :: st, a, h) := Rn_go c197_52 rfl
theorem c197_53 : mcode 197 53 = some (.ifCond .ge 7, 3, 0, 0, 0) := rfl
theorem r197_53 : Rn 197 (53, [x0, x1], .int i :: st, a, h) = if i < 0 then Rn 197 (56, [x0, x1], st, a, h) else Rn 197 (60, [x0, x1], st, a, h) := Rn_ifcn c197_53 mc_ge rfl rfl
theorem c197_56 : mcode 197 56 = some (.iconst 0, 1, 0, 0, 0) := rfl
theorem r197_56 : Rn 197 (56, [x0, x1], st, a, h) = Rn 197 (57, [x0, x1], .int (0 : Int32) :: st, a, h) := Rn_go c197_56 rfl
theorem c197_57 : mcode 197 57 = some (.goto 36, 3, 0, 0, 0) := rfl
theorem r197_57 : Rn 197 (57, [x0, x1], st, a, h) = Rn 197 (93, [x0, x1], st, a, h) := Rn_goto c197_57 rfl
theorem c197_60 : mcode 197 60 = some (.iload_n 1, 1, 0, 0, 0) := rfl
theorem r197_60 : Rn 197 (60, [x0, some (.int i)], st, a, h) = Rn 197 (61, [x0, some (.int i)], .int i :: st, a, h) := Rn_go c197_60 rfl
theorem c197_61 : mcode 197 61 = some (.invokestatic 225, 3, 194, 1, 0) := rfl
theorem r197_61 : Rn 197 (61, [x0, x1], [v0, .ref q0], a, h) = Bk 197 64 [x0, x1] [.ref q0] (Ec 194 [v0] a h) := Rn_call0 c197_61 (fun z => nomatch z) rfl (Nat.le_of_ble_eq_true rfl) rfl rfl (Nat.le_of_ble_eq_true rfl)
theorem c197_64 : mcode 197 64 = some (.ifCond .eq 7, 3, 0, 0, 0) := rfl
theorem r197_64 : Rn 197 (64, [x0, x1], .int i :: st, a, h) = if i = 0 then Rn 197 (71, [x0, x1], st, a, h) else Rn 197 (67, [x0, x1], st, a, h) := Rn_ifc c197_64 mc_eq rfl rfl
theorem c197_67 : mcode 197 67 = some (.iconst 1, 1, 0, 0, 0) := rfl
theorem r197_67 : Rn 197 (67, [x0, x1], st, a, h) = Rn 197 (68, [x0, x1], .int (1 : Int32) :: st, a, h) := Rn_go c197_67 rfl
theorem c197_68 : mcode 197 68 = some (.goto 25, 3, 0, 0, 0) := rfl
theorem r197_68 : Rn 197 (68, [x0, x1], st, a, h) = Rn 197 (93, [x0, x1], st, a, h) := Rn_goto c197_68 rfl
theorem c197_71 : mcode 197 71 = some (.iload_n 1, 1, 0, 0, 0) := rfl
theorem r197_71 : Rn 197 (71, [x0, some (.int i)], st, a, h) = Rn 197 (72, [x0, some (.int i)], .int i :: st, a, h) := Rn_go c197_71 rfl
theorem c197_72 : mcode 197 72 = some (.invokestatic 228, 3, 195, 1, 0) := rfl
theorem r197_72 : Rn 197 (72, [x0, x1], [v0, .ref q0], a, h) = Bk 197 75 [x0, x1] [.ref q0] (Ec 195 [v0] a h) := Rn_call0 c197_72 (fun z => nomatch z) rfl (Nat.le_of_ble_eq_true rfl) rfl rfl (Nat.le_of_ble_eq_true rfl)
theorem c197_75 : mcode 197 75 = some (.ifCond .eq 7, 3, 0, 0, 0) := rfl
theorem r197_75 : Rn 197 (75, [x0, x1], .int i :: st, a, h) = if i = 0 then Rn 197 (82, [x0, x1], st, a, h) else Rn 197 (78, [x0, x1], st, a, h) := Rn_ifc c197_75 mc_eq rfl rfl
theorem c197_78 : mcode 197 78 = some (.iconst 2, 1, 0, 0, 0) := rfl
theorem r197_78 : Rn 197 (78, [x0, x1], st, a, h) = Rn 197 (79, [x0, x1], .int (2 : Int32) :: st, a, h) := Rn_go c197_78 rfl
theorem c197_79 : mcode 197 79 = some (.goto 14, 3, 0, 0, 0) := rfl
theorem r197_79 : Rn 197 (79, [x0, x1], st, a, h) = Rn 197 (93, [x0, x1], st, a, h) := Rn_goto c197_79 rfl
theorem c197_82 : mcode 197 82 = some (.iload_n 1, 1, 0, 0, 0) := rfl
theorem r197_82 : Rn 197 (82, [x0, some (.int i)], st, a, h) = Rn 197 (83, [x0, some (.int i)], .int i :: st, a, h) := Rn_go c197_82 rfl
theorem c197_83 : mcode 197 83 = some (.bipush 59, 2, 0, 0, 0) := rfl
theorem r197_83 : Rn 197 (83, [x0, x1], st, a, h) = Rn 197 (85, [x0, x1], .int (59 : Int32) :: st, a, h) := Rn_go c197_83 rfl
theorem c197_85 : mcode 197 85 = some (.if_icmp .ne 7, 3, 0, 0, 0) := rfl
theorem r197_85 : Rn 197 (85, [x0, x1], .int j :: .int i :: st, a, h) = if i = j then Rn 197 (88, [x0, x1], st, a, h) else Rn 197 (92, [x0, x1], st, a, h) := Rn_icmpn c197_85 mc_ne rfl rfl
theorem c197_88 : mcode 197 88 = some (.iconst 3, 1, 0, 0, 0) := rfl
theorem r197_88 : Rn 197 (88, [x0, x1], st, a, h) = Rn 197 (89, [x0, x1], .int (3 : Int32) :: st, a, h) := Rn_go c197_88 rfl
theorem c197_89 : mcode 197 89 = some (.goto 4, 3, 0, 0, 0) := rfl
theorem r197_89 : Rn 197 (89, [x0, x1], st, a, h) = Rn 197 (93, [x0, x1], st, a, h) := Rn_goto c197_89 rfl
theorem c197_92 : mcode 197 92 = some (.iconst 4, 1, 0, 0, 0) := rfl
theorem r197_92 : Rn 197 (92, [x0, x1], st, a, h) = Rn 197 (93, [x0, x1], .int (4 : Int32) :: st, a, h) := Rn_go c197_92 rfl
theorem c197_93 : mcode 197 93 = some (.putfield 231, 3, 6, 13, 0) := rfl
theorem r197_93 : Rn 197 (93, [x0, x1], .int i :: .ref q :: st, a, h) = Kh 197 96 [x0, x1] st a (mpf h q 6 13 (.int i)) := Rn_putfi c197_93 rfl rfl
theorem c197_96 : mcode 197 96 = some (.aload_n 0, 1, 0, 0, 0) := rfl
theorem r197_96 : Rn 197 (96, [some (.ref q), x1], st, a, h) = Rn 197 (97, [some (.ref q), x1], .ref q :: st, a, h) := Rn_go c197_96 rfl
theorem c197_97 : mcode 197 97 = some (.iconst 0, 1, 0, 0, 0) := rfl
theorem r197_97 : Rn 197 (97, [x0, x1], st, a, h) = Rn 197 (98, [x0, x1], .int (0 : Int32) :: st, a, h) := Rn_go c197_97 rfl
theorem c197_98 : mcode 197 98 = some (.putfield 234, 3, 6, 16, 0) := rfl
theorem r197_98 : Rn 197 (98, [x0, x1], .int i :: .ref q :: st, a, h) = Kh 197 101 [x0, x1] st a (mpf h q 6 16 (.int i)) := Rn_putfi c197_98 rfl rfl
theorem c197_101 : mcode 197 101 = some (.aload_n 0, 1, 0, 0, 0) := rfl
theorem r197_101 : Rn 197 (101, [some (.ref q), x1], st, a, h) = Rn 197 (102, [some (.ref q), x1], .ref q :: st, a, h) := Rn_go c197_101 rfl
theorem c197_102 : mcode 197 102 = some (.getfield 231, 3, 6, 13, 0) := rfl
theorem r197_102 : Rn 197 (102, [x0, x1], .ref q :: st, a, h) = Kv 197 105 [x0, x1] st a h (mgf h q 6 13) := Rn_getf c197_102 rfl
theorem c197_105 : mcode 197 105 = some (.iconst 1, 1, 0, 0, 0) := rfl
theorem r197_105 : Rn 197 (105, [x0, x1], st, a, h) = Rn 197 (106, [x0, x1], .int (1 : Int32) :: st, a, h) := Rn_go c197_105 rfl
theorem c197_106 : mcode 197 106 = some (.if_icmp .ne 30, 3, 0, 0, 0) := rfl
theorem r197_106 : Rn 197 (106, [x0, x1], .int j :: .int i :: st, a, h) = if i = j then Rn 197 (109, [x0, x1], st, a, h) else Rn 197 (136, [x0, x1], st, a, h) := Rn_icmpn c197_106 mc_ne rfl rfl
theorem c197_109 : mcode 197 109 = some (.aload_n 0, 1, 0, 0, 0) := rfl
theorem r197_109 : Rn 197 (109, [some (.ref q), x1], st, a, h) = Rn 197 (110, [some (.ref q), x1], .ref q :: st, a, h) := Rn_go c197_109 rfl
theorem c197_110 : mcode 197 110 = some (.aload_n 0, 1, 0, 0, 0) := rfl
theorem r197_110 : Rn 197 (110, [some (.ref q), x1], st, a, h) = Rn 197 (111, [some (.ref q), x1], .ref q :: st, a, h) := Rn_go c197_110 rfl
theorem c197_111 : mcode 197 111 = some (.getfield 216, 3, 6, 15, 0) := rfl
theorem r197_111 : Rn 197 (111, [x0, x1], .ref q :: st, a, h) = Kv 197 114 [x0, x1] st a h (mgf h q 6 15) := Rn_getf c197_111 rfl
theorem c197_114 : mcode 197 114 = some (.invokevirtual 222, 3, 196, 1, 6) := rfl
theorem r197_114 : Rn 197 (114, [x0, x1], [v0, .ref q], a, h) = if mis h q 6 = true then Bk 197 117 [x0, x1] [] (Ec 196 [.ref q, v0] a h) else none := Rn_call1 c197_114 rfl (Nat.le_of_ble_eq_true rfl) rfl rfl (Nat.le_of_ble_eq_true rfl)
theorem c197_117 : mcode 197 117 = some (.invokestatic 225, 3, 194, 1, 0) := rfl
theorem r197_117 : Rn 197 (117, [x0, x1], [v0], a, h) = Bk 197 120 [x0, x1] [] (Ec 194 [v0] a h) := Rn_call0 c197_117 (fun z => nomatch z) rfl (Nat.le_of_ble_eq_true rfl) rfl rfl (Nat.le_of_ble_eq_true rfl)
theorem c197_120 : mcode 197 120 = some (.ifCond .eq 16, 3, 0, 0, 0) := rfl
theorem r197_120 : Rn 197 (120, [x0, x1], .int i :: st, a, h) = if i = 0 then Rn 197 (136, [x0, x1], st, a, h) else Rn 197 (123, [x0, x1], st, a, h) := Rn_ifc c197_120 mc_eq rfl rfl
theorem c197_123 : mcode 197 123 = some (.aload_n 0, 1, 0, 0, 0) := rfl
theorem r197_123 : Rn 197 (123, [some (.ref q), x1], st, a, h) = Rn 197 (124, [some (.ref q), x1], .ref q :: st, a, h) := Rn_go c197_123 rfl
theorem c197_124 : mcode 197 124 = some (.dup, 1, 0, 0, 0) := rfl
theorem r197_124 : Rn 197 (124, [x0, x1], .ref q :: st, a, h) = Rn 197 (125, [x0, x1], .ref q :: .ref q :: st, a, h) := Rn_go c197_124 rfl
theorem c197_125 : mcode 197 125 = some (.getfield 216, 3, 6, 15, 0) := rfl
theorem r197_125 : Rn 197 (125, [x0, x1], .ref q :: st, a, h) = Kv 197 128 [x0, x1] st a h (mgf h q 6 15) := Rn_getf c197_125 rfl
theorem c197_128 : mcode 197 128 = some (.iconst 1, 1, 0, 0, 0) := rfl
theorem r197_128 : Rn 197 (128, [x0, x1], st, a, h) = Rn 197 (129, [x0, x1], .int (1 : Int32) :: st, a, h) := Rn_go c197_128 rfl
theorem c197_129 : mcode 197 129 = some (.iadd, 1, 0, 0, 0) := rfl
theorem r197_129 : Rn 197 (129, [x0, x1], .int j :: .int i :: st, a, h) = Rn 197 (130, [x0, x1], .int (i + j) :: st, a, h) := Rn_go c197_129 rfl
theorem c197_130 : mcode 197 130 = some (.putfield 216, 3, 6, 15, 0) := rfl
theorem r197_130 : Rn 197 (130, [x0, x1], .int i :: .ref q :: st, a, h) = Kh 197 133 [x0, x1] st a (mpf h q 6 15 (.int i)) := Rn_putfi c197_130 rfl rfl
theorem c197_133 : mcode 197 133 = some (.goto (-32), 3, 0, 0, 0) := rfl
theorem r197_133 : Rn 197 (133, [x0, x1], st, a, h) = Rn 197 (101, [x0, x1], st, a, h) := Rn_goto c197_133 rfl
theorem c197_136 : mcode 197 136 = some (.aload_n 0, 1, 0, 0, 0) := rfl
theorem r197_136 : Rn 197 (136, [some (.ref q), x1], st, a, h) = Rn 197 (137, [some (.ref q), x1], .ref q :: st, a, h) := Rn_go c197_136 rfl
theorem c197_137 : mcode 197 137 = some (.getfield 231, 3, 6, 13, 0) := rfl
theorem r197_137 : Rn 197 (137, [x0, x1], .ref q :: st, a, h) = Kv 197 140 [x0, x1] st a h (mgf h q 6 13) := Rn_getf c197_137 rfl
theorem c197_140 : mcode 197 140 = some (.iconst 2, 1, 0, 0, 0) := rfl
theorem r197_140 : Rn 197 (140, [x0, x1], st, a, h) = Rn 197 (141, [x0, x1], .int (2 : Int32) :: st, a, h) := Rn_go c197_140 rfl
theorem c197_141 : mcode 197 141 = some (.if_icmp .ne 70, 3, 0, 0, 0) := rfl
theorem r197_141 : Rn 197 (141, [x0, x1], .int j :: .int i :: st, a, h) = if i = j then Rn 197 (144, [x0, x1], st, a, h) else Rn 197 (211, [x0, x1], st, a, h) := Rn_icmpn c197_141 mc_ne rfl rfl
theorem c197_144 : mcode 197 144 = some (.aload_n 0, 1, 0, 0, 0) := rfl
theorem r197_144 : Rn 197 (144, [some (.ref q), x1], st, a, h) = Rn 197 (145, [some (.ref q), x1], .ref q :: st, a, h) := Rn_go c197_144 rfl
theorem c197_145 : mcode 197 145 = some (.aload_n 0, 1, 0, 0, 0) := rfl
theorem r197_145 : Rn 197 (145, [some (.ref q), x1], st, a, h) = Rn 197 (146, [some (.ref q), x1], .ref q :: st, a, h) := Rn_go c197_145 rfl
theorem c197_146 : mcode 197 146 = some (.getfield 216, 3, 6, 15, 0) := rfl
theorem r197_146 : Rn 197 (146, [x0, x1], .ref q :: st, a, h) = Kv 197 149 [x0, x1] st a h (mgf h q 6 15) := Rn_getf c197_146 rfl
theorem c197_149 : mcode 197 149 = some (.invokevirtual 222, 3, 196, 1, 6) := rfl
theorem r197_149 : Rn 197 (149, [x0, x1], [v0, .ref q], a, h) = if mis h q 6 = true then Bk 197 152 [x0, x1] [] (Ec 196 [.ref q, v0] a h) else none := Rn_call1 c197_149 rfl (Nat.le_of_ble_eq_true rfl) rfl rfl (Nat.le_of_ble_eq_true rfl)
theorem c197_152 : mcode 197 152 = some (.invokestatic 228, 3, 195, 1, 0) := rfl
theorem r197_152 : Rn 197 (152, [x0, x1], [v0], a, h) = Bk 197 155 [x0, x1] [] (Ec 195 [v0] a h) := Rn_call0 c197_152 (fun z => nomatch z) rfl (Nat.le_of_ble_eq_true rfl) rfl rfl (Nat.le_of_ble_eq_true rfl)
theorem c197_155 : mcode 197 155 = some (.ifCond .eq 56, 3, 0, 0, 0) := rfl
theorem r197_155 : Rn 197 (155, [x0, x1], .int i :: st, a, h) = if i = 0 then Rn 197 (211, [x0, x1], st, a, h) else Rn 197 (158, [x0, x1], st, a, h) := Rn_ifc c197_155 mc_eq rfl rfl
theorem c197_158 : mcode 197 158 = some (.aload_n 0, 1, 0, 0, 0) := rfl
theorem r197_158 : Rn 197 (158, [some (.ref q), x1], st, a, h) = Rn 197 (159, [some (.ref q), x1], .ref q :: st, a, h) := Rn_go c197_158 rfl
theorem c197_159 : mcode 197 159 = some (.aload_n 0, 1, 0, 0, 0) := rfl
theorem r197_159 : Rn 197 (159, [some (.ref q), x1], st, a, h) = Rn 197 (160, [some (.ref q), x1], .ref q :: st, a, h) := Rn_go c197_159 rfl
theorem c197_160 : mcode 197 160 = some (.getfield 234, 3, 6, 16, 0) := rfl
theorem r197_160 : Rn 197 (160, [x0, x1], .ref q :: st, a, h) = Kv 197 163 [x0, x1] st a h (mgf h q 6 16) := Rn_getf c197_160 rfl
theorem c197_163 : mcode 197 163 = some (.sipush 999, 3, 0, 0, 0) := rfl
theorem r197_163 : Rn 197 (163, [x0, x1], st, a, h) = Rn 197 (166, [x0, x1], .int (999 : Int32) :: st, a, h) := Rn_go c197_163 rfl
theorem c197_166 : mcode 197 166 = some (.if_icmp .le 10, 3, 0, 0, 0) := rfl
theorem r197_166 : Rn 197 (166, [x0, x1], .int j :: .int i :: st, a, h) = if j < i then Rn 197 (169, [x0, x1], st, a, h) else Rn 197 (176, [x0, x1], st, a, h) := Rn_icmpn c197_166 mc_le rfl rfl
theorem c197_169 : mcode 197 169 = some (.aload_n 0, 1, 0, 0, 0) := rfl
theorem r197_169 : Rn 197 (169, [some (.ref q), x1], st, a, h) = Rn 197 (170, [some (.ref q), x1], .ref q :: st, a, h) := Rn_go c197_169 rfl
theorem c197_170 : mcode 197 170 = some (.getfield 234, 3, 6, 16, 0) := rfl
theorem r197_170 : Rn 197 (170, [x0, x1], .ref q :: st, a, h) = Kv 197 173 [x0, x1] st a h (mgf h q 6 16) := Rn_getf c197_170 rfl
theorem c197_173 : mcode 197 173 = some (.goto 22, 3, 0, 0, 0) := rfl
theorem r197_173 : Rn 197 (173, [x0, x1], st, a, h) = Rn 197 (195, [x0, x1], st, a, h) := Rn_goto c197_173 rfl
theorem c197_176 : mcode 197 176 = some (.bipush 10, 2, 0, 0, 0) := rfl
theorem r197_176 : Rn 197 (176, [x0, x1], st, a, h) = Rn 197 (178, [x0, x1], .int (10 : Int32) :: st, a, h) := Rn_go c197_176 rfl
theorem c197_178 : mcode 197 178 = some (.aload_n 0, 1, 0, 0, 0) := rfl
theorem r197_178 : Rn 197 (178, [some (.ref q), x1], st, a, h) = Rn 197 (179, [some (.ref q), x1], .ref q :: st, a, h) := Rn_go c197_178 rfl
theorem c197_179 : mcode 197 179 = some (.getfield 234, 3, 6, 16, 0) := rfl
theorem r197_179 : Rn 197 (179, [x0, x1], .ref q :: st, a, h) = Kv 197 182 [x0, x1] st a h (mgf h q 6 16) := Rn_getf c197_179 rfl
theorem c197_182 : mcode 197 182 = some (.imul, 1, 0, 0, 0) := rfl
theorem r197_182 : Rn 197 (182, [x0, x1], .int j :: .int i :: st, a, h) = Rn 197 (183, [x0, x1], .int (i * j) :: st, a, h) := Rn_go c197_182 rfl
theorem c197_183 : mcode 197 183 = some (.aload_n 0, 1, 0, 0, 0) := rfl
theorem r197_183 : Rn 197 (183, [some (.ref q), x1], st, a, h) = Rn 197 (184, [some (.ref q), x1], .ref q :: st, a, h) := Rn_go c197_183 rfl
theorem c197_184 : mcode 197 184 = some (.aload_n 0, 1, 0, 0, 0) := rfl
theorem r197_184 : Rn 197 (184, [some (.ref q), x1], st, a, h) = Rn 197 (185, [some (.ref q), x1], .ref q :: st, a, h) := Rn_go c197_184 rfl
theorem c197_185 : mcode 197 185 = some (.getfield 216, 3, 6, 15, 0) := rfl
theorem r197_185 : Rn 197 (185, [x0, x1], .ref q :: st, a, h) = Kv 197 188 [x0, x1] st a h (mgf h q 6 15) := Rn_getf c197_185 rfl
theorem c197_188 : mcode 197 188 = some (.invokevirtual 222, 3, 196, 1, 6) := rfl
theorem r197_188 : Rn 197 (188, [x0, x1], [v0, .ref q, .int i0, .ref q1], a, h) = if mis h q 6 = true then Bk 197 191 [x0, x1] [.int i0, .ref q1] (Ec 196 [.ref q, v0] a h) else none := Rn_call1 c197_188 rfl (Nat.le_of_ble_eq_true rfl) rfl rfl (Nat.le_of_ble_eq_true rfl)
theorem c197_191 : mcode 197 191 = some (.iadd, 1, 0, 0, 0) := rfl
theorem r197_191 : Rn 197 (191, [x0, x1], .int j :: .int i :: st, a, h) = Rn 197 (192, [x0, x1], .int (i + j) :: st, a, h) := Rn_go c197_191 rfl
theorem c197_192 : mcode 197 192 = some (.bipush 48, 2, 0, 0, 0) := rfl
theorem r197_192 : Rn 197 (192, [x0, x1], st, a, h) = Rn 197 (194, [x0, x1], .int (48 : Int32) :: st, a, h) := Rn_go c197_192 rfl
theorem c197_194 : mcode 197 194 = some (.isub, 1, 0, 0, 0) := rfl
theorem r197_194 : Rn 197 (194, [x0, x1], .int j :: .int i :: st, a, h) = Rn 197 (195, [x0, x1], .int (i - j) :: st, a, h) := Rn_go c197_194 rfl
theorem c197_195 : mcode 197 195 = some (.putfield 234, 3, 6, 16, 0) := rfl
theorem r197_195 : Rn 197 (195, [x0, x1], .int i :: .ref q :: st, a, h) = Kh 197 198 [x0, x1] st a (mpf h q 6 16 (.int i)) := Rn_putfi c197_195 rfl rfl
theorem c197_198 : mcode 197 198 = some (.aload_n 0, 1, 0, 0, 0) := rfl
theorem r197_198 : Rn 197 (198, [some (.ref q), x1], st, a, h) = Rn 197 (199, [some (.ref q), x1], .ref q :: st, a, h) := Rn_go c197_198 rfl
theorem c197_199 : mcode 197 199 = some (.dup, 1, 0, 0, 0) := rfl
theorem r197_199 : Rn 197 (199, [x0, x1], .ref q :: st, a, h) = Rn 197 (200, [x0, x1], .ref q :: .ref q :: st, a, h) := Rn_go c197_199 rfl
theorem c197_200 : mcode 197 200 = some (.getfield 216, 3, 6, 15, 0) := rfl
theorem r197_200 : Rn 197 (200, [x0, x1], .ref q :: st, a, h) = Kv 197 203 [x0, x1] st a h (mgf h q 6 15) := Rn_getf c197_200 rfl
theorem c197_203 : mcode 197 203 = some (.iconst 1, 1, 0, 0, 0) := rfl
theorem r197_203 : Rn 197 (203, [x0, x1], st, a, h) = Rn 197 (204, [x0, x1], .int (1 : Int32) :: st, a, h) := Rn_go c197_203 rfl
theorem c197_204 : mcode 197 204 = some (.iadd, 1, 0, 0, 0) := rfl
theorem r197_204 : Rn 197 (204, [x0, x1], .int j :: .int i :: st, a, h) = Rn 197 (205, [x0, x1], .int (i + j) :: st, a, h) := Rn_go c197_204 rfl
theorem c197_205 : mcode 197 205 = some (.putfield 216, 3, 6, 15, 0) := rfl
theorem r197_205 : Rn 197 (205, [x0, x1], .int i :: .ref q :: st, a, h) = Kh 197 208 [x0, x1] st a (mpf h q 6 15 (.int i)) := Rn_putfi c197_205 rfl rfl
theorem c197_208 : mcode 197 208 = some (.goto (-72), 3, 0, 0, 0) := rfl
theorem r197_208 : Rn 197 (208, [x0, x1], st, a, h) = Rn 197 (136, [x0, x1], st, a, h) := Rn_goto c197_208 rfl
theorem c197_211 : mcode 197 211 = some (.aload_n 0, 1, 0, 0, 0) := rfl
theorem r197_211 : Rn 197 (211, [some (.ref q), x1], st, a, h) = Rn 197 (212, [some (.ref q), x1], .ref q :: st, a, h) := Rn_go c197_211 rfl
theorem c197_212 : mcode 197 212 = some (.dup, 1, 0, 0, 0) := rfl
theorem r197_212 : Rn 197 (212, [x0, x1], .ref q :: st, a, h) = Rn 197 (213, [x0, x1], .ref q :: .ref q :: st, a, h) := Rn_go c197_212 rfl
theorem c197_213 : mcode 197 213 = some (.getfield 216, 3, 6, 15, 0) := rfl
theorem r197_213 : Rn 197 (213, [x0, x1], .ref q :: st, a, h) = Kv 197 216 [x0, x1] st a h (mgf h q 6 15) := Rn_getf c197_213 rfl
theorem c197_216 : mcode 197 216 = some (.aload_n 0, 1, 0, 0, 0) := rfl
theorem r197_216 : Rn 197 (216, [some (.ref q), x1], st, a, h) = Rn 197 (217, [some (.ref q), x1], .ref q :: st, a, h) := Rn_go c197_216 rfl
theorem c197_217 : mcode 197 217 = some (.getfield 231, 3, 6, 13, 0) := rfl
theorem r197_217 : Rn 197 (217, [x0, x1], .ref q :: st, a, h) = Kv 197 220 [x0, x1] st a h (mgf h q 6 13) := Rn_getf c197_217 rfl
theorem c197_220 : mcode 197 220 = some (.iconst 2, 1, 0, 0, 0) := rfl
theorem r197_220 : Rn 197 (220, [x0, x1], st, a, h) = Rn 197 (221, [x0, x1], .int (2 : Int32) :: st, a, h) := Rn_go c197_220 rfl
theorem c197_221 : mcode 197 221 = some (.if_icmp .le 7, 3, 0, 0, 0) := rfl
theorem r197_221 : Rn 197 (221, [x0, x1], .int j :: .int i :: st, a, h) = if j < i then Rn 197 (224, [x0, x1], st, a, h) else Rn 197 (228, [x0, x1], st, a, h) := Rn_icmpn c197_221 mc_le rfl rfl
theorem c197_224 : mcode 197 224 = some (.iconst 1, 1, 0, 0, 0) := rfl
theorem r197_224 : Rn 197 (224, [x0, x1], st, a, h) = Rn 197 (225, [x0, x1], .int (1 : Int32) :: st, a, h) := Rn_go c197_224 rfl
theorem c197_225 : mcode 197 225 = some (.goto 4, 3, 0, 0, 0) := rfl
theorem r197_225 : Rn 197 (225, [x0, x1], st, a, h) = Rn 197 (229, [x0, x1], st, a, h) := Rn_goto c197_225 rfl
theorem c197_228 : mcode 197 228 = some (.iconst 0, 1, 0, 0, 0) := rfl
theorem r197_228 : Rn 197 (228, [x0, x1], st, a, h) = Rn 197 (229, [x0, x1], .int (0 : Int32) :: st, a, h) := Rn_go c197_228 rfl
theorem c197_229 : mcode 197 229 = some (.iadd, 1, 0, 0, 0) := rfl
theorem r197_229 : Rn 197 (229, [x0, x1], .int j :: .int i :: st, a, h) = Rn 197 (230, [x0, x1], .int (i + j) :: st, a, h) := Rn_go c197_229 rfl
theorem c197_230 : mcode 197 230 = some (.putfield 216, 3, 6, 15, 0) := rfl
theorem r197_230 : Rn 197 (230, [x0, x1], .int i :: .ref q :: st, a, h) = Kh 197 233 [x0, x1] st a (mpf h q 6 15 (.int i)) := Rn_putfi c197_230 rfl rfl
theorem c197_233 : mcode 197 233 = some (.return_, 1, 0, 0, 0) := rfl
theorem r197_233 : Rn 197 (233, [x0, x1], [], a, h) = some (none, a, h) := Rn_act c197_233
theorem c198_0 : mcode 198 0 = some (.aload_n 0, 1, 0, 0, 0) := rfl
theorem r198_0 : Rn 198 (0, [some (.ref q), x1, x2, x3, x4], st, a, h) = Rn 198 (1, [some (.ref q), x1, x2, x3, x4], .ref q :: st, a, h) := Rn_go c198_0 rfl
theorem c198_1 : mcode 198 1 = some (.aload_n 0, 1, 0, 0, 0) := rfl
theorem r198_1 : Rn 198 (1, [some (.ref q), x1, x2, x3, x4], st, a, h) = Rn 198 (2, [some (.ref q), x1, x2, x3, x4], .ref q :: st, a, h) := Rn_go c198_1 rfl
theorem c198_2 : mcode 198 2 = some (.getfield 219, 3, 6, 14, 0) := rfl
theorem r198_2 : Rn 198 (2, [x0, x1, x2, x3, x4], .ref q :: st, a, h) = Kv 198 5 [x0, x1, x2, x3, x4] st a h (mgf h q 6 14) := Rn_getf c198_2 rfl
theorem c198_5 : mcode 198 5 = some (.iload_n 1, 1, 0, 0, 0) := rfl
theorem r198_5 : Rn 198 (5, [x0, some (.int i), x2, x3, x4], st, a, h) = Rn 198 (6, [x0, some (.int i), x2, x3, x4], .int i :: st, a, h) := Rn_go c198_5 rfl
theorem c198_6 : mcode 198 6 = some (.iadd, 1, 0, 0, 0) := rfl
theorem r198_6 : Rn 198 (6, [x0, x1, x2, x3, x4], .int j :: .int i :: st, a, h) = Rn 198 (7, [x0, x1, x2, x3, x4], .int (i + j) :: st, a, h) := Rn_go c198_6 rfl
theorem c198_7 : mcode 198 7 = some (.invokevirtual 222, 3, 196, 1, 6) := rfl
theorem r198_7 : Rn 198 (7, [x0, x1, x2, x3, x4], [v0, .ref q], a, h) = if mis h q 6 = true then Bk 198 10 [x0, x1, x2, x3, x4] [] (Ec 196 [.ref q, v0] a h) else none := Rn_call1 c198_7 rfl (Nat.le_of_ble_eq_true rfl) rfl rfl (Nat.le_of_ble_eq_true rfl)
theorem c198_10 : mcode 198 10 = some (.iload_n 2, 1, 0, 0, 0) := rfl
theorem r198_10 : Rn 198 (10, [x0, x1, some (.int i), x3, x4], st, a, h) = Rn 198 (11, [x0, x1, some (.int i), x3, x4], .int i :: st, a, h) := Rn_go c198_10 rfl
theorem c198_11 : mcode 198 11 = some (.if_icmp .ne 40, 3, 0, 0, 0) := rfl
theorem r198_11 : Rn 198 (11, [x0, x1, x2, x3, x4], .int j :: .int i :: st, a, h) = if i = j then Rn 198 (14, [x0, x1, x2, x3, x4], st, a, h) else Rn 198 (51, [x0, x1, x2, x3, x4], st, a, h) := Rn_icmpn c198_11 mc_ne rfl rfl
theorem c198_14 : mcode 198 14 = some (.aload_n 0, 1, 0, 0, 0) := rfl
theorem r198_14 : Rn 198 (14, [some (.ref q), x1, x2, x3, x4], st, a, h) = Rn 198 (15, [some (.ref q), x1, x2, x3, x4], .ref q :: st, a, h) := Rn_go c198_14 rfl
theorem c198_15 : mcode 198 15 = some (.aload_n 0, 1, 0, 0, 0) := rfl
theorem r198_15 : Rn 198 (15, [some (.ref q), x1, x2, x3, x4], st, a, h) = Rn 198 (16, [some (.ref q), x1, x2, x3, x4], .ref q :: st, a, h) := Rn_go c198_15 rfl
theorem c198_16 : mcode 198 16 = some (.getfield 219, 3, 6, 14, 0) := rfl
theorem r198_16 : Rn 198 (16, [x0, x1, x2, x3, x4], .ref q :: st, a, h) = Kv 198 19 [x0, x1, x2, x3, x4] st a h (mgf h q 6 14) := Rn_getf c198_16 rfl
theorem c198_19 : mcode 198 19 = some (.iload_n 1, 1, 0, 0, 0) := rfl
theorem r198_19 : Rn 198 (19, [x0, some (.int i), x2, x3, x4], st, a, h) = Rn 198 (20, [x0, some (.int i), x2, x3, x4], .int i :: st, a, h) := Rn_go c198_19 rfl
theorem c198_20 : mcode 198 20 = some (.iadd, 1, 0, 0, 0) := rfl
theorem r198_20 : Rn 198 (20, [x0, x1, x2, x3, x4], .int j :: .int i :: st, a, h) = Rn 198 (21, [x0, x1, x2, x3, x4], .int (i + j) :: st, a, h) := Rn_go c198_20 rfl
theorem c198_21 : mcode 198 21 = some (.iconst 1, 1, 0, 0, 0) := rfl
theorem r198_21 : Rn 198 (21, [x0, x1, x2, x3, x4], st, a, h) = Rn 198 (22, [x0, x1, x2, x3, x4], .int (1 : Int32) :: st, a, h) := Rn_go c198_21 rfl
theorem c198_22 : mcode 198 22 = some (.iadd, 1, 0, 0, 0) := rfl
theorem r198_22 : Rn 198 (22, [x0, x1, x2, x3, x4], .int j :: .int i :: st, a, h) = Rn 198 (23, [x0, x1, x2, x3, x4], .int (i + j) :: st, a, h) := Rn_go c198_22 rfl
theorem c198_23 : mcode 198 23 = some (.invokevirtual 222, 3, 196, 1, 6) := rfl
theorem r198_23 : Rn 198 (23, [x0, x1, x2, x3, x4], [v0, .ref q], a, h) = if mis h q 6 = true then Bk 198 26 [x0, x1, x2, x3, x4] [] (Ec 196 [.ref q, v0] a h) else none := Rn_call1 c198_23 rfl (Nat.le_of_ble_eq_true rfl) rfl rfl (Nat.le_of_ble_eq_true rfl)
theorem c198_26 : mcode 198 26 = some (.iload_n 3, 1, 0, 0, 0) := rfl
theorem r198_26 : Rn 198 (26, [x0, x1, x2, some (.int i), x4], st, a, h) = Rn 198 (27, [x0, x1, x2, some (.int i), x4], .int i :: st, a, h) := Rn_go c198_26 rfl
theorem c198_27 : mcode 198 27 = some (.if_icmp .ne 24, 3, 0, 0, 0) := rfl
theorem r198_27 : Rn 198 (27, [x0, x1, x2, x3, x4], .int j :: .int i :: st, a, h) = if i = j then Rn 198 (30, [x0, x1, x2, x3, x4], st, a, h) else Rn 198 (51, [x0, x1, x2, x3, x4], st, a, h) := Rn_icmpn c198_27 mc_ne rfl rfl
theorem c198_30 : mcode 198 30 = some (.aload_n 0, 1, 0, 0, 0) := rfl
theorem r198_30 : Rn 198 (30, [some (.ref q), x1, x2, x3, x4], st, a, h) = Rn 198 (31, [some (.ref q), x1, x2, x3, x4], .ref q :: st, a, h) := Rn_go c198_30 rfl
theorem c198_31 : mcode 198 31 = some (.aload_n 0, 1, 0, 0, 0) := rfl
theorem r198_31 : Rn 198 (31, [some (.ref q), x1, x2, x3, x4], st, a, h) = Rn 198 (32, [some (.ref q), x1, x2, x3, x4], .ref q :: st, a, h) := Rn_go c198_31 rfl
theorem c198_32 : mcode 198 32 = some (.getfield 219, 3, 6, 14, 0) := rfl
theorem r198_32 : Rn 198 (32, [x0, x1, x2, x3, x4], .ref q :: st, a, h) = Kv 198 35 [x0, x1, x2, x3, x4] st a h (mgf h q 6 14) := Rn_getf c198_32 rfl
theorem c198_35 : mcode 198 35 = some (.iload_n 1, 1, 0, 0, 0) := rfl
theorem r198_35 : Rn 198 (35, [x0, some (.int i), x2, x3, x4], st, a, h) = Rn 198 (36, [x0, some (.int i), x2, x3, x4], .int i :: st, a, h) := Rn_go c198_35 rfl
theorem c198_36 : mcode 198 36 = some (.iadd, 1, 0, 0, 0) := rfl
theorem r198_36 : Rn 198 (36, [x0, x1, x2, x3, x4], .int j :: .int i :: st, a, h) = Rn 198 (37, [x0, x1, x2, x3, x4], .int (i + j) :: st, a, h) := Rn_go c198_36 rfl
theorem c198_37 : mcode 198 37 = some (.iconst 2, 1, 0, 0, 0) := rfl
theorem r198_37 : Rn 198 (37, [x0, x1, x2, x3, x4], st, a, h) = Rn 198 (38, [x0, x1, x2, x3, x4], .int (2 : Int32) :: st, a, h) := Rn_go c198_37 rfl
theorem c198_38 : mcode 198 38 = some (.iadd, 1, 0, 0, 0) := rfl
theorem r198_38 : Rn 198 (38, [x0, x1, x2, x3, x4], .int j :: .int i :: st, a, h) = Rn 198 (39, [x0, x1, x2, x3, x4], .int (i + j) :: st, a, h) := Rn_go c198_38 rfl
theorem c198_39 : mcode 198 39 = some (.invokevirtual 222, 3, 196, 1, 6) := rfl
theorem r198_39 : Rn 198 (39, [x0, x1, x2, x3, x4], [v0, .ref q], a, h) = if mis h q 6 = true then Bk 198 42 [x0, x1, x2, x3, x4] [] (Ec 196 [.ref q, v0] a h) else none := Rn_call1 c198_39 rfl (Nat.le_of_ble_eq_true rfl) rfl rfl (Nat.le_of_ble_eq_true rfl)
theorem c198_42 : mcode 198 42 = some (.iload 4, 2, 0, 0, 0) := rfl
theorem r198_42 : Rn 198 (42, [x0, x1, x2, x3, some (.int i)], st, a, h) = Rn 198 (44, [x0, x1, x2, x3, some (.int i)], .int i :: st, a, h) := Rn_go c198_42 rfl
theorem c198_44 : mcode 198 44 = some (.if_icmp .ne 7, 3, 0, 0, 0) := rfl
theorem r198_44 : Rn 198 (44, [x0, x1, x2, x3, x4], .int j :: .int i :: st, a, h) = if i = j then Rn 198 (47, [x0, x1, x2, x3, x4], st, a, h) else Rn 198 (51, [x0, x1, x2, x3, x4], st, a, h) := Rn_icmpn c198_44 mc_ne rfl rfl
theorem c198_47 : mcode 198 47 = some (.iconst 1, 1, 0, 0, 0) := rfl
theorem r198_47 : Rn 198 (47, [x0, x1, x2, x3, x4], st, a, h) = Rn 198 (48, [x0, x1, x2, x3, x4], .int (1 : Int32) :: st, a, h) := Rn_go c198_47 rfl
theorem c198_48 : mcode 198 48 = some (.goto 4, 3, 0, 0, 0) := rfl
theorem r198_48 : Rn 198 (48, [x0, x1, x2, x3, x4], st, a, h) = Rn 198 (52, [x0, x1, x2, x3, x4], st, a, h) := Rn_goto c198_48 rfl
theorem c198_51 : mcode 198 51 = some (.iconst 0, 1, 0, 0, 0) := rfl
theorem r198_51 : Rn 198 (51, [x0, x1, x2, x3, x4], st, a, h) = Rn 198 (52, [x0, x1, x2, x3, x4], .int (0 : Int32) :: st, a, h) := Rn_go c198_51 rfl
theorem c198_52 : mcode 198 52 = some (.ireturn, 1, 1, 0, 0) := rfl
theorem r198_52 : Rn 198 (52, [x0, x1, x2, x3, x4], [.int i], a, h) = if mrt 1 i = true then some (some (.int i), a, h) else none := Rn_iretz c198_52
theorem c199_0 : mcode 199 0 = some (.aload_n 0, 1, 0, 0, 0) := rfl
theorem r199_0 : Rn 199 (0, [some (.ref q), x1], st, a, h) = Rn 199 (1, [some (.ref q), x1], .ref q :: st, a, h) := Rn_go c199_0 rfl
theorem c199_1 : mcode 199 1 = some (.getfield 231, 3, 6, 13, 0) := rfl
theorem r199_1 : Rn 199 (1, [x0, x1], .ref q :: st, a, h) = Kv 199 4 [x0, x1] st a h (mgf h q 6 13) := Rn_getf c199_1 rfl
theorem c199_4 : mcode 199 4 = some (.iconst 1, 1, 0, 0, 0) := rfl
theorem r199_4 : Rn 199 (4, [x0, x1], st, a, h) = Rn 199 (5, [x0, x1], .int (1 : Int32) :: st, a, h) := Rn_go c199_4 rfl
theorem c199_5 : mcode 199 5 = some (.if_icmp .ne 20, 3, 0, 0, 0) := rfl
theorem r199_5 : Rn 199 (5, [x0, x1], .int j :: .int i :: st, a, h) = if i = j then Rn 199 (8, [x0, x1], st, a, h) else Rn 199 (25, [x0, x1], st, a, h) := Rn_icmpn c199_5 mc_ne rfl rfl
theorem c199_8 : mcode 199 8 = some (.aload_n 0, 1, 0, 0, 0) := rfl
theorem r199_8 : Rn 199 (8, [some (.ref q), x1], st, a, h) = Rn 199 (9, [some (.ref q), x1], .ref q :: st, a, h) := Rn_go c199_8 rfl
theorem c199_9 : mcode 199 9 = some (.getfield 216, 3, 6, 15, 0) := rfl
theorem r199_9 : Rn 199 (9, [x0, x1], .ref q :: st, a, h) = Kv 199 12 [x0, x1] st a h (mgf h q 6 15) := Rn_getf c199_9 rfl
theorem c199_12 : mcode 199 12 = some (.aload_n 0, 1, 0, 0, 0) := rfl
theorem r199_12 : Rn 199 (12, [some (.ref q), x1], st, a, h) = Rn 199 (13, [some (.ref q), x1], .ref q :: st, a, h) := Rn_go c199_12 rfl
theorem c199_13 : mcode 199 13 = some (.getfield 219, 3, 6, 14, 0) := rfl
theorem r199_13 : Rn 199 (13, [x0, x1], .ref q :: st, a, h) = Kv 199 16 [x0, x1] st a h (mgf h q 6 14) := Rn_getf c199_13 rfl
theorem c199_16 : mcode 199 16 = some (.isub, 1, 0, 0, 0) := rfl
theorem r199_16 : Rn 199 (16, [x0, x1], .int j :: .int i :: st, a, h) = Rn 199 (17, [x0, x1], .int (i - j) :: st, a, h) := Rn_go c199_16 rfl
theorem c199_17 : mcode 199 17 = some (.iload_n 1, 1, 0, 0, 0) := rfl
theorem r199_17 : Rn 199 (17, [x0, some (.int i)], st, a, h) = Rn 199 (18, [x0, some (.int i)], .int i :: st, a, h) := Rn_go c199_17 rfl
theorem c199_18 : mcode 199 18 = some (.if_icmp .ne 7, 3, 0, 0, 0) := rfl
theorem r199_18 : Rn 199 (18, [x0, x1], .int j :: .int i :: st, a, h) = if i = j then Rn 199 (21, [x0, x1], st, a, h) else Rn 199 (25, [x0, x1], st, a, h) := Rn_icmpn c199_18 mc_ne rfl rfl
theorem c199_21 : mcode 199 21 = some (.iconst 1, 1, 0, 0, 0) := rfl
theorem r199_21 : Rn 199 (21, [x0, x1], st, a, h) = Rn 199 (22, [x0, x1], .int (1 : Int32) :: st, a, h) := Rn_go c199_21 rfl
theorem c199_22 : mcode 199 22 = some (.goto 4, 3, 0, 0, 0) := rfl
theorem r199_22 : Rn 199 (22, [x0, x1], st, a, h) = Rn 199 (26, [x0, x1], st, a, h) := Rn_goto c199_22 rfl
theorem c199_25 : mcode 199 25 = some (.iconst 0, 1, 0, 0, 0) := rfl
theorem r199_25 : Rn 199 (25, [x0, x1], st, a, h) = Rn 199 (26, [x0, x1], .int (0 : Int32) :: st, a, h) := Rn_go c199_25 rfl
theorem c199_26 : mcode 199 26 = some (.ireturn, 1, 1, 0, 0) := rfl
theorem r199_26 : Rn 199 (26, [x0, x1], [.int i], a, h) = if mrt 1 i = true then some (some (.int i), a, h) else none := Rn_iretz c199_26
theorem c200_0 : mcode 200 0 = some (.aload_n 0, 1, 0, 0, 0) := rfl
theorem r200_0 : Rn 200 (0, [some (.ref q)], st, a, h) = Rn 200 (1, [some (.ref q)], .ref q :: st, a, h) := Rn_go c200_0 rfl
theorem c200_1 : mcode 200 1 = some (.aload_n 0, 1, 0, 0, 0) := rfl
theorem r200_1 : Rn 200 (1, [some (.ref q)], st, a, h) = Rn 200 (2, [some (.ref q)], .ref q :: st, a, h) := Rn_go c200_1 rfl
theorem c200_2 : mcode 200 2 = some (.getfield 219, 3, 6, 14, 0) := rfl
theorem r200_2 : Rn 200 (2, [x0], .ref q :: st, a, h) = Kv 200 5 [x0] st a h (mgf h q 6 14) := Rn_getf c200_2 rfl
theorem c200_5 : mcode 200 5 = some (.putfield 237, 3, 6, 17, 0) := rfl
theorem r200_5 : Rn 200 (5, [x0], .int i :: .ref q :: st, a, h) = Kh 200 8 [x0] st a (mpf h q 6 17 (.int i)) := Rn_putfi c200_5 rfl rfl
theorem c200_8 : mcode 200 8 = some (.iconst 0, 1, 0, 0, 0) := rfl
theorem r200_8 : Rn 200 (8, [x0], st, a, h) = Rn 200 (9, [x0], .int (0 : Int32) :: st, a, h) := Rn_go c200_8 rfl
theorem c200_9 : mcode 200 9 = some (.ireturn, 1, 1, 0, 0) := rfl
theorem r200_9 : Rn 200 (9, [x0], [.int i], a, h) = if mrt 1 i = true then some (some (.int i), a, h) else none := Rn_iretz c200_9
theorem c201_0 : mcode 201 0 = some (.aload_n 0, 1, 0, 0, 0) := rfl
theorem r201_0 : Rn 201 (0, [some (.ref q), x1, x2, x3, x4], st, a, h) = Rn 201 (1, [some (.ref q), x1, x2, x3, x4], .ref q :: st, a, h) := Rn_go c201_0 rfl
theorem c201_1 : mcode 201 1 = some (.iconst 4, 1, 0, 0, 0) := rfl
theorem r201_1 : Rn 201 (1, [x0, x1, x2, x3, x4], st, a, h) = Rn 201 (2, [x0, x1, x2, x3, x4], .int (4 : Int32) :: st, a, h) := Rn_go c201_1 rfl
theorem c201_2 : mcode 201 2 = some (.invokevirtual 240, 3, 199, 1, 6) := rfl
theorem r201_2 : Rn 201 (2, [x0, x1, x2, x3, x4], [v0, .ref q], a, h) = if mis h q 6 = true then Bk 201 5 [x0, x1, x2, x3, x4] [] (Ec 199 [.ref q, v0] a h) else none := Rn_call1 c201_2 rfl (Nat.le_of_ble_eq_true rfl) rfl rfl (Nat.le_of_ble_eq_true rfl)
theorem c201_5 : mcode 201 5 = some (.ifCond .eq 30, 3, 0, 0, 0) := rfl
theorem r201_5 : Rn 201 (5, [x0, x1, x2, x3, x4], .int i :: st, a, h) = if i = 0 then Rn 201 (35, [x0, x1, x2, x3, x4], st, a, h) else Rn 201 (8, [x0, x1, x2, x3, x4], st, a, h) := Rn_ifc c201_5 mc_eq rfl rfl
theorem c201_8 : mcode 201 8 = some (.aload_n 0, 1, 0, 0, 0) := rfl
theorem r201_8 : Rn 201 (8, [some (.ref q), x1, x2, x3, x4], st, a, h) = Rn 201 (9, [some (.ref q), x1, x2, x3, x4], .ref q :: st, a, h) := Rn_go c201_8 rfl
theorem c201_9 : mcode 201 9 = some (.iconst 0, 1, 0, 0, 0) := rfl
theorem r201_9 : Rn 201 (9, [x0, x1, x2, x3, x4], st, a, h) = Rn 201 (10, [x0, x1, x2, x3, x4], .int (0 : Int32) :: st, a, h) := Rn_go c201_9 rfl
theorem c201_10 : mcode 201 10 = some (.iload_n 1, 1, 0, 0, 0) := rfl
theorem r201_10 : Rn 201 (10, [x0, some (.int i), x2, x3, x4], st, a, h) = Rn 201 (11, [x0, some (.int i), x2, x3, x4], .int i :: st, a, h) := Rn_go c201_10 rfl
theorem c201_11 : mcode 201 11 = some (.iload_n 2, 1, 0, 0, 0) := rfl
theorem r201_11 : Rn 201 (11, [x0, x1, some (.int i), x3, x4], st, a, h) = Rn 201 (12, [x0, x1, some (.int i), x3, x4], .int i :: st, a, h) := Rn_go c201_11 rfl
theorem c201_12 : mcode 201 12 = some (.iload_n 3, 1, 0, 0, 0) := rfl
theorem r201_12 : Rn 201 (12, [x0, x1, x2, some (.int i), x4], st, a, h) = Rn 201 (13, [x0, x1, x2, some (.int i), x4], .int i :: st, a, h) := Rn_go c201_12 rfl
theorem c201_13 : mcode 201 13 = some (.invokevirtual 243, 3, 198, 4, 6) := rfl
theorem r201_13 : Rn 201 (13, [x0, x1, x2, x3, x4], [v3, v2, v1, v0, .ref q], a, h) = if mis h q 6 = true then Bk 201 16 [x0, x1, x2, x3, x4] [] (Ec 198 [.ref q, v0, v1, v2, v3] a h) else none := Rn_call1 c201_13 rfl (Nat.le_of_ble_eq_true rfl) rfl rfl (Nat.le_of_ble_eq_true rfl)
theorem c201_16 : mcode 201 16 = some (.ifCond .eq 19, 3, 0, 0, 0) := rfl
theorem r201_16 : Rn 201 (16, [x0, x1, x2, x3, x4], .int i :: st, a, h) = if i = 0 then Rn 201 (35, [x0, x1, x2, x3, x4], st, a, h) else Rn 201 (19, [x0, x1, x2, x3, x4], st, a, h) := Rn_ifc c201_16 mc_eq rfl rfl
theorem c201_19 : mcode 201 19 = some (.aload_n 0, 1, 0, 0, 0) := rfl
theorem r201_19 : Rn 201 (19, [some (.ref q), x1, x2, x3, x4], st, a, h) = Rn 201 (20, [some (.ref q), x1, x2, x3, x4], .ref q :: st, a, h) := Rn_go c201_19 rfl
theorem c201_20 : mcode 201 20 = some (.iconst 1, 1, 0, 0, 0) := rfl
theorem r201_20 : Rn 201 (20, [x0, x1, x2, x3, x4], st, a, h) = Rn 201 (21, [x0, x1, x2, x3, x4], .int (1 : Int32) :: st, a, h) := Rn_go c201_20 rfl
theorem c201_21 : mcode 201 21 = some (.iload_n 2, 1, 0, 0, 0) := rfl
theorem r201_21 : Rn 201 (21, [x0, x1, some (.int i), x3, x4], st, a, h) = Rn 201 (22, [x0, x1, some (.int i), x3, x4], .int i :: st, a, h) := Rn_go c201_21 rfl
theorem c201_22 : mcode 201 22 = some (.iload_n 3, 1, 0, 0, 0) := rfl
theorem r201_22 : Rn 201 (22, [x0, x1, x2, some (.int i), x4], st, a, h) = Rn 201 (23, [x0, x1, x2, some (.int i), x4], .int i :: st, a, h) := Rn_go c201_22 rfl
theorem c201_23 : mcode 201 23 = some (.iload 4, 2, 0, 0, 0) := rfl
theorem r201_23 : Rn 201 (23, [x0, x1, x2, x3, some (.int i)], st, a, h) = Rn 201 (25, [x0, x1, x2, x3, some (.int i)], .int i :: st, a, h) := Rn_go c201_23 rfl
theorem c201_25 : mcode 201 25 = some (.invokevirtual 243, 3, 198, 4, 6) := rfl
theorem r201_25 : Rn 201 (25, [x0, x1, x2, x3, x4], [v3, v2, v1, v0, .ref q], a, h) = if mis h q 6 = true then Bk 201 28 [x0, x1, x2, x3, x4] [] (Ec 198 [.ref q, v0, v1, v2, v3] a h) else none := Rn_call1 c201_25 rfl (Nat.le_of_ble_eq_true rfl) rfl rfl (Nat.le_of_ble_eq_true rfl)
theorem c201_28 : mcode 201 28 = some (.ifCond .eq 7, 3, 0, 0, 0) := rfl
theorem r201_28 : Rn 201 (28, [x0, x1, x2, x3, x4], .int i :: st, a, h) = if i = 0 then Rn 201 (35, [x0, x1, x2, x3, x4], st, a, h) else Rn 201 (31, [x0, x1, x2, x3, x4], st, a, h) := Rn_ifc c201_28 mc_eq rfl rfl
theorem c201_31 : mcode 201 31 = some (.iconst 1, 1, 0, 0, 0) := rfl
theorem r201_31 : Rn 201 (31, [x0, x1, x2, x3, x4], st, a, h) = Rn 201 (32, [x0, x1, x2, x3, x4], .int (1 : Int32) :: st, a, h) := Rn_go c201_31 rfl
theorem c201_32 : mcode 201 32 = some (.goto 4, 3, 0, 0, 0) := rfl
theorem r201_32 : Rn 201 (32, [x0, x1, x2, x3, x4], st, a, h) = Rn 201 (36, [x0, x1, x2, x3, x4], st, a, h) := Rn_goto c201_32 rfl
theorem c201_35 : mcode 201 35 = some (.iconst 0, 1, 0, 0, 0) := rfl
theorem r201_35 : Rn 201 (35, [x0, x1, x2, x3, x4], st, a, h) = Rn 201 (36, [x0, x1, x2, x3, x4], .int (0 : Int32) :: st, a, h) := Rn_go c201_35 rfl
theorem c201_36 : mcode 201 36 = some (.ireturn, 1, 1, 0, 0) := rfl
theorem r201_36 : Rn 201 (36, [x0, x1, x2, x3, x4], [.int i], a, h) = if mrt 1 i = true then some (some (.int i), a, h) else none := Rn_iretz c201_36
theorem c202_0 : mcode 202 0 = some (.aload_n 0, 1, 0, 0, 0) := rfl
theorem r202_0 : Rn 202 (0, [some (.ref q), x1, x2, x3, x4, x5], st, a, h) = Rn 202 (1, [some (.ref q), x1, x2, x3, x4, x5], .ref q :: st, a, h) := Rn_go c202_0 rfl
theorem c202_1 : mcode 202 1 = some (.iconst 5, 1, 0, 0, 0) := rfl
theorem r202_1 : Rn 202 (1, [x0, x1, x2, x3, x4, x5], st, a, h) = Rn 202 (2, [x0, x1, x2, x3, x4, x5], .int (5 : Int32) :: st, a, h) := Rn_go c202_1 rfl
theorem c202_2 : mcode 202 2 = some (.invokevirtual 240, 3, 199, 1, 6) := rfl
theorem r202_2 : Rn 202 (2, [x0, x1, x2, x3, x4, x5], [v0, .ref q], a, h) = if mis h q 6 = true then Bk 202 5 [x0, x1, x2, x3, x4, x5] [] (Ec 199 [.ref q, v0] a h) else none := Rn_call1 c202_2 rfl (Nat.le_of_ble_eq_true rfl) rfl rfl (Nat.le_of_ble_eq_true rfl)
theorem c202_5 : mcode 202 5 = some (.ifCond .eq 31, 3, 0, 0, 0) := rfl
theorem r202_5 : Rn 202 (5, [x0, x1, x2, x3, x4, x5], .int i :: st, a, h) = if i = 0 then Rn 202 (36, [x0, x1, x2, x3, x4, x5], st, a, h) else Rn 202 (8, [x0, x1, x2, x3, x4, x5], st, a, h) := Rn_ifc c202_5 mc_eq rfl rfl
theorem c202_8 : mcode 202 8 = some (.aload_n 0, 1, 0, 0, 0) := rfl
theorem r202_8 : Rn 202 (8, [some (.ref q), x1, x2, x3, x4, x5], st, a, h) = Rn 202 (9, [some (.ref q), x1, x2, x3, x4, x5], .ref q :: st, a, h) := Rn_go c202_8 rfl
theorem c202_9 : mcode 202 9 = some (.iconst 0, 1, 0, 0, 0) := rfl
theorem r202_9 : Rn 202 (9, [x0, x1, x2, x3, x4, x5], st, a, h) = Rn 202 (10, [x0, x1, x2, x3, x4, x5], .int (0 : Int32) :: st, a, h) := Rn_go c202_9 rfl
theorem c202_10 : mcode 202 10 = some (.iload_n 1, 1, 0, 0, 0) := rfl
theorem r202_10 : Rn 202 (10, [x0, some (.int i), x2, x3, x4, x5], st, a, h) = Rn 202 (11, [x0, some (.int i), x2, x3, x4, x5], .int i :: st, a, h) := Rn_go c202_10 rfl
theorem c202_11 : mcode 202 11 = some (.iload_n 2, 1, 0, 0, 0) := rfl
theorem r202_11 : Rn 202 (11, [x0, x1, some (.int i), x3, x4, x5], st, a, h) = Rn 202 (12, [x0, x1, some (.int i), x3, x4, x5], .int i :: st, a, h) := Rn_go c202_11 rfl
theorem c202_12 : mcode 202 12 = some (.iload_n 3, 1, 0, 0, 0) := rfl
theorem r202_12 : Rn 202 (12, [x0, x1, x2, some (.int i), x4, x5], st, a, h) = Rn 202 (13, [x0, x1, x2, some (.int i), x4, x5], .int i :: st, a, h) := Rn_go c202_12 rfl
theorem c202_13 : mcode 202 13 = some (.invokevirtual 243, 3, 198, 4, 6) := rfl
theorem r202_13 : Rn 202 (13, [x0, x1, x2, x3, x4, x5], [v3, v2, v1, v0, .ref q], a, h) = if mis h q 6 = true then Bk 202 16 [x0, x1, x2, x3, x4, x5] [] (Ec 198 [.ref q, v0, v1, v2, v3] a h) else none := Rn_call1 c202_13 rfl (Nat.le_of_ble_eq_true rfl) rfl rfl (Nat.le_of_ble_eq_true rfl)
theorem c202_16 : mcode 202 16 = some (.ifCond .eq 20, 3, 0, 0, 0) := rfl
theorem r202_16 : Rn 202 (16, [x0, x1, x2, x3, x4, x5], .int i :: st, a, h) = if i = 0 then Rn 202 (36, [x0, x1, x2, x3, x4, x5], st, a, h) else Rn 202 (19, [x0, x1, x2, x3, x4, x5], st, a, h) := Rn_ifc c202_16 mc_eq rfl rfl
theorem c202_19 : mcode 202 19 = some (.aload_n 0, 1, 0, 0, 0) := rfl
theorem r202_19 : Rn 202 (19, [some (.ref q), x1, x2, x3, x4, x5], st, a, h) = Rn 202 (20, [some (.ref q), x1, x2, x3, x4, x5], .ref q :: st, a, h) := Rn_go c202_19 rfl
theorem c202_20 : mcode 202 20 = some (.iconst 2, 1, 0, 0, 0) := rfl
theorem r202_20 : Rn 202 (20, [x0, x1, x2, x3, x4, x5], st, a, h) = Rn 202 (21, [x0, x1, x2, x3, x4, x5], .int (2 : Int32) :: st, a, h) := Rn_go c202_20 rfl
theorem c202_21 : mcode 202 21 = some (.iload_n 3, 1, 0, 0, 0) := rfl
theorem r202_21 : Rn 202 (21, [x0, x1, x2, some (.int i), x4, x5], st, a, h) = Rn 202 (22, [x0, x1, x2, some (.int i), x4, x5], .int i :: st, a, h) := Rn_go c202_21 rfl
theorem c202_22 : mcode 202 22 = some (.iload 4, 2, 0, 0, 0) := rfl
theorem r202_22 : Rn 202 (22, [x0, x1, x2, x3, some (.int i), x5], st, a, h) = Rn 202 (24, [x0, x1, x2, x3, some (.int i), x5], .int i :: st, a, h) := Rn_go c202_22 rfl
theorem c202_24 : mcode 202 24 = some (.iload 5, 2, 0, 0, 0) := rfl
theorem r202_24 : Rn 202 (24, [x0, x1, x2, x3, x4, some (.int i)], st, a, h) = Rn 202 (26, [x0, x1, x2, x3, x4, some (.int i)], .int i :: st, a, h) := Rn_go c202_24 rfl
theorem c202_26 : mcode 202 26 = some (.invokevirtual 243, 3, 198, 4, 6) := rfl
theorem r202_26 : Rn 202 (26, [x0, x1, x2, x3, x4, x5], [v3, v2, v1, v0, .ref q], a, h) = if mis h q 6 = true then Bk 202 29 [x0, x1, x2, x3, x4, x5] [] (Ec 198 [.ref q, v0, v1, v2, v3] a h) else none := Rn_call1 c202_26 rfl (Nat.le_of_ble_eq_true rfl) rfl rfl (Nat.le_of_ble_eq_true rfl)
theorem c202_29 : mcode 202 29 = some (.ifCond .eq 7, 3, 0, 0, 0) := rfl
theorem r202_29 : Rn 202 (29, [x0, x1, x2, x3, x4, x5], .int i :: st, a, h) = if i = 0 then Rn 202 (36, [x0, x1, x2, x3, x4, x5], st, a, h) else Rn 202 (32, [x0, x1, x2, x3, x4, x5], st, a, h) := Rn_ifc c202_29 mc_eq rfl rfl
theorem c202_32 : mcode 202 32 = some (.iconst 1, 1, 0, 0, 0) := rfl
theorem r202_32 : Rn 202 (32, [x0, x1, x2, x3, x4, x5], st, a, h) = Rn 202 (33, [x0, x1, x2, x3, x4, x5], .int (1 : Int32) :: st, a, h) := Rn_go c202_32 rfl
theorem c202_33 : mcode 202 33 = some (.goto 4, 3, 0, 0, 0) := rfl
theorem r202_33 : Rn 202 (33, [x0, x1, x2, x3, x4, x5], st, a, h) = Rn 202 (37, [x0, x1, x2, x3, x4, x5], st, a, h) := Rn_goto c202_33 rfl
theorem c202_36 : mcode 202 36 = some (.iconst 0, 1, 0, 0, 0) := rfl
theorem r202_36 : Rn 202 (36, [x0, x1, x2, x3, x4, x5], st, a, h) = Rn 202 (37, [x0, x1, x2, x3, x4, x5], .int (0 : Int32) :: st, a, h) := Rn_go c202_36 rfl
theorem c202_37 : mcode 202 37 = some (.ireturn, 1, 1, 0, 0) := rfl
theorem r202_37 : Rn 202 (37, [x0, x1, x2, x3, x4, x5], [.int i], a, h) = if mrt 1 i = true then some (some (.int i), a, h) else none := Rn_iretz c202_37
theorem c203_0 : mcode 203 0 = some (.aload_n 0, 1, 0, 0, 0) := rfl
theorem r203_0 : Rn 203 (0, [some (.ref q), x1, x2], st, a, h) = Rn 203 (1, [some (.ref q), x1, x2], .ref q :: st, a, h) := Rn_go c203_0 rfl
theorem c203_1 : mcode 203 1 = some (.getfield 231, 3, 6, 13, 0) := rfl
theorem r203_1 : Rn 203 (1, [x0, x1, x2], .ref q :: st, a, h) = Kv 203 4 [x0, x1, x2] st a h (mgf h q 6 13) := Rn_getf c203_1 rfl
theorem c203_4 : mcode 203 4 = some (.iconst 2, 1, 0, 0, 0) := rfl
theorem r203_4 : Rn 203 (4, [x0, x1, x2], st, a, h) = Rn 203 (5, [x0, x1, x2], .int (2 : Int32) :: st, a, h) := Rn_go c203_4 rfl
theorem c203_5 : mcode 203 5 = some (.if_icmp .ne 18, 3, 0, 0, 0) := rfl
theorem r203_5 : Rn 203 (5, [x0, x1, x2], .int j :: .int i :: st, a, h) = if i = j then Rn 203 (8, [x0, x1, x2], st, a, h) else Rn 203 (23, [x0, x1, x2], st, a, h) := Rn_icmpn c203_5 mc_ne rfl rfl
theorem c203_8 : mcode 203 8 = some (.aload_n 0, 1, 0, 0, 0) := rfl
theorem r203_8 : Rn 203 (8, [some (.ref q), x1, x2], st, a, h) = Rn 203 (9, [some (.ref q), x1, x2], .ref q :: st, a, h) := Rn_go c203_8 rfl
theorem c203_9 : mcode 203 9 = some (.getfield 234, 3, 6, 16, 0) := rfl
theorem r203_9 : Rn 203 (9, [x0, x1, x2], .ref q :: st, a, h) = Kv 203 12 [x0, x1, x2] st a h (mgf h q 6 16) := Rn_getf c203_9 rfl
theorem c203_12 : mcode 203 12 = some (.i2l, 1, 0, 0, 0) := rfl
theorem r203_12 : Rn 203 (12, [x0, x1, x2], .int i :: st, a, h) = Rn 203 (13, [x0, x1, x2], .long i.toInt64 :: st, a, h) := Rn_go c203_12 rfl
theorem c203_13 : mcode 203 13 = some (.iload_n 1, 1, 0, 0, 0) := rfl
theorem r203_13 : Rn 203 (13, [x0, some (.int i), x2], st, a, h) = Rn 203 (14, [x0, some (.int i), x2], .int i :: st, a, h) := Rn_go c203_13 rfl
theorem c203_14 : mcode 203 14 = some (.i2l, 1, 0, 0, 0) := rfl
theorem r203_14 : Rn 203 (14, [x0, x1, x2], .int i :: st, a, h) = Rn 203 (15, [x0, x1, x2], .long i.toInt64 :: st, a, h) := Rn_go c203_14 rfl
theorem c203_15 : mcode 203 15 = some (.iload_n 2, 1, 0, 0, 0) := rfl
theorem r203_15 : Rn 203 (15, [x0, x1, some (.int i)], st, a, h) = Rn 203 (16, [x0, x1, some (.int i)], .int i :: st, a, h) := Rn_go c203_15 rfl
theorem c203_16 : mcode 203 16 = some (.i2l, 1, 0, 0, 0) := rfl
theorem r203_16 : Rn 203 (16, [x0, x1, x2], .int i :: st, a, h) = Rn 203 (17, [x0, x1, x2], .long i.toInt64 :: st, a, h) := Rn_go c203_16 rfl
theorem c203_17 : mcode 203 17 = some (.invokestatic 52, 3, 124, 3, 0) := rfl
theorem r203_17 : Rn 203 (17, [x0, x1, x2], [v2, v1, v0], a, h) = Bk 203 20 [x0, x1, x2] [] (Ec 124 [v0, v1, v2] a h) := Rn_call0 c203_17 (fun z => nomatch z) rfl (Nat.le_of_ble_eq_true rfl) rfl rfl (Nat.le_of_ble_eq_true rfl)
theorem c203_20 : mcode 203 20 = some (.ifCond .ne 10, 3, 0, 0, 0) := rfl
theorem r203_20 : Rn 203 (20, [x0, x1, x2], .int i :: st, a, h) = if i = 0 then Rn 203 (23, [x0, x1, x2], st, a, h) else Rn 203 (30, [x0, x1, x2], st, a, h) := Rn_ifcn c203_20 mc_ne rfl rfl
theorem c203_23 : mcode 203 23 = some (.aload_n 0, 1, 0, 0, 0) := rfl
theorem r203_23 : Rn 203 (23, [some (.ref q), x1, x2], st, a, h) = Rn 203 (24, [some (.ref q), x1, x2], .ref q :: st, a, h) := Rn_go c203_23 rfl
theorem c203_24 : mcode 203 24 = some (.invokevirtual 247, 3, 200, 0, 6) := rfl
theorem r203_24 : Rn 203 (24, [x0, x1, x2], [.ref q], a, h) = if mis h q 6 = true then Bk 203 27 [x0, x1, x2] [] (Ec 200 [.ref q] a h) else none := Rn_call1 c203_24 rfl (Nat.le_of_ble_eq_true rfl) rfl rfl (Nat.le_of_ble_eq_true rfl)
theorem c203_27 : mcode 203 27 = some (.ifCond .eq 7, 3, 0, 0, 0) := rfl
theorem r203_27 : Rn 203 (27, [x0, x1, x2], .int i :: st, a, h) = if i = 0 then Rn 203 (34, [x0, x1, x2], st, a, h) else Rn 203 (30, [x0, x1, x2], st, a, h) := Rn_ifc c203_27 mc_eq rfl rfl
theorem c203_30 : mcode 203 30 = some (.iconst 1, 1, 0, 0, 0) := rfl
theorem r203_30 : Rn 203 (30, [x0, x1, x2], st, a, h) = Rn 203 (31, [x0, x1, x2], .int (1 : Int32) :: st, a, h) := Rn_go c203_30 rfl
theorem c203_31 : mcode 203 31 = some (.goto 4, 3, 0, 0, 0) := rfl
theorem r203_31 : Rn 203 (31, [x0, x1, x2], st, a, h) = Rn 203 (35, [x0, x1, x2], st, a, h) := Rn_goto c203_31 rfl
theorem c203_34 : mcode 203 34 = some (.iconst 0, 1, 0, 0, 0) := rfl
theorem r203_34 : Rn 203 (34, [x0, x1, x2], st, a, h) = Rn 203 (35, [x0, x1, x2], .int (0 : Int32) :: st, a, h) := Rn_go c203_34 rfl
theorem c203_35 : mcode 203 35 = some (.ireturn, 1, 1, 0, 0) := rfl
theorem r203_35 : Rn 203 (35, [x0, x1, x2], [.int i], a, h) = if mrt 1 i = true then some (some (.int i), a, h) else none := Rn_iretz c203_35
theorem c204_0 : mcode 204 0 = some (.aload_n 0, 1, 0, 0, 0) := rfl
theorem r204_0 : Rn 204 (0, [some (.ref q)], st, a, h) = Rn 204 (1, [some (.ref q)], .ref q :: st, a, h) := Rn_go c204_0 rfl
theorem c204_1 : mcode 204 1 = some (.bipush 116, 2, 0, 0, 0) := rfl
theorem r204_1 : Rn 204 (1, [x0], st, a, h) = Rn 204 (3, [x0], .int (116 : Int32) :: st, a, h) := Rn_go c204_1 rfl
theorem c204_3 : mcode 204 3 = some (.bipush 104, 2, 0, 0, 0) := rfl
theorem r204_3 : Rn 204 (3, [x0], st, a, h) = Rn 204 (5, [x0], .int (104 : Int32) :: st, a, h) := Rn_go c204_3 rfl
theorem c204_5 : mcode 204 5 = some (.bipush 105, 2, 0, 0, 0) := rfl
theorem r204_5 : Rn 204 (5, [x0], st, a, h) = Rn 204 (7, [x0], .int (105 : Int32) :: st, a, h) := Rn_go c204_5 rfl
theorem c204_7 : mcode 204 7 = some (.bipush 110, 2, 0, 0, 0) := rfl
theorem r204_7 : Rn 204 (7, [x0], st, a, h) = Rn 204 (9, [x0], .int (110 : Int32) :: st, a, h) := Rn_go c204_7 rfl
theorem c204_9 : mcode 204 9 = some (.bipush 103, 2, 0, 0, 0) := rfl
theorem r204_9 : Rn 204 (9, [x0], st, a, h) = Rn 204 (11, [x0], .int (103 : Int32) :: st, a, h) := Rn_go c204_9 rfl
theorem c204_11 : mcode 204 11 = some (.invokevirtual 251, 3, 202, 5, 6) := rfl
theorem r204_11 : Rn 204 (11, [x0], [v4, v3, v2, v1, v0, .ref q], a, h) = if mis h q 6 = true then Bk 204 14 [x0] [] (Ec 202 [.ref q, v0, v1, v2, v3, v4] a h) else none := Rn_call1 c204_11 rfl (Nat.le_of_ble_eq_true rfl) rfl rfl (Nat.le_of_ble_eq_true rfl)
theorem c204_14 : mcode 204 14 = some (.ifCond .eq 5, 3, 0, 0, 0) := rfl
theorem r204_14 : Rn 204 (14, [x0], .int i :: st, a, h) = if i = 0 then Rn 204 (19, [x0], st, a, h) else Rn 204 (17, [x0], st, a, h) := Rn_ifc c204_14 mc_eq rfl rfl
theorem c204_17 : mcode 204 17 = some (.iconst 0, 1, 0, 0, 0) := rfl
theorem r204_17 : Rn 204 (17, [x0], st, a, h) = Rn 204 (18, [x0], .int (0 : Int32) :: st, a, h) := Rn_go c204_17 rfl
theorem c204_18 : mcode 204 18 = some (.ireturn, 1, 0, 0, 0) := rfl
theorem r204_18 : Rn 204 (18, [x0], [.int i], a, h) = some (some (.int i), a, h) := Rn_ireti c204_18
theorem c204_19 : mcode 204 19 = some (.aload_n 0, 1, 0, 0, 0) := rfl
theorem r204_19 : Rn 204 (19, [some (.ref q)], st, a, h) = Rn 204 (20, [some (.ref q)], .ref q :: st, a, h) := Rn_go c204_19 rfl
theorem c204_20 : mcode 204 20 = some (.bipush 103, 2, 0, 0, 0) := rfl
theorem r204_20 : Rn 204 (20, [x0], st, a, h) = Rn 204 (22, [x0], .int (103 : Int32) :: st, a, h) := Rn_go c204_20 rfl
theorem c204_22 : mcode 204 22 = some (.bipush 108, 2, 0, 0, 0) := rfl
theorem r204_22 : Rn 204 (22, [x0], st, a, h) = Rn 204 (24, [x0], .int (108 : Int32) :: st, a, h) := Rn_go c204_22 rfl
theorem c204_24 : mcode 204 24 = some (.bipush 111, 2, 0, 0, 0) := rfl
theorem r204_24 : Rn 204 (24, [x0], st, a, h) = Rn 204 (26, [x0], .int (111 : Int32) :: st, a, h) := Rn_go c204_24 rfl
theorem c204_26 : mcode 204 26 = some (.bipush 118, 2, 0, 0, 0) := rfl
theorem r204_26 : Rn 204 (26, [x0], st, a, h) = Rn 204 (28, [x0], .int (118 : Int32) :: st, a, h) := Rn_go c204_26 rfl
theorem c204_28 : mcode 204 28 = some (.bipush 101, 2, 0, 0, 0) := rfl
theorem r204_28 : Rn 204 (28, [x0], st, a, h) = Rn 204 (30, [x0], .int (101 : Int32) :: st, a, h) := Rn_go c204_28 rfl
theorem c204_30 : mcode 204 30 = some (.invokevirtual 251, 3, 202, 5, 6) := rfl
theorem r204_30 : Rn 204 (30, [x0], [v4, v3, v2, v1, v0, .ref q], a, h) = if mis h q 6 = true then Bk 204 33 [x0] [] (Ec 202 [.ref q, v0, v1, v2, v3, v4] a h) else none := Rn_call1 c204_30 rfl (Nat.le_of_ble_eq_true rfl) rfl rfl (Nat.le_of_ble_eq_true rfl)
theorem c204_33 : mcode 204 33 = some (.ifCond .eq 5, 3, 0, 0, 0) := rfl
theorem r204_33 : Rn 204 (33, [x0], .int i :: st, a, h) = if i = 0 then Rn 204 (38, [x0], st, a, h) else Rn 204 (36, [x0], st, a, h) := Rn_ifc c204_33 mc_eq rfl rfl
theorem c204_36 : mcode 204 36 = some (.iconst 1, 1, 0, 0, 0) := rfl
theorem r204_36 : Rn 204 (36, [x0], st, a, h) = Rn 204 (37, [x0], .int (1 : Int32) :: st, a, h) := Rn_go c204_36 rfl
theorem c204_37 : mcode 204 37 = some (.ireturn, 1, 0, 0, 0) := rfl
theorem r204_37 : Rn 204 (37, [x0], [.int i], a, h) = some (some (.int i), a, h) := Rn_ireti c204_37
theorem c204_38 : mcode 204 38 = some (.aload_n 0, 1, 0, 0, 0) := rfl
theorem r204_38 : Rn 204 (38, [some (.ref q)], st, a, h) = Rn 204 (39, [some (.ref q)], .ref q :: st, a, h) := Rn_go c204_38 rfl
theorem c204_39 : mcode 204 39 = some (.bipush 118, 2, 0, 0, 0) := rfl
theorem r204_39 : Rn 204 (39, [x0], st, a, h) = Rn 204 (41, [x0], .int (118 : Int32) :: st, a, h) := Rn_go c204_39 rfl
theorem c204_41 : mcode 204 41 = some (.bipush 101, 2, 0, 0, 0) := rfl
theorem r204_41 : Rn 204 (41, [x0], st, a, h) = Rn 204 (43, [x0], .int (101 : Int32) :: st, a, h) := Rn_go c204_41 rfl
theorem c204_43 : mcode 204 43 = some (.bipush 105, 2, 0, 0, 0) := rfl
theorem r204_43 : Rn 204 (43, [x0], st, a, h) = Rn 204 (45, [x0], .int (105 : Int32) :: st, a, h) := Rn_go c204_43 rfl
theorem c204_45 : mcode 204 45 = some (.bipush 108, 2, 0, 0, 0) := rfl
theorem r204_45 : Rn 204 (45, [x0], st, a, h) = Rn 204 (47, [x0], .int (108 : Int32) :: st, a, h) := Rn_go c204_45 rfl
theorem c204_47 : mcode 204 47 = some (.invokevirtual 255, 3, 201, 4, 6) := rfl
theorem r204_47 : Rn 204 (47, [x0], [v3, v2, v1, v0, .ref q], a, h) = if mis h q 6 = true then Bk 204 50 [x0] [] (Ec 201 [.ref q, v0, v1, v2, v3] a h) else none := Rn_call1 c204_47 rfl (Nat.le_of_ble_eq_true rfl) rfl rfl (Nat.le_of_ble_eq_true rfl)
theorem c204_50 : mcode 204 50 = some (.ifCond .eq 5, 3, 0, 0, 0) := rfl
theorem r204_50 : Rn 204 (50, [x0], .int i :: st, a, h) = if i = 0 then Rn 204 (55, [x0], st, a, h) else Rn 204 (53, [x0], st, a, h) := Rn_ifc c204_50 mc_eq rfl rfl
theorem c204_53 : mcode 204 53 = some (.iconst 2, 1, 0, 0, 0) := rfl
theorem r204_53 : Rn 204 (53, [x0], st, a, h) = Rn 204 (54, [x0], .int (2 : Int32) :: st, a, h) := Rn_go c204_53 rfl
theorem c204_54 : mcode 204 54 = some (.ireturn, 1, 0, 0, 0) := rfl
theorem r204_54 : Rn 204 (54, [x0], [.int i], a, h) = some (some (.int i), a, h) := Rn_ireti c204_54
theorem c204_55 : mcode 204 55 = some (.aload_n 0, 1, 0, 0, 0) := rfl
theorem r204_55 : Rn 204 (55, [some (.ref q)], st, a, h) = Rn 204 (56, [some (.ref q)], .ref q :: st, a, h) := Rn_go c204_55 rfl
theorem c204_56 : mcode 204 56 = some (.bipush 100, 2, 0, 0, 0) := rfl
theorem r204_56 : Rn 204 (56, [x0], st, a, h) = Rn 204 (58, [x0], .int (100 : Int32) :: st, a, h) := Rn_go c204_56 rfl
theorem c204_58 : mcode 204 58 = some (.bipush 114, 2, 0, 0, 0) := rfl
theorem r204_58 : Rn 204 (58, [x0], st, a, h) = Rn 204 (60, [x0], .int (114 : Int32) :: st, a, h) := Rn_go c204_58 rfl
theorem c204_60 : mcode 204 60 = some (.bipush 101, 2, 0, 0, 0) := rfl
theorem r204_60 : Rn 204 (60, [x0], st, a, h) = Rn 204 (62, [x0], .int (101 : Int32) :: st, a, h) := Rn_go c204_60 rfl
theorem c204_62 : mcode 204 62 = some (.bipush 115, 2, 0, 0, 0) := rfl
theorem r204_62 : Rn 204 (62, [x0], st, a, h) = Rn 204 (64, [x0], .int (115 : Int32) :: st, a, h) := Rn_go c204_62 rfl
theorem c204_64 : mcode 204 64 = some (.bipush 115, 2, 0, 0, 0) := rfl
theorem r204_64 : Rn 204 (64, [x0], st, a, h) = Rn 204 (66, [x0], .int (115 : Int32) :: st, a, h) := Rn_go c204_64 rfl
theorem c204_66 : mcode 204 66 = some (.invokevirtual 251, 3, 202, 5, 6) := rfl
theorem r204_66 : Rn 204 (66, [x0], [v4, v3, v2, v1, v0, .ref q], a, h) = if mis h q 6 = true then Bk 204 69 [x0] [] (Ec 202 [.ref q, v0, v1, v2, v3, v4] a h) else none := Rn_call1 c204_66 rfl (Nat.le_of_ble_eq_true rfl) rfl rfl (Nat.le_of_ble_eq_true rfl)
theorem c204_69 : mcode 204 69 = some (.ifCond .eq 5, 3, 0, 0, 0) := rfl
theorem r204_69 : Rn 204 (69, [x0], .int i :: st, a, h) = if i = 0 then Rn 204 (74, [x0], st, a, h) else Rn 204 (72, [x0], st, a, h) := Rn_ifc c204_69 mc_eq rfl rfl
theorem c204_72 : mcode 204 72 = some (.iconst 3, 1, 0, 0, 0) := rfl
theorem r204_72 : Rn 204 (72, [x0], st, a, h) = Rn 204 (73, [x0], .int (3 : Int32) :: st, a, h) := Rn_go c204_72 rfl
theorem c204_73 : mcode 204 73 = some (.ireturn, 1, 0, 0, 0) := rfl
theorem r204_73 : Rn 204 (73, [x0], [.int i], a, h) = some (some (.int i), a, h) := Rn_ireti c204_73
theorem c204_74 : mcode 204 74 = some (.aload_n 0, 1, 0, 0, 0) := rfl
theorem r204_74 : Rn 204 (74, [some (.ref q)], st, a, h) = Rn 204 (75, [some (.ref q)], .ref q :: st, a, h) := Rn_go c204_74 rfl
theorem c204_75 : mcode 204 75 = some (.bipush 100, 2, 0, 0, 0) := rfl
theorem r204_75 : Rn 204 (75, [x0], st, a, h) = Rn 204 (77, [x0], .int (100 : Int32) :: st, a, h) := Rn_go c204_75 rfl
theorem c204_77 : mcode 204 77 = some (.bipush 97, 2, 0, 0, 0) := rfl
theorem r204_77 : Rn 204 (77, [x0], st, a, h) = Rn 204 (79, [x0], .int (97 : Int32) :: st, a, h) := Rn_go c204_77 rfl
theorem c204_79 : mcode 204 79 = some (.bipush 110, 2, 0, 0, 0) := rfl
theorem r204_79 : Rn 204 (79, [x0], st, a, h) = Rn 204 (81, [x0], .int (110 : Int32) :: st, a, h) := Rn_go c204_79 rfl
theorem c204_81 : mcode 204 81 = some (.bipush 99, 2, 0, 0, 0) := rfl
theorem r204_81 : Rn 204 (81, [x0], st, a, h) = Rn 204 (83, [x0], .int (99 : Int32) :: st, a, h) := Rn_go c204_81 rfl
theorem c204_83 : mcode 204 83 = some (.bipush 101, 2, 0, 0, 0) := rfl
theorem r204_83 : Rn 204 (83, [x0], st, a, h) = Rn 204 (85, [x0], .int (101 : Int32) :: st, a, h) := Rn_go c204_83 rfl
theorem c204_85 : mcode 204 85 = some (.invokevirtual 251, 3, 202, 5, 6) := rfl
theorem r204_85 : Rn 204 (85, [x0], [v4, v3, v2, v1, v0, .ref q], a, h) = if mis h q 6 = true then Bk 204 88 [x0] [] (Ec 202 [.ref q, v0, v1, v2, v3, v4] a h) else none := Rn_call1 c204_85 rfl (Nat.le_of_ble_eq_true rfl) rfl rfl (Nat.le_of_ble_eq_true rfl)
theorem c204_88 : mcode 204 88 = some (.ifCond .eq 5, 3, 0, 0, 0) := rfl
theorem r204_88 : Rn 204 (88, [x0], .int i :: st, a, h) = if i = 0 then Rn 204 (93, [x0], st, a, h) else Rn 204 (91, [x0], st, a, h) := Rn_ifc c204_88 mc_eq rfl rfl
theorem c204_91 : mcode 204 91 = some (.iconst 4, 1, 0, 0, 0) := rfl
theorem r204_91 : Rn 204 (91, [x0], st, a, h) = Rn 204 (92, [x0], .int (4 : Int32) :: st, a, h) := Rn_go c204_91 rfl
theorem c204_92 : mcode 204 92 = some (.ireturn, 1, 0, 0, 0) := rfl
theorem r204_92 : Rn 204 (92, [x0], [.int i], a, h) = some (some (.int i), a, h) := Rn_ireti c204_92
theorem c204_93 : mcode 204 93 = some (.aload_n 0, 1, 0, 0, 0) := rfl
theorem r204_93 : Rn 204 (93, [some (.ref q)], st, a, h) = Rn 204 (94, [some (.ref q)], .ref q :: st, a, h) := Rn_go c204_93 rfl
theorem c204_94 : mcode 204 94 = some (.bipush 115, 2, 0, 0, 0) := rfl
theorem r204_94 : Rn 204 (94, [x0], st, a, h) = Rn 204 (96, [x0], .int (115 : Int32) :: st, a, h) := Rn_go c204_94 rfl
theorem c204_96 : mcode 204 96 = some (.bipush 116, 2, 0, 0, 0) := rfl
theorem r204_96 : Rn 204 (96, [x0], st, a, h) = Rn 204 (98, [x0], .int (116 : Int32) :: st, a, h) := Rn_go c204_96 rfl
theorem c204_98 : mcode 204 98 = some (.bipush 111, 2, 0, 0, 0) := rfl
theorem r204_98 : Rn 204 (98, [x0], st, a, h) = Rn 204 (100, [x0], .int (111 : Int32) :: st, a, h) := Rn_go c204_98 rfl
theorem c204_100 : mcode 204 100 = some (.bipush 110, 2, 0, 0, 0) := rfl
theorem r204_100 : Rn 204 (100, [x0], st, a, h) = Rn 204 (102, [x0], .int (110 : Int32) :: st, a, h) := Rn_go c204_100 rfl
theorem c204_102 : mcode 204 102 = some (.bipush 101, 2, 0, 0, 0) := rfl
theorem r204_102 : Rn 204 (102, [x0], st, a, h) = Rn 204 (104, [x0], .int (101 : Int32) :: st, a, h) := Rn_go c204_102 rfl
theorem c204_104 : mcode 204 104 = some (.invokevirtual 251, 3, 202, 5, 6) := rfl
theorem r204_104 : Rn 204 (104, [x0], [v4, v3, v2, v1, v0, .ref q], a, h) = if mis h q 6 = true then Bk 204 107 [x0] [] (Ec 202 [.ref q, v0, v1, v2, v3, v4] a h) else none := Rn_call1 c204_104 rfl (Nat.le_of_ble_eq_true rfl) rfl rfl (Nat.le_of_ble_eq_true rfl)
theorem c204_107 : mcode 204 107 = some (.ifCond .eq 5, 3, 0, 0, 0) := rfl
theorem r204_107 : Rn 204 (107, [x0], .int i :: st, a, h) = if i = 0 then Rn 204 (112, [x0], st, a, h) else Rn 204 (110, [x0], st, a, h) := Rn_ifc c204_107 mc_eq rfl rfl
theorem c204_110 : mcode 204 110 = some (.iconst 5, 1, 0, 0, 0) := rfl
theorem r204_110 : Rn 204 (110, [x0], st, a, h) = Rn 204 (111, [x0], .int (5 : Int32) :: st, a, h) := Rn_go c204_110 rfl
theorem c204_111 : mcode 204 111 = some (.ireturn, 1, 0, 0, 0) := rfl
theorem r204_111 : Rn 204 (111, [x0], [.int i], a, h) = some (some (.int i), a, h) := Rn_ireti c204_111
theorem c204_112 : mcode 204 112 = some (.aload_n 0, 1, 0, 0, 0) := rfl
theorem r204_112 : Rn 204 (112, [some (.ref q)], st, a, h) = Rn 204 (113, [some (.ref q)], .ref q :: st, a, h) := Rn_go c204_112 rfl
theorem c204_113 : mcode 204 113 = some (.bipush 109, 2, 0, 0, 0) := rfl
theorem r204_113 : Rn 204 (113, [x0], st, a, h) = Rn 204 (115, [x0], .int (109 : Int32) :: st, a, h) := Rn_go c204_113 rfl
theorem c204_115 : mcode 204 115 = some (.bipush 101, 2, 0, 0, 0) := rfl
theorem r204_115 : Rn 204 (115, [x0], st, a, h) = Rn 204 (117, [x0], .int (101 : Int32) :: st, a, h) := Rn_go c204_115 rfl
theorem c204_117 : mcode 204 117 = some (.bipush 100, 2, 0, 0, 0) := rfl
theorem r204_117 : Rn 204 (117, [x0], st, a, h) = Rn 204 (119, [x0], .int (100 : Int32) :: st, a, h) := Rn_go c204_117 rfl
theorem c204_119 : mcode 204 119 = some (.bipush 97, 2, 0, 0, 0) := rfl
theorem r204_119 : Rn 204 (119, [x0], st, a, h) = Rn 204 (121, [x0], .int (97 : Int32) :: st, a, h) := Rn_go c204_119 rfl
theorem c204_121 : mcode 204 121 = some (.bipush 108, 2, 0, 0, 0) := rfl
theorem r204_121 : Rn 204 (121, [x0], st, a, h) = Rn 204 (123, [x0], .int (108 : Int32) :: st, a, h) := Rn_go c204_121 rfl
theorem c204_123 : mcode 204 123 = some (.invokevirtual 251, 3, 202, 5, 6) := rfl
theorem r204_123 : Rn 204 (123, [x0], [v4, v3, v2, v1, v0, .ref q], a, h) = if mis h q 6 = true then Bk 204 126 [x0] [] (Ec 202 [.ref q, v0, v1, v2, v3, v4] a h) else none := Rn_call1 c204_123 rfl (Nat.le_of_ble_eq_true rfl) rfl rfl (Nat.le_of_ble_eq_true rfl)
theorem c204_126 : mcode 204 126 = some (.ifCond .eq 8, 3, 0, 0, 0) := rfl
theorem r204_126 : Rn 204 (126, [x0], .int i :: st, a, h) = if i = 0 then Rn 204 (134, [x0], st, a, h) else Rn 204 (129, [x0], st, a, h) := Rn_ifc c204_126 mc_eq rfl rfl
theorem c204_129 : mcode 204 129 = some (.bipush 6, 2, 0, 0, 0) := rfl
theorem r204_129 : Rn 204 (129, [x0], st, a, h) = Rn 204 (131, [x0], .int (6 : Int32) :: st, a, h) := Rn_go c204_129 rfl
theorem c204_131 : mcode 204 131 = some (.goto 4, 3, 0, 0, 0) := rfl
theorem r204_131 : Rn 204 (131, [x0], st, a, h) = Rn 204 (135, [x0], st, a, h) := Rn_goto c204_131 rfl
theorem c204_134 : mcode 204 134 = some (.iconst (-1), 1, 0, 0, 0) := rfl
theorem r204_134 : Rn 204 (134, [x0], st, a, h) = Rn 204 (135, [x0], .int (-1 : Int32) :: st, a, h) := Rn_go c204_134 rfl
theorem c204_135 : mcode 204 135 = some (.ireturn, 1, 0, 0, 0) := rfl
theorem r204_135 : Rn 204 (135, [x0], [.int i], a, h) = some (some (.int i), a, h) := Rn_ireti c204_135
theorem c205_0 : mcode 205 0 = some (.aload_n 0, 1, 0, 0, 0) := rfl
theorem r205_0 : Rn 205 (0, [some (.ref q), x1, x2], st, a, h) = Rn 205 (1, [some (.ref q), x1, x2], .ref q :: st, a, h) := Rn_go c205_0 rfl
theorem c205_1 : mcode 205 1 = some (.iconst 2, 1, 0, 0, 0) := rfl
theorem r205_1 : Rn 205 (1, [x0, x1, x2], st, a, h) = Rn 205 (2, [x0, x1, x2], .int (2 : Int32) :: st, a, h) := Rn_go c205_1 rfl
theorem c205_2 : mcode 205 2 = some (.invokevirtual 240, 3, 199, 1, 6) := rfl
theorem r205_2 : Rn 205 (2, [x0, x1, x2], [v0, .ref q], a, h) = if mis h q 6 = true then Bk 205 5 [x0, x1, x2] [] (Ec 199 [.ref q, v0] a h) else none := Rn_call1 c205_2 rfl (Nat.le_of_ble_eq_true rfl) rfl rfl (Nat.le_of_ble_eq_true rfl)
theorem c205_5 : mcode 205 5 = some (.ifCond .eq 33, 3, 0, 0, 0) := rfl
theorem r205_5 : Rn 205 (5, [x0, x1, x2], .int i :: st, a, h) = if i = 0 then Rn 205 (38, [x0, x1, x2], st, a, h) else Rn 205 (8, [x0, x1, x2], st, a, h) := Rn_ifc c205_5 mc_eq rfl rfl
theorem c205_8 : mcode 205 8 = some (.aload_n 0, 1, 0, 0, 0) := rfl
theorem r205_8 : Rn 205 (8, [some (.ref q), x1, x2], st, a, h) = Rn 205 (9, [some (.ref q), x1, x2], .ref q :: st, a, h) := Rn_go c205_8 rfl
theorem c205_9 : mcode 205 9 = some (.aload_n 0, 1, 0, 0, 0) := rfl
theorem r205_9 : Rn 205 (9, [some (.ref q), x1, x2], st, a, h) = Rn 205 (10, [some (.ref q), x1, x2], .ref q :: st, a, h) := Rn_go c205_9 rfl
theorem c205_10 : mcode 205 10 = some (.getfield 219, 3, 6, 14, 0) := rfl
theorem r205_10 : Rn 205 (10, [x0, x1, x2], .ref q :: st, a, h) = Kv 205 13 [x0, x1, x2] st a h (mgf h q 6 14) := Rn_getf c205_10 rfl
theorem c205_13 : mcode 205 13 = some (.invokevirtual 222, 3, 196, 1, 6) := rfl
theorem r205_13 : Rn 205 (13, [x0, x1, x2], [v0, .ref q], a, h) = if mis h q 6 = true then Bk 205 16 [x0, x1, x2] [] (Ec 196 [.ref q, v0] a h) else none := Rn_call1 c205_13 rfl (Nat.le_of_ble_eq_true rfl) rfl rfl (Nat.le_of_ble_eq_true rfl)
theorem c205_16 : mcode 205 16 = some (.iload_n 1, 1, 0, 0, 0) := rfl
theorem r205_16 : Rn 205 (16, [x0, some (.int i), x2], st, a, h) = Rn 205 (17, [x0, some (.int i), x2], .int i :: st, a, h) := Rn_go c205_16 rfl
theorem c205_17 : mcode 205 17 = some (.if_icmp .ne 21, 3, 0, 0, 0) := rfl
theorem r205_17 : Rn 205 (17, [x0, x1, x2], .int j :: .int i :: st, a, h) = if i = j then Rn 205 (20, [x0, x1, x2], st, a, h) else Rn 205 (38, [x0, x1, x2], st, a, h) := Rn_icmpn c205_17 mc_ne rfl rfl
theorem c205_20 : mcode 205 20 = some (.aload_n 0, 1, 0, 0, 0) := rfl
theorem r205_20 : Rn 205 (20, [some (.ref q), x1, x2], st, a, h) = Rn 205 (21, [some (.ref q), x1, x2], .ref q :: st, a, h) := Rn_go c205_20 rfl
theorem c205_21 : mcode 205 21 = some (.aload_n 0, 1, 0, 0, 0) := rfl
theorem r205_21 : Rn 205 (21, [some (.ref q), x1, x2], st, a, h) = Rn 205 (22, [some (.ref q), x1, x2], .ref q :: st, a, h) := Rn_go c205_21 rfl
theorem c205_22 : mcode 205 22 = some (.getfield 219, 3, 6, 14, 0) := rfl
theorem r205_22 : Rn 205 (22, [x0, x1, x2], .ref q :: st, a, h) = Kv 205 25 [x0, x1, x2] st a h (mgf h q 6 14) := Rn_getf c205_22 rfl
theorem c205_25 : mcode 205 25 = some (.iconst 1, 1, 0, 0, 0) := rfl
theorem r205_25 : Rn 205 (25, [x0, x1, x2], st, a, h) = Rn 205 (26, [x0, x1, x2], .int (1 : Int32) :: st, a, h) := Rn_go c205_25 rfl
theorem c205_26 : mcode 205 26 = some (.iadd, 1, 0, 0, 0) := rfl
theorem r205_26 : Rn 205 (26, [x0, x1, x2], .int j :: .int i :: st, a, h) = Rn 205 (27, [x0, x1, x2], .int (i + j) :: st, a, h) := Rn_go c205_26 rfl
theorem c205_27 : mcode 205 27 = some (.invokevirtual 222, 3, 196, 1, 6) := rfl
theorem r205_27 : Rn 205 (27, [x0, x1, x2], [v0, .ref q], a, h) = if mis h q 6 = true then Bk 205 30 [x0, x1, x2] [] (Ec 196 [.ref q, v0] a h) else none := Rn_call1 c205_27 rfl (Nat.le_of_ble_eq_true rfl) rfl rfl (Nat.le_of_ble_eq_true rfl)
theorem c205_30 : mcode 205 30 = some (.iload_n 2, 1, 0, 0, 0) := rfl
theorem r205_30 : Rn 205 (30, [x0, x1, some (.int i)], st, a, h) = Rn 205 (31, [x0, x1, some (.int i)], .int i :: st, a, h) := Rn_go c205_30 rfl
theorem c205_31 : mcode 205 31 = some (.if_icmp .ne 7, 3, 0, 0, 0) := rfl
theorem r205_31 : Rn 205 (31, [x0, x1, x2], .int j :: .int i :: st, a, h) = if i = j then Rn 205 (34, [x0, x1, x2], st, a, h) else Rn 205 (38, [x0, x1, x2], st, a, h) := Rn_icmpn c205_31 mc_ne rfl rfl
theorem c205_34 : mcode 205 34 = some (.iconst 1, 1, 0, 0, 0) := rfl
theorem r205_34 : Rn 205 (34, [x0, x1, x2], st, a, h) = Rn 205 (35, [x0, x1, x2], .int (1 : Int32) :: st, a, h) := Rn_go c205_34 rfl
theorem c205_35 : mcode 205 35 = some (.goto 4, 3, 0, 0, 0) := rfl
theorem r205_35 : Rn 205 (35, [x0, x1, x2], st, a, h) = Rn 205 (39, [x0, x1, x2], st, a, h) := Rn_goto c205_35 rfl
theorem c205_38 : mcode 205 38 = some (.iconst 0, 1, 0, 0, 0) := rfl
theorem r205_38 : Rn 205 (38, [x0, x1, x2], st, a, h) = Rn 205 (39, [x0, x1, x2], .int (0 : Int32) :: st, a, h) := Rn_go c205_38 rfl
theorem c205_39 : mcode 205 39 = some (.ireturn, 1, 1, 0, 0) := rfl
theorem r205_39 : Rn 205 (39, [x0, x1, x2], [.int i], a, h) = if mrt 1 i = true then some (some (.int i), a, h) else none := Rn_iretz c205_39
theorem c206_0 : mcode 206 0 = some (.iload_n 1, 1, 0, 0, 0) := rfl
theorem r206_0 : Rn 206 (0, [x0, some (.int i), x2, x3], st, a, h) = Rn 206 (1, [x0, some (.int i), x2, x3], .int i :: st, a, h) := Rn_go c206_0 rfl
theorem c206_1 : mcode 206 1 = some (.ifCond .ne 5, 3, 0, 0, 0) := rfl
theorem r206_1 : Rn 206 (1, [x0, x1, x2, x3], .int i :: st, a, h) = if i = 0 then Rn 206 (4, [x0, x1, x2, x3], st, a, h) else Rn 206 (6, [x0, x1, x2, x3], st, a, h) := Rn_ifcn c206_1 mc_ne rfl rfl
theorem c206_4 : mcode 206 4 = some (.iconst 1, 1, 0, 0, 0) := rfl
theorem r206_4 : Rn 206 (4, [x0, x1, x2, x3], st, a, h) = Rn 206 (5, [x0, x1, x2, x3], .int (1 : Int32) :: st, a, h) := Rn_go c206_4 rfl
theorem c206_5 : mcode 206 5 = some (.ireturn, 1, 1, 0, 0) := rfl
theorem r206_5 : Rn 206 (5, [x0, x1, x2, x3], [.int i], a, h) = if mrt 1 i = true then some (some (.int i), a, h) else none := Rn_iretz c206_5
theorem c206_6 : mcode 206 6 = some (.aload_n 0, 1, 0, 0, 0) := rfl
theorem r206_6 : Rn 206 (6, [some (.ref q), x1, x2, x3], st, a, h) = Rn 206 (7, [some (.ref q), x1, x2, x3], .ref q :: st, a, h) := Rn_go c206_6 rfl
theorem c206_7 : mcode 206 7 = some (.invokevirtual 258, 3, 197, 0, 6) := rfl
theorem r206_7 : Rn 206 (7, [x0, x1, x2, x3], [.ref q], a, h) = if mis h q 6 = true then Bk 206 10 [x0, x1, x2, x3] [] (Ec 197 [.ref q] a h) else none := Rn_call1 c206_7 rfl (Nat.le_of_ble_eq_true rfl) rfl rfl (Nat.le_of_ble_eq_true rfl)
theorem c206_10 : mcode 206 10 = some (.aload_n 0, 1, 0, 0, 0) := rfl
theorem r206_10 : Rn 206 (10, [some (.ref q), x1, x2, x3], st, a, h) = Rn 206 (11, [some (.ref q), x1, x2, x3], .ref q :: st, a, h) := Rn_go c206_10 rfl
theorem c206_11 : mcode 206 11 = some (.iconst 0, 1, 0, 0, 0) := rfl
theorem r206_11 : Rn 206 (11, [x0, x1, x2, x3], st, a, h) = Rn 206 (12, [x0, x1, x2, x3], .int (0 : Int32) :: st, a, h) := Rn_go c206_11 rfl
theorem c206_12 : mcode 206 12 = some (.iload_n 3, 1, 0, 0, 0) := rfl
theorem r206_12 : Rn 206 (12, [x0, x1, x2, some (.int i)], st, a, h) = Rn 206 (13, [x0, x1, x2, some (.int i)], .int i :: st, a, h) := Rn_go c206_12 rfl
theorem c206_13 : mcode 206 13 = some (.invokevirtual 261, 3, 203, 2, 6) := rfl
theorem r206_13 : Rn 206 (13, [x0, x1, x2, x3], [v1, v0, .ref q], a, h) = if mis h q 6 = true then Bk 206 16 [x0, x1, x2, x3] [] (Ec 203 [.ref q, v0, v1] a h) else none := Rn_call1 c206_13 rfl (Nat.le_of_ble_eq_true rfl) rfl rfl (Nat.le_of_ble_eq_true rfl)
theorem c206_16 : mcode 206 16 = some (.ifCond .ne 5, 3, 0, 0, 0) := rfl
theorem r206_16 : Rn 206 (16, [x0, x1, x2, x3], .int i :: st, a, h) = if i = 0 then Rn 206 (19, [x0, x1, x2, x3], st, a, h) else Rn 206 (21, [x0, x1, x2, x3], st, a, h) := Rn_ifcn c206_16 mc_ne rfl rfl
theorem c206_19 : mcode 206 19 = some (.iconst 0, 1, 0, 0, 0) := rfl
theorem r206_19 : Rn 206 (19, [x0, x1, x2, x3], st, a, h) = Rn 206 (20, [x0, x1, x2, x3], .int (0 : Int32) :: st, a, h) := Rn_go c206_19 rfl
theorem c206_20 : mcode 206 20 = some (.ireturn, 1, 1, 0, 0) := rfl
theorem r206_20 : Rn 206 (20, [x0, x1, x2, x3], [.int i], a, h) = if mrt 1 i = true then some (some (.int i), a, h) else none := Rn_iretz c206_20
theorem c206_21 : mcode 206 21 = some (.aload_n 0, 1, 0, 0, 0) := rfl
theorem r206_21 : Rn 206 (21, [some (.ref q), x1, x2, x3], st, a, h) = Rn 206 (22, [some (.ref q), x1, x2, x3], .ref q :: st, a, h) := Rn_go c206_21 rfl
theorem c206_22 : mcode 206 22 = some (.getfield 7, 3, 6, 0, 0) := rfl
theorem r206_22 : Rn 206 (22, [x0, x1, x2, x3], .ref q :: st, a, h) = Kv 206 25 [x0, x1, x2, x3] st a h (mgf h q 6 0) := Rn_getf c206_22 rfl
theorem c206_25 : mcode 206 25 = some (.iload_n 2, 1, 0, 0, 0) := rfl
theorem r206_25 : Rn 206 (25, [x0, x1, some (.int i), x3], st, a, h) = Rn 206 (26, [x0, x1, some (.int i), x3], .int i :: st, a, h) := Rn_go c206_25 rfl
theorem c206_26 : mcode 206 26 = some (.aload_n 0, 1, 0, 0, 0) := rfl
theorem r206_26 : Rn 206 (26, [some (.ref q), x1, x2, x3], st, a, h) = Rn 206 (27, [some (.ref q), x1, x2, x3], .ref q :: st, a, h) := Rn_go c206_26 rfl
theorem c206_27 : mcode 206 27 = some (.getfield 234, 3, 6, 16, 0) := rfl
theorem r206_27 : Rn 206 (27, [x0, x1, x2, x3], .ref q :: st, a, h) = Kv 206 30 [x0, x1, x2, x3] st a h (mgf h q 6 16) := Rn_getf c206_27 rfl
theorem c206_30 : mcode 206 30 = some (.iastore, 1, 0, 0, 0) := rfl
theorem r206_30 : Rn 206 (30, [x0, x1, x2, x3], .int j :: .int i :: .ref q :: st, a, h) = Kh 206 31 [x0, x1, x2, x3] st a (mias h q i j) := Rn_iast c206_30 rfl
theorem c206_31 : mcode 206 31 = some (.aload_n 0, 1, 0, 0, 0) := rfl
theorem r206_31 : Rn 206 (31, [some (.ref q), x1, x2, x3], st, a, h) = Rn 206 (32, [some (.ref q), x1, x2, x3], .ref q :: st, a, h) := Rn_go c206_31 rfl
theorem c206_32 : mcode 206 32 = some (.invokevirtual 258, 3, 197, 0, 6) := rfl
theorem r206_32 : Rn 206 (32, [x0, x1, x2, x3], [.ref q], a, h) = if mis h q 6 = true then Bk 206 35 [x0, x1, x2, x3] [] (Ec 197 [.ref q] a h) else none := Rn_call1 c206_32 rfl (Nat.le_of_ble_eq_true rfl) rfl rfl (Nat.le_of_ble_eq_true rfl)
theorem c206_35 : mcode 206 35 = some (.iconst 1, 1, 0, 0, 0) := rfl
theorem r206_35 : Rn 206 (35, [x0, x1, x2, x3], st, a, h) = Rn 206 (36, [x0, x1, x2, x3], .int (1 : Int32) :: st, a, h) := Rn_go c206_35 rfl
theorem c206_36 : mcode 206 36 = some (.ireturn, 1, 1, 0, 0) := rfl
theorem r206_36 : Rn 206 (36, [x0, x1, x2, x3], [.int i], a, h) = if mrt 1 i = true then some (some (.int i), a, h) else none := Rn_iretz c206_36
theorem c207_0 : mcode 207 0 = some (.aload_n 0, 1, 0, 0, 0) := rfl
theorem r207_0 : Rn 207 (0, [some (.ref q), x1, x2], st, a, h) = Rn 207 (1, [some (.ref q), x1, x2], .ref q :: st, a, h) := Rn_go c207_0 rfl
theorem c207_1 : mcode 207 1 = some (.getfield 7, 3, 6, 0, 0) := rfl
theorem r207_1 : Rn 207 (1, [x0, x1, x2], .ref q :: st, a, h) = Kv 207 4 [x0, x1, x2] st a h (mgf h q 6 0) := Rn_getf c207_1 rfl
theorem c207_4 : mcode 207 4 = some (.iconst 0, 1, 0, 0, 0) := rfl
theorem r207_4 : Rn 207 (4, [x0, x1, x2], st, a, h) = Rn 207 (5, [x0, x1, x2], .int (0 : Int32) :: st, a, h) := Rn_go c207_4 rfl
theorem c207_5 : mcode 207 5 = some (.iaload, 1, 0, 0, 0) := rfl
theorem r207_5 : Rn 207 (5, [x0, x1, x2], .int i :: .ref q :: st, a, h) = Ki 207 6 [x0, x1, x2] st a h (mld h q i false) := Rn_iald c207_5 rfl
theorem c207_6 : mcode 207 6 = some (.bipush 8, 2, 0, 0, 0) := rfl
theorem r207_6 : Rn 207 (6, [x0, x1, x2], st, a, h) = Rn 207 (8, [x0, x1, x2], .int (8 : Int32) :: st, a, h) := Rn_go c207_6 rfl
theorem c207_8 : mcode 207 8 = some (.if_icmp .ne 8, 3, 0, 0, 0) := rfl
theorem r207_8 : Rn 207 (8, [x0, x1, x2], .int j :: .int i :: st, a, h) = if i = j then Rn 207 (11, [x0, x1, x2], st, a, h) else Rn 207 (16, [x0, x1, x2], st, a, h) := Rn_icmpn c207_8 mc_ne rfl rfl
theorem c207_11 : mcode 207 11 = some (.aload_n 0, 1, 0, 0, 0) := rfl
theorem r207_11 : Rn 207 (11, [some (.ref q), x1, x2], st, a, h) = Rn 207 (12, [some (.ref q), x1, x2], .ref q :: st, a, h) := Rn_go c207_11 rfl
theorem c207_12 : mcode 207 12 = some (.invokevirtual 247, 3, 200, 0, 6) := rfl
theorem r207_12 : Rn 207 (12, [x0, x1, x2], [.ref q], a, h) = if mis h q 6 = true then Bk 207 15 [x0, x1, x2] [] (Ec 200 [.ref q] a h) else none := Rn_call1 c207_12 rfl (Nat.le_of_ble_eq_true rfl) rfl rfl (Nat.le_of_ble_eq_true rfl)
theorem c207_15 : mcode 207 15 = some (.ireturn, 1, 1, 0, 0) := rfl
theorem r207_15 : Rn 207 (15, [x0, x1, x2], [.int i], a, h) = if mrt 1 i = true then some (some (.int i), a, h) else none := Rn_iretz c207_15
theorem c207_16 : mcode 207 16 = some (.aload_n 0, 1, 0, 0, 0) := rfl
theorem r207_16 : Rn 207 (16, [some (.ref q), x1, x2], st, a, h) = Rn 207 (17, [some (.ref q), x1, x2], .ref q :: st, a, h) := Rn_go c207_16 rfl
theorem c207_17 : mcode 207 17 = some (.iload_n 1, 1, 0, 0, 0) := rfl
theorem r207_17 : Rn 207 (17, [x0, some (.int i), x2], st, a, h) = Rn 207 (18, [x0, some (.int i), x2], .int i :: st, a, h) := Rn_go c207_17 rfl
theorem c207_18 : mcode 207 18 = some (.iconst 0, 1, 0, 0, 0) := rfl
theorem r207_18 : Rn 207 (18, [x0, x1, x2], st, a, h) = Rn 207 (19, [x0, x1, x2], .int (0 : Int32) :: st, a, h) := Rn_go c207_18 rfl
theorem c207_19 : mcode 207 19 = some (.invokevirtual 92, 3, 146, 2, 6) := rfl
theorem r207_19 : Rn 207 (19, [x0, x1, x2], [v1, v0, .ref q], a, h) = if mis h q 6 = true then Bk 207 22 [x0, x1, x2] [] (Ec 146 [.ref q, v0, v1] a h) else none := Rn_call1 c207_19 rfl (Nat.le_of_ble_eq_true rfl) rfl rfl (Nat.le_of_ble_eq_true rfl)
theorem c207_22 : mcode 207 22 = some (.aload_n 0, 1, 0, 0, 0) := rfl
theorem r207_22 : Rn 207 (22, [some (.ref q), x1, x2], st, a, h) = Rn 207 (23, [some (.ref q), x1, x2], .ref q :: st, a, h) := Rn_go c207_22 rfl
theorem c207_23 : mcode 207 23 = some (.getfield 7, 3, 6, 0, 0) := rfl
theorem r207_23 : Rn 207 (23, [x0, x1, x2], .ref q :: st, a, h) = Kv 207 26 [x0, x1, x2] st a h (mgf h q 6 0) := Rn_getf c207_23 rfl
theorem c207_26 : mcode 207 26 = some (.iconst 0, 1, 0, 0, 0) := rfl
theorem r207_26 : Rn 207 (26, [x0, x1, x2], st, a, h) = Rn 207 (27, [x0, x1, x2], .int (0 : Int32) :: st, a, h) := Rn_go c207_26 rfl
theorem c207_27 : mcode 207 27 = some (.iaload, 1, 0, 0, 0) := rfl
theorem r207_27 : Rn 207 (27, [x0, x1, x2], .int i :: .ref q :: st, a, h) = Ki 207 28 [x0, x1, x2] st a h (mld h q i false) := Rn_iald c207_27 rfl
theorem c207_28 : mcode 207 28 = some (.iconst 1, 1, 0, 0, 0) := rfl
theorem r207_28 : Rn 207 (28, [x0, x1, x2], st, a, h) = Rn 207 (29, [x0, x1, x2], .int (1 : Int32) :: st, a, h) := Rn_go c207_28 rfl
theorem c207_29 : mcode 207 29 = some (.isub, 1, 0, 0, 0) := rfl
theorem r207_29 : Rn 207 (29, [x0, x1, x2], .int j :: .int i :: st, a, h) = Rn 207 (30, [x0, x1, x2], .int (i - j) :: st, a, h) := Rn_go c207_29 rfl
theorem c207_30 : mcode 207 30 = some (.istore_n 2, 1, 0, 0, 0) := rfl
theorem r207_30 : Rn 207 (30, [x0, x1, x2], .int i :: st, a, h) = Nl x1 (Rn 207 (31, [x0, x1, some (.int i)], st, a, h)) := Rn_st1 (k := 2) (v := .int i) x1 c207_30 rfl rfl rfl rfl
theorem c207_31 : mcode 207 31 = some (.aload_n 0, 1, 0, 0, 0) := rfl
theorem r207_31 : Rn 207 (31, [some (.ref q), x1, x2], st, a, h) = Rn 207 (32, [some (.ref q), x1, x2], .ref q :: st, a, h) := Rn_go c207_31 rfl
theorem c207_32 : mcode 207 32 = some (.invokevirtual 258, 3, 197, 0, 6) := rfl
theorem r207_32 : Rn 207 (32, [x0, x1, x2], [.ref q], a, h) = if mis h q 6 = true then Bk 207 35 [x0, x1, x2] [] (Ec 197 [.ref q] a h) else none := Rn_call1 c207_32 rfl (Nat.le_of_ble_eq_true rfl) rfl rfl (Nat.le_of_ble_eq_true rfl)
theorem c207_35 : mcode 207 35 = some (.aload_n 0, 1, 0, 0, 0) := rfl
theorem r207_35 : Rn 207 (35, [some (.ref q), x1, x2], st, a, h) = Rn 207 (36, [some (.ref q), x1, x2], .ref q :: st, a, h) := Rn_go c207_35 rfl
theorem c207_36 : mcode 207 36 = some (.aload_n 0, 1, 0, 0, 0) := rfl
theorem r207_36 : Rn 207 (36, [some (.ref q), x1, x2], st, a, h) = Rn 207 (37, [some (.ref q), x1, x2], .ref q :: st, a, h) := Rn_go c207_36 rfl
theorem c207_37 : mcode 207 37 = some (.bipush 105, 2, 0, 0, 0) := rfl
theorem r207_37 : Rn 207 (37, [x0, x1, x2], st, a, h) = Rn 207 (39, [x0, x1, x2], .int (105 : Int32) :: st, a, h) := Rn_go c207_37 rfl
theorem c207_39 : mcode 207 39 = some (.bipush 110, 2, 0, 0, 0) := rfl
theorem r207_39 : Rn 207 (39, [x0, x1, x2], st, a, h) = Rn 207 (41, [x0, x1, x2], .int (110 : Int32) :: st, a, h) := Rn_go c207_39 rfl
theorem c207_41 : mcode 207 41 = some (.invokevirtual 264, 3, 205, 2, 6) := rfl
theorem r207_41 : Rn 207 (41, [x0, x1, x2], [v1, v0, .ref q, .ref q0], a, h) = if mis h q 6 = true then Bk 207 44 [x0, x1, x2] [.ref q0] (Ec 205 [.ref q, v0, v1] a h) else none := Rn_call1 c207_41 rfl (Nat.le_of_ble_eq_true rfl) rfl rfl (Nat.le_of_ble_eq_true rfl)
theorem c207_44 : mcode 207 44 = some (.iload_n 2, 1, 0, 0, 0) := rfl
theorem r207_44 : Rn 207 (44, [x0, x1, some (.int i)], st, a, h) = Rn 207 (45, [x0, x1, some (.int i)], .int i :: st, a, h) := Rn_go c207_44 rfl
theorem c207_45 : mcode 207 45 = some (.iconst 1, 1, 0, 0, 0) := rfl
theorem r207_45 : Rn 207 (45, [x0, x1, x2], st, a, h) = Rn 207 (46, [x0, x1, x2], .int (1 : Int32) :: st, a, h) := Rn_go c207_45 rfl
theorem c207_46 : mcode 207 46 = some (.invokestatic 79, 3, 131, 2, 0) := rfl
theorem r207_46 : Rn 207 (46, [x0, x1, x2], [v1, v0, .int i0, .ref q1], a, h) = Bk 207 49 [x0, x1, x2] [.int i0, .ref q1] (Ec 131 [v0, v1] a h) := Rn_call0 c207_46 (fun z => nomatch z) rfl (Nat.le_of_ble_eq_true rfl) rfl rfl (Nat.le_of_ble_eq_true rfl)
theorem c207_49 : mcode 207 49 = some (.bipush 7, 2, 0, 0, 0) := rfl
theorem r207_49 : Rn 207 (49, [x0, x1, x2], st, a, h) = Rn 207 (51, [x0, x1, x2], .int (7 : Int32) :: st, a, h) := Rn_go c207_49 rfl
theorem c207_51 : mcode 207 51 = some (.invokevirtual 267, 3, 206, 3, 6) := rfl
theorem r207_51 : Rn 207 (51, [x0, x1, x2], [v2, v1, v0, .ref q], a, h) = if mis h q 6 = true then Bk 207 54 [x0, x1, x2] [] (Ec 206 [.ref q, v0, v1, v2] a h) else none := Rn_call1 c207_51 rfl (Nat.le_of_ble_eq_true rfl) rfl rfl (Nat.le_of_ble_eq_true rfl)
theorem c207_54 : mcode 207 54 = some (.ifCond .eq 57, 3, 0, 0, 0) := rfl
theorem r207_54 : Rn 207 (54, [x0, x1, x2], .int i :: st, a, h) = if i = 0 then Rn 207 (111, [x0, x1, x2], st, a, h) else Rn 207 (57, [x0, x1, x2], st, a, h) := Rn_ifc c207_54 mc_eq rfl rfl
theorem c207_57 : mcode 207 57 = some (.aload_n 0, 1, 0, 0, 0) := rfl
theorem r207_57 : Rn 207 (57, [some (.ref q), x1, x2], st, a, h) = Rn 207 (58, [some (.ref q), x1, x2], .ref q :: st, a, h) := Rn_go c207_57 rfl
theorem c207_58 : mcode 207 58 = some (.aload_n 0, 1, 0, 0, 0) := rfl
theorem r207_58 : Rn 207 (58, [some (.ref q), x1, x2], st, a, h) = Rn 207 (59, [some (.ref q), x1, x2], .ref q :: st, a, h) := Rn_go c207_58 rfl
theorem c207_59 : mcode 207 59 = some (.bipush 111, 2, 0, 0, 0) := rfl
theorem r207_59 : Rn 207 (59, [x0, x1, x2], st, a, h) = Rn 207 (61, [x0, x1, x2], .int (111 : Int32) :: st, a, h) := Rn_go c207_59 rfl
theorem c207_61 : mcode 207 61 = some (.bipush 102, 2, 0, 0, 0) := rfl
theorem r207_61 : Rn 207 (61, [x0, x1, x2], st, a, h) = Rn 207 (63, [x0, x1, x2], .int (102 : Int32) :: st, a, h) := Rn_go c207_61 rfl
theorem c207_63 : mcode 207 63 = some (.invokevirtual 264, 3, 205, 2, 6) := rfl
theorem r207_63 : Rn 207 (63, [x0, x1, x2], [v1, v0, .ref q, .ref q0], a, h) = if mis h q 6 = true then Bk 207 66 [x0, x1, x2] [.ref q0] (Ec 205 [.ref q, v0, v1] a h) else none := Rn_call1 c207_63 rfl (Nat.le_of_ble_eq_true rfl) rfl rfl (Nat.le_of_ble_eq_true rfl)
theorem c207_66 : mcode 207 66 = some (.iload_n 2, 1, 0, 0, 0) := rfl
theorem r207_66 : Rn 207 (66, [x0, x1, some (.int i)], st, a, h) = Rn 207 (67, [x0, x1, some (.int i)], .int i :: st, a, h) := Rn_go c207_66 rfl
theorem c207_67 : mcode 207 67 = some (.iconst 2, 1, 0, 0, 0) := rfl
theorem r207_67 : Rn 207 (67, [x0, x1, x2], st, a, h) = Rn 207 (68, [x0, x1, x2], .int (2 : Int32) :: st, a, h) := Rn_go c207_67 rfl
theorem c207_68 : mcode 207 68 = some (.invokestatic 79, 3, 131, 2, 0) := rfl
theorem r207_68 : Rn 207 (68, [x0, x1, x2], [v1, v0, .int i0, .ref q1], a, h) = Bk 207 71 [x0, x1, x2] [.int i0, .ref q1] (Ec 131 [v0, v1] a h) := Rn_call0 c207_68 (fun z => nomatch z) rfl (Nat.le_of_ble_eq_true rfl) rfl rfl (Nat.le_of_ble_eq_true rfl)
theorem c207_71 : mcode 207 71 = some (.iconst 2, 1, 0, 0, 0) := rfl
theorem r207_71 : Rn 207 (71, [x0, x1, x2], st, a, h) = Rn 207 (72, [x0, x1, x2], .int (2 : Int32) :: st, a, h) := Rn_go c207_71 rfl
theorem c207_72 : mcode 207 72 = some (.invokevirtual 267, 3, 206, 3, 6) := rfl
theorem r207_72 : Rn 207 (72, [x0, x1, x2], [v2, v1, v0, .ref q], a, h) = if mis h q 6 = true then Bk 207 75 [x0, x1, x2] [] (Ec 206 [.ref q, v0, v1, v2] a h) else none := Rn_call1 c207_72 rfl (Nat.le_of_ble_eq_true rfl) rfl rfl (Nat.le_of_ble_eq_true rfl)
theorem c207_75 : mcode 207 75 = some (.ifCond .eq 36, 3, 0, 0, 0) := rfl
theorem r207_75 : Rn 207 (75, [x0, x1, x2], .int i :: st, a, h) = if i = 0 then Rn 207 (111, [x0, x1, x2], st, a, h) else Rn 207 (78, [x0, x1, x2], st, a, h) := Rn_ifc c207_75 mc_eq rfl rfl
theorem c207_78 : mcode 207 78 = some (.aload_n 0, 1, 0, 0, 0) := rfl
theorem r207_78 : Rn 207 (78, [some (.ref q), x1, x2], st, a, h) = Rn 207 (79, [some (.ref q), x1, x2], .ref q :: st, a, h) := Rn_go c207_78 rfl
theorem c207_79 : mcode 207 79 = some (.aload_n 0, 1, 0, 0, 0) := rfl
theorem r207_79 : Rn 207 (79, [some (.ref q), x1, x2], st, a, h) = Rn 207 (80, [some (.ref q), x1, x2], .ref q :: st, a, h) := Rn_go c207_79 rfl
theorem c207_80 : mcode 207 80 = some (.bipush 104, 2, 0, 0, 0) := rfl
theorem r207_80 : Rn 207 (80, [x0, x1, x2], st, a, h) = Rn 207 (82, [x0, x1, x2], .int (104 : Int32) :: st, a, h) := Rn_go c207_80 rfl
theorem c207_82 : mcode 207 82 = some (.bipush 111, 2, 0, 0, 0) := rfl
theorem r207_82 : Rn 207 (82, [x0, x1, x2], st, a, h) = Rn 207 (84, [x0, x1, x2], .int (111 : Int32) :: st, a, h) := Rn_go c207_82 rfl
theorem c207_84 : mcode 207 84 = some (.bipush 108, 2, 0, 0, 0) := rfl
theorem r207_84 : Rn 207 (84, [x0, x1, x2], st, a, h) = Rn 207 (86, [x0, x1, x2], .int (108 : Int32) :: st, a, h) := Rn_go c207_84 rfl
theorem c207_86 : mcode 207 86 = some (.bipush 100, 2, 0, 0, 0) := rfl
theorem r207_86 : Rn 207 (86, [x0, x1, x2], st, a, h) = Rn 207 (88, [x0, x1, x2], .int (100 : Int32) :: st, a, h) := Rn_go c207_86 rfl
theorem c207_88 : mcode 207 88 = some (.bipush 115, 2, 0, 0, 0) := rfl
theorem r207_88 : Rn 207 (88, [x0, x1, x2], st, a, h) = Rn 207 (90, [x0, x1, x2], .int (115 : Int32) :: st, a, h) := Rn_go c207_88 rfl
theorem c207_90 : mcode 207 90 = some (.invokevirtual 251, 3, 202, 5, 6) := rfl
theorem r207_90 : Rn 207 (90, [x0, x1, x2], [v4, v3, v2, v1, v0, .ref q, .ref q0], a, h) = if mis h q 6 = true then Bk 207 93 [x0, x1, x2] [.ref q0] (Ec 202 [.ref q, v0, v1, v2, v3, v4] a h) else none := Rn_call1 c207_90 rfl (Nat.le_of_ble_eq_true rfl) rfl rfl (Nat.le_of_ble_eq_true rfl)
theorem c207_93 : mcode 207 93 = some (.iload_n 2, 1, 0, 0, 0) := rfl
theorem r207_93 : Rn 207 (93, [x0, x1, some (.int i)], st, a, h) = Rn 207 (94, [x0, x1, some (.int i)], .int i :: st, a, h) := Rn_go c207_93 rfl
theorem c207_94 : mcode 207 94 = some (.iconst 3, 1, 0, 0, 0) := rfl
theorem r207_94 : Rn 207 (94, [x0, x1, x2], st, a, h) = Rn 207 (95, [x0, x1, x2], .int (3 : Int32) :: st, a, h) := Rn_go c207_94 rfl
theorem c207_95 : mcode 207 95 = some (.invokestatic 79, 3, 131, 2, 0) := rfl
theorem r207_95 : Rn 207 (95, [x0, x1, x2], [v1, v0, .int i0, .ref q1], a, h) = Bk 207 98 [x0, x1, x2] [.int i0, .ref q1] (Ec 131 [v0, v1] a h) := Rn_call0 c207_95 (fun z => nomatch z) rfl (Nat.le_of_ble_eq_true rfl) rfl rfl (Nat.le_of_ble_eq_true rfl)
theorem c207_98 : mcode 207 98 = some (.sipush 999, 3, 0, 0, 0) := rfl
theorem r207_98 : Rn 207 (98, [x0, x1, x2], st, a, h) = Rn 207 (101, [x0, x1, x2], .int (999 : Int32) :: st, a, h) := Rn_go c207_98 rfl
theorem c207_101 : mcode 207 101 = some (.invokevirtual 267, 3, 206, 3, 6) := rfl
theorem r207_101 : Rn 207 (101, [x0, x1, x2], [v2, v1, v0, .ref q], a, h) = if mis h q 6 = true then Bk 207 104 [x0, x1, x2] [] (Ec 206 [.ref q, v0, v1, v2] a h) else none := Rn_call1 c207_101 rfl (Nat.le_of_ble_eq_true rfl) rfl rfl (Nat.le_of_ble_eq_true rfl)
theorem c207_104 : mcode 207 104 = some (.ifCond .eq 7, 3, 0, 0, 0) := rfl
theorem r207_104 : Rn 207 (104, [x0, x1, x2], .int i :: st, a, h) = if i = 0 then Rn 207 (111, [x0, x1, x2], st, a, h) else Rn 207 (107, [x0, x1, x2], st, a, h) := Rn_ifc c207_104 mc_eq rfl rfl
theorem c207_107 : mcode 207 107 = some (.iconst 1, 1, 0, 0, 0) := rfl
theorem r207_107 : Rn 207 (107, [x0, x1, x2], st, a, h) = Rn 207 (108, [x0, x1, x2], .int (1 : Int32) :: st, a, h) := Rn_go c207_107 rfl
theorem c207_108 : mcode 207 108 = some (.goto 4, 3, 0, 0, 0) := rfl
theorem r207_108 : Rn 207 (108, [x0, x1, x2], st, a, h) = Rn 207 (112, [x0, x1, x2], st, a, h) := Rn_goto c207_108 rfl
theorem c207_111 : mcode 207 111 = some (.iconst 0, 1, 0, 0, 0) := rfl
theorem r207_111 : Rn 207 (111, [x0, x1, x2], st, a, h) = Rn 207 (112, [x0, x1, x2], .int (0 : Int32) :: st, a, h) := Rn_go c207_111 rfl
theorem c207_112 : mcode 207 112 = some (.ireturn, 1, 1, 0, 0) := rfl
theorem r207_112 : Rn 207 (112, [x0, x1, x2], [.int i], a, h) = if mrt 1 i = true then some (some (.int i), a, h) else none := Rn_iretz c207_112
theorem c208_0 : mcode 208 0 = some (.aload_n 0, 1, 0, 0, 0) := rfl
theorem r208_0 : Rn 208 (0, [some (.ref q), x1], st, a, h) = Rn 208 (1, [some (.ref q), x1], .ref q :: st, a, h) := Rn_go c208_0 rfl
theorem c208_1 : mcode 208 1 = some (.invokevirtual 258, 3, 197, 0, 6) := rfl
theorem r208_1 : Rn 208 (1, [x0, x1], [.ref q], a, h) = if mis h q 6 = true then Bk 208 4 [x0, x1] [] (Ec 197 [.ref q] a h) else none := Rn_call1 c208_1 rfl (Nat.le_of_ble_eq_true rfl) rfl rfl (Nat.le_of_ble_eq_true rfl)
theorem c208_4 : mcode 208 4 = some (.aload_n 0, 1, 0, 0, 0) := rfl
theorem r208_4 : Rn 208 (4, [some (.ref q), x1], st, a, h) = Rn 208 (5, [some (.ref q), x1], .ref q :: st, a, h) := Rn_go c208_4 rfl
theorem c208_5 : mcode 208 5 = some (.iconst 0, 1, 0, 0, 0) := rfl
theorem r208_5 : Rn 208 (5, [x0, x1], st, a, h) = Rn 208 (6, [x0, x1], .int (0 : Int32) :: st, a, h) := Rn_go c208_5 rfl
theorem c208_6 : mcode 208 6 = some (.bipush 7, 2, 0, 0, 0) := rfl
theorem r208_6 : Rn 208 (6, [x0, x1], st, a, h) = Rn 208 (8, [x0, x1], .int (7 : Int32) :: st, a, h) := Rn_go c208_6 rfl
theorem c208_8 : mcode 208 8 = some (.invokevirtual 261, 3, 203, 2, 6) := rfl
theorem r208_8 : Rn 208 (8, [x0, x1], [v1, v0, .ref q], a, h) = if mis h q 6 = true then Bk 208 11 [x0, x1] [] (Ec 203 [.ref q, v0, v1] a h) else none := Rn_call1 c208_8 rfl (Nat.le_of_ble_eq_true rfl) rfl rfl (Nat.le_of_ble_eq_true rfl)
theorem c208_11 : mcode 208 11 = some (.ifCond .ne 5, 3, 0, 0, 0) := rfl
theorem r208_11 : Rn 208 (11, [x0, x1], .int i :: st, a, h) = if i = 0 then Rn 208 (14, [x0, x1], st, a, h) else Rn 208 (16, [x0, x1], st, a, h) := Rn_ifcn c208_11 mc_ne rfl rfl
theorem c208_14 : mcode 208 14 = some (.iconst 0, 1, 0, 0, 0) := rfl
theorem r208_14 : Rn 208 (14, [x0, x1], st, a, h) = Rn 208 (15, [x0, x1], .int (0 : Int32) :: st, a, h) := Rn_go c208_14 rfl
theorem c208_15 : mcode 208 15 = some (.ireturn, 1, 1, 0, 0) := rfl
theorem r208_15 : Rn 208 (15, [x0, x1], [.int i], a, h) = if mrt 1 i = true then some (some (.int i), a, h) else none := Rn_iretz c208_15
theorem c208_16 : mcode 208 16 = some (.aload_n 0, 1, 0, 0, 0) := rfl
theorem r208_16 : Rn 208 (16, [some (.ref q), x1], st, a, h) = Rn 208 (17, [some (.ref q), x1], .ref q :: st, a, h) := Rn_go c208_16 rfl
theorem c208_17 : mcode 208 17 = some (.getfield 234, 3, 6, 16, 0) := rfl
theorem r208_17 : Rn 208 (17, [x0, x1], .ref q :: st, a, h) = Kv 208 20 [x0, x1] st a h (mgf h q 6 16) := Rn_getf c208_17 rfl
theorem c208_20 : mcode 208 20 = some (.istore_n 1, 1, 0, 0, 0) := rfl
theorem r208_20 : Rn 208 (20, [x0, x1], .int i :: st, a, h) = Nl x0 (Rn 208 (21, [x0, some (.int i)], st, a, h)) := Rn_st1 (k := 1) (v := .int i) x0 c208_20 rfl rfl rfl rfl
theorem c208_21 : mcode 208 21 = some (.aload_n 0, 1, 0, 0, 0) := rfl
theorem r208_21 : Rn 208 (21, [some (.ref q), x1], st, a, h) = Rn 208 (22, [some (.ref q), x1], .ref q :: st, a, h) := Rn_go c208_21 rfl
theorem c208_22 : mcode 208 22 = some (.invokevirtual 258, 3, 197, 0, 6) := rfl
theorem r208_22 : Rn 208 (22, [x0, x1], [.ref q], a, h) = if mis h q 6 = true then Bk 208 25 [x0, x1] [] (Ec 197 [.ref q] a h) else none := Rn_call1 c208_22 rfl (Nat.le_of_ble_eq_true rfl) rfl rfl (Nat.le_of_ble_eq_true rfl)
theorem c208_25 : mcode 208 25 = some (.aload_n 0, 1, 0, 0, 0) := rfl
theorem r208_25 : Rn 208 (25, [some (.ref q), x1], st, a, h) = Rn 208 (26, [some (.ref q), x1], .ref q :: st, a, h) := Rn_go c208_25 rfl
theorem c208_26 : mcode 208 26 = some (.iconst 0, 1, 0, 0, 0) := rfl
theorem r208_26 : Rn 208 (26, [x0, x1], st, a, h) = Rn 208 (27, [x0, x1], .int (0 : Int32) :: st, a, h) := Rn_go c208_26 rfl
theorem c208_27 : mcode 208 27 = some (.iconst 2, 1, 0, 0, 0) := rfl
theorem r208_27 : Rn 208 (27, [x0, x1], st, a, h) = Rn 208 (28, [x0, x1], .int (2 : Int32) :: st, a, h) := Rn_go c208_27 rfl
theorem c208_28 : mcode 208 28 = some (.invokevirtual 261, 3, 203, 2, 6) := rfl
theorem r208_28 : Rn 208 (28, [x0, x1], [v1, v0, .ref q], a, h) = if mis h q 6 = true then Bk 208 31 [x0, x1] [] (Ec 203 [.ref q, v0, v1] a h) else none := Rn_call1 c208_28 rfl (Nat.le_of_ble_eq_true rfl) rfl rfl (Nat.le_of_ble_eq_true rfl)
theorem c208_31 : mcode 208 31 = some (.ifCond .ne 5, 3, 0, 0, 0) := rfl
theorem r208_31 : Rn 208 (31, [x0, x1], .int i :: st, a, h) = if i = 0 then Rn 208 (34, [x0, x1], st, a, h) else Rn 208 (36, [x0, x1], st, a, h) := Rn_ifcn c208_31 mc_ne rfl rfl
theorem c208_34 : mcode 208 34 = some (.iconst 0, 1, 0, 0, 0) := rfl
theorem r208_34 : Rn 208 (34, [x0, x1], st, a, h) = Rn 208 (35, [x0, x1], .int (0 : Int32) :: st, a, h) := Rn_go c208_34 rfl
theorem c208_35 : mcode 208 35 = some (.ireturn, 1, 1, 0, 0) := rfl
theorem r208_35 : Rn 208 (35, [x0, x1], [.int i], a, h) = if mrt 1 i = true then some (some (.int i), a, h) else none := Rn_iretz c208_35
theorem c208_36 : mcode 208 36 = some (.aload_n 0, 1, 0, 0, 0) := rfl
theorem r208_36 : Rn 208 (36, [some (.ref q), x1], st, a, h) = Rn 208 (37, [some (.ref q), x1], .ref q :: st, a, h) := Rn_go c208_36 rfl
theorem c208_37 : mcode 208 37 = some (.iconst 1, 1, 0, 0, 0) := rfl
theorem r208_37 : Rn 208 (37, [x0, x1], st, a, h) = Rn 208 (38, [x0, x1], .int (1 : Int32) :: st, a, h) := Rn_go c208_37 rfl
theorem c208_38 : mcode 208 38 = some (.iconst 4, 1, 0, 0, 0) := rfl
theorem r208_38 : Rn 208 (38, [x0, x1], st, a, h) = Rn 208 (39, [x0, x1], .int (4 : Int32) :: st, a, h) := Rn_go c208_38 rfl
theorem c208_39 : mcode 208 39 = some (.iconst 3, 1, 0, 0, 0) := rfl
theorem r208_39 : Rn 208 (39, [x0, x1], st, a, h) = Rn 208 (40, [x0, x1], .int (3 : Int32) :: st, a, h) := Rn_go c208_39 rfl
theorem c208_40 : mcode 208 40 = some (.iload_n 1, 1, 0, 0, 0) := rfl
theorem r208_40 : Rn 208 (40, [x0, some (.int i)], st, a, h) = Rn 208 (41, [x0, some (.int i)], .int i :: st, a, h) := Rn_go c208_40 rfl
theorem c208_41 : mcode 208 41 = some (.imul, 1, 0, 0, 0) := rfl
theorem r208_41 : Rn 208 (41, [x0, x1], .int j :: .int i :: st, a, h) = Rn 208 (42, [x0, x1], .int (i * j) :: st, a, h) := Rn_go c208_41 rfl
theorem c208_42 : mcode 208 42 = some (.iadd, 1, 0, 0, 0) := rfl
theorem r208_42 : Rn 208 (42, [x0, x1], .int j :: .int i :: st, a, h) = Rn 208 (43, [x0, x1], .int (i + j) :: st, a, h) := Rn_go c208_42 rfl
theorem c208_43 : mcode 208 43 = some (.aload_n 0, 1, 0, 0, 0) := rfl
theorem r208_43 : Rn 208 (43, [some (.ref q), x1], st, a, h) = Rn 208 (44, [some (.ref q), x1], .ref q :: st, a, h) := Rn_go c208_43 rfl
theorem c208_44 : mcode 208 44 = some (.getfield 234, 3, 6, 16, 0) := rfl
theorem r208_44 : Rn 208 (44, [x0, x1], .ref q :: st, a, h) = Kv 208 47 [x0, x1] st a h (mgf h q 6 16) := Rn_getf c208_44 rfl
theorem c208_47 : mcode 208 47 = some (.iadd, 1, 0, 0, 0) := rfl
theorem r208_47 : Rn 208 (47, [x0, x1], .int j :: .int i :: st, a, h) = Rn 208 (48, [x0, x1], .int (i + j) :: st, a, h) := Rn_go c208_47 rfl
theorem c208_48 : mcode 208 48 = some (.sipush 999, 3, 0, 0, 0) := rfl
theorem r208_48 : Rn 208 (48, [x0, x1], st, a, h) = Rn 208 (51, [x0, x1], .int (999 : Int32) :: st, a, h) := Rn_go c208_48 rfl
theorem c208_51 : mcode 208 51 = some (.invokevirtual 267, 3, 206, 3, 6) := rfl
theorem r208_51 : Rn 208 (51, [x0, x1], [v2, v1, v0, .ref q], a, h) = if mis h q 6 = true then Bk 208 54 [x0, x1] [] (Ec 206 [.ref q, v0, v1, v2] a h) else none := Rn_call1 c208_51 rfl (Nat.le_of_ble_eq_true rfl) rfl rfl (Nat.le_of_ble_eq_true rfl)
theorem c208_54 : mcode 208 54 = some (.ireturn, 1, 1, 0, 0) := rfl
theorem r208_54 : Rn 208 (54, [x0, x1], [.int i], a, h) = if mrt 1 i = true then some (some (.int i), a, h) else none := Rn_iretz c208_54
theorem c209_0 : mcode 209 0 = some (.aload_n 0, 1, 0, 0, 0) := rfl
theorem r209_0 : Rn 209 (0, [some (.ref q), x1], st, a, h) = Rn 209 (1, [some (.ref q), x1], .ref q :: st, a, h) := Rn_go c209_0 rfl
theorem c209_1 : mcode 209 1 = some (.invokevirtual 258, 3, 197, 0, 6) := rfl
theorem r209_1 : Rn 209 (1, [x0, x1], [.ref q], a, h) = if mis h q 6 = true then Bk 209 4 [x0, x1] [] (Ec 197 [.ref q] a h) else none := Rn_call1 c209_1 rfl (Nat.le_of_ble_eq_true rfl) rfl rfl (Nat.le_of_ble_eq_true rfl)
theorem c209_4 : mcode 209 4 = some (.aload_n 0, 1, 0, 0, 0) := rfl
theorem r209_4 : Rn 209 (4, [some (.ref q), x1], st, a, h) = Rn 209 (5, [some (.ref q), x1], .ref q :: st, a, h) := Rn_go c209_4 rfl
theorem c209_5 : mcode 209 5 = some (.iconst 0, 1, 0, 0, 0) := rfl
theorem r209_5 : Rn 209 (5, [x0, x1], st, a, h) = Rn 209 (6, [x0, x1], .int (0 : Int32) :: st, a, h) := Rn_go c209_5 rfl
theorem c209_6 : mcode 209 6 = some (.bipush 7, 2, 0, 0, 0) := rfl
theorem r209_6 : Rn 209 (6, [x0, x1], st, a, h) = Rn 209 (8, [x0, x1], .int (7 : Int32) :: st, a, h) := Rn_go c209_6 rfl
theorem c209_8 : mcode 209 8 = some (.invokevirtual 261, 3, 203, 2, 6) := rfl
theorem r209_8 : Rn 209 (8, [x0, x1], [v1, v0, .ref q], a, h) = if mis h q 6 = true then Bk 209 11 [x0, x1] [] (Ec 203 [.ref q, v0, v1] a h) else none := Rn_call1 c209_8 rfl (Nat.le_of_ble_eq_true rfl) rfl rfl (Nat.le_of_ble_eq_true rfl)
theorem c209_11 : mcode 209 11 = some (.ifCond .ne 5, 3, 0, 0, 0) := rfl
theorem r209_11 : Rn 209 (11, [x0, x1], .int i :: st, a, h) = if i = 0 then Rn 209 (14, [x0, x1], st, a, h) else Rn 209 (16, [x0, x1], st, a, h) := Rn_ifcn c209_11 mc_ne rfl rfl
theorem c209_14 : mcode 209 14 = some (.iconst 0, 1, 0, 0, 0) := rfl
theorem r209_14 : Rn 209 (14, [x0, x1], st, a, h) = Rn 209 (15, [x0, x1], .int (0 : Int32) :: st, a, h) := Rn_go c209_14 rfl
theorem c209_15 : mcode 209 15 = some (.ireturn, 1, 1, 0, 0) := rfl
theorem r209_15 : Rn 209 (15, [x0, x1], [.int i], a, h) = if mrt 1 i = true then some (some (.int i), a, h) else none := Rn_iretz c209_15
theorem c209_16 : mcode 209 16 = some (.aload_n 0, 1, 0, 0, 0) := rfl
theorem r209_16 : Rn 209 (16, [some (.ref q), x1], st, a, h) = Rn 209 (17, [some (.ref q), x1], .ref q :: st, a, h) := Rn_go c209_16 rfl
theorem c209_17 : mcode 209 17 = some (.getfield 234, 3, 6, 16, 0) := rfl
theorem r209_17 : Rn 209 (17, [x0, x1], .ref q :: st, a, h) = Kv 209 20 [x0, x1] st a h (mgf h q 6 16) := Rn_getf c209_17 rfl
theorem c209_20 : mcode 209 20 = some (.istore_n 1, 1, 0, 0, 0) := rfl
theorem r209_20 : Rn 209 (20, [x0, x1], .int i :: st, a, h) = Nl x0 (Rn 209 (21, [x0, some (.int i)], st, a, h)) := Rn_st1 (k := 1) (v := .int i) x0 c209_20 rfl rfl rfl rfl
theorem c209_21 : mcode 209 21 = some (.aload_n 0, 1, 0, 0, 0) := rfl
theorem r209_21 : Rn 209 (21, [some (.ref q), x1], st, a, h) = Rn 209 (22, [some (.ref q), x1], .ref q :: st, a, h) := Rn_go c209_21 rfl
theorem c209_22 : mcode 209 22 = some (.invokevirtual 258, 3, 197, 0, 6) := rfl
theorem r209_22 : Rn 209 (22, [x0, x1], [.ref q], a, h) = if mis h q 6 = true then Bk 209 25 [x0, x1] [] (Ec 197 [.ref q] a h) else none := Rn_call1 c209_22 rfl (Nat.le_of_ble_eq_true rfl) rfl rfl (Nat.le_of_ble_eq_true rfl)
theorem c209_25 : mcode 209 25 = some (.aload_n 0, 1, 0, 0, 0) := rfl
theorem r209_25 : Rn 209 (25, [some (.ref q), x1], st, a, h) = Rn 209 (26, [some (.ref q), x1], .ref q :: st, a, h) := Rn_go c209_25 rfl
theorem c209_26 : mcode 209 26 = some (.iconst 0, 1, 0, 0, 0) := rfl
theorem r209_26 : Rn 209 (26, [x0, x1], st, a, h) = Rn 209 (27, [x0, x1], .int (0 : Int32) :: st, a, h) := Rn_go c209_26 rfl
theorem c209_27 : mcode 209 27 = some (.bipush 7, 2, 0, 0, 0) := rfl
theorem r209_27 : Rn 209 (27, [x0, x1], st, a, h) = Rn 209 (29, [x0, x1], .int (7 : Int32) :: st, a, h) := Rn_go c209_27 rfl
theorem c209_29 : mcode 209 29 = some (.invokevirtual 261, 3, 203, 2, 6) := rfl
theorem r209_29 : Rn 209 (29, [x0, x1], [v1, v0, .ref q], a, h) = if mis h q 6 = true then Bk 209 32 [x0, x1] [] (Ec 203 [.ref q, v0, v1] a h) else none := Rn_call1 c209_29 rfl (Nat.le_of_ble_eq_true rfl) rfl rfl (Nat.le_of_ble_eq_true rfl)
theorem c209_32 : mcode 209 32 = some (.ifCond .ne 5, 3, 0, 0, 0) := rfl
theorem r209_32 : Rn 209 (32, [x0, x1], .int i :: st, a, h) = if i = 0 then Rn 209 (35, [x0, x1], st, a, h) else Rn 209 (37, [x0, x1], st, a, h) := Rn_ifcn c209_32 mc_ne rfl rfl
theorem c209_35 : mcode 209 35 = some (.iconst 0, 1, 0, 0, 0) := rfl
theorem r209_35 : Rn 209 (35, [x0, x1], st, a, h) = Rn 209 (36, [x0, x1], .int (0 : Int32) :: st, a, h) := Rn_go c209_35 rfl
theorem c209_36 : mcode 209 36 = some (.ireturn, 1, 1, 0, 0) := rfl
theorem r209_36 : Rn 209 (36, [x0, x1], [.int i], a, h) = if mrt 1 i = true then some (some (.int i), a, h) else none := Rn_iretz c209_36
theorem c209_37 : mcode 209 37 = some (.aload_n 0, 1, 0, 0, 0) := rfl
theorem r209_37 : Rn 209 (37, [some (.ref q), x1], st, a, h) = Rn 209 (38, [some (.ref q), x1], .ref q :: st, a, h) := Rn_go c209_37 rfl
theorem c209_38 : mcode 209 38 = some (.getfield 234, 3, 6, 16, 0) := rfl
theorem r209_38 : Rn 209 (38, [x0, x1], .ref q :: st, a, h) = Kv 209 41 [x0, x1] st a h (mgf h q 6 16) := Rn_getf c209_38 rfl
theorem c209_41 : mcode 209 41 = some (.iload_n 1, 1, 0, 0, 0) := rfl
theorem r209_41 : Rn 209 (41, [x0, some (.int i)], st, a, h) = Rn 209 (42, [x0, some (.int i)], .int i :: st, a, h) := Rn_go c209_41 rfl
theorem c209_42 : mcode 209 42 = some (.if_icmp .eq 12, 3, 0, 0, 0) := rfl
theorem r209_42 : Rn 209 (42, [x0, x1], .int j :: .int i :: st, a, h) = if i = j then Rn 209 (54, [x0, x1], st, a, h) else Rn 209 (45, [x0, x1], st, a, h) := Rn_icmp c209_42 mc_eq rfl rfl
theorem c209_45 : mcode 209 45 = some (.aload_n 0, 1, 0, 0, 0) := rfl
theorem r209_45 : Rn 209 (45, [some (.ref q), x1], st, a, h) = Rn 209 (46, [some (.ref q), x1], .ref q :: st, a, h) := Rn_go c209_45 rfl
theorem c209_46 : mcode 209 46 = some (.iload_n 1, 1, 0, 0, 0) := rfl
theorem r209_46 : Rn 209 (46, [x0, some (.int i)], st, a, h) = Rn 209 (47, [x0, some (.int i)], .int i :: st, a, h) := Rn_go c209_46 rfl
theorem c209_47 : mcode 209 47 = some (.aload_n 0, 1, 0, 0, 0) := rfl
theorem r209_47 : Rn 209 (47, [some (.ref q), x1], st, a, h) = Rn 209 (48, [some (.ref q), x1], .ref q :: st, a, h) := Rn_go c209_47 rfl
theorem c209_48 : mcode 209 48 = some (.getfield 234, 3, 6, 16, 0) := rfl
theorem r209_48 : Rn 209 (48, [x0, x1], .ref q :: st, a, h) = Kv 209 51 [x0, x1] st a h (mgf h q 6 16) := Rn_getf c209_48 rfl
theorem c209_51 : mcode 209 51 = some (.invokevirtual 82, 3, 144, 2, 6) := rfl
theorem r209_51 : Rn 209 (51, [x0, x1], [v1, v0, .ref q], a, h) = if mis h q 6 = true then Bk 209 54 [x0, x1] [] (Ec 144 [.ref q, v0, v1] a h) else none := Rn_call1 c209_51 rfl (Nat.le_of_ble_eq_true rfl) rfl rfl (Nat.le_of_ble_eq_true rfl)
theorem c209_54 : mcode 209 54 = some (.aload_n 0, 1, 0, 0, 0) := rfl
theorem r209_54 : Rn 209 (54, [some (.ref q), x1], st, a, h) = Rn 209 (55, [some (.ref q), x1], .ref q :: st, a, h) := Rn_go c209_54 rfl
theorem c209_55 : mcode 209 55 = some (.invokevirtual 258, 3, 197, 0, 6) := rfl
theorem r209_55 : Rn 209 (55, [x0, x1], [.ref q], a, h) = if mis h q 6 = true then Bk 209 58 [x0, x1] [] (Ec 197 [.ref q] a h) else none := Rn_call1 c209_55 rfl (Nat.le_of_ble_eq_true rfl) rfl rfl (Nat.le_of_ble_eq_true rfl)
theorem c209_58 : mcode 209 58 = some (.iconst 1, 1, 0, 0, 0) := rfl
theorem r209_58 : Rn 209 (58, [x0, x1], st, a, h) = Rn 209 (59, [x0, x1], .int (1 : Int32) :: st, a, h) := Rn_go c209_58 rfl
theorem c209_59 : mcode 209 59 = some (.ireturn, 1, 1, 0, 0) := rfl
theorem r209_59 : Rn 209 (59, [x0, x1], [.int i], a, h) = if mrt 1 i = true then some (some (.int i), a, h) else none := Rn_iretz c209_59
theorem c210_0 : mcode 210 0 = some (.aload_n 0, 1, 0, 0, 0) := rfl
theorem r210_0 : Rn 210 (0, [some (.ref q), x1], st, a, h) = Rn 210 (1, [some (.ref q), x1], .ref q :: st, a, h) := Rn_go c210_0 rfl
theorem c210_1 : mcode 210 1 = some (.invokevirtual 271, 3, 204, 0, 6) := rfl
theorem r210_1 : Rn 210 (1, [x0, x1], [.ref q], a, h) = if mis h q 6 = true then Bk 210 4 [x0, x1] [] (Ec 204 [.ref q] a h) else none := Rn_call1 c210_1 rfl (Nat.le_of_ble_eq_true rfl) rfl rfl (Nat.le_of_ble_eq_true rfl)
theorem c210_4 : mcode 210 4 = some (.istore_n 1, 1, 0, 0, 0) := rfl
theorem r210_4 : Rn 210 (4, [x0, x1], .int i :: st, a, h) = Nl x0 (Rn 210 (5, [x0, some (.int i)], st, a, h)) := Rn_st1 (k := 1) (v := .int i) x0 c210_4 rfl rfl rfl rfl
theorem c210_5 : mcode 210 5 = some (.iload_n 1, 1, 0, 0, 0) := rfl
theorem r210_5 : Rn 210 (5, [x0, some (.int i)], st, a, h) = Rn 210 (6, [x0, some (.int i)], .int i :: st, a, h) := Rn_go c210_5 rfl
theorem c210_6 : mcode 210 6 = some (.ifCond .lt 9, 3, 0, 0, 0) := rfl
theorem r210_6 : Rn 210 (6, [x0, x1], .int i :: st, a, h) = if i < 0 then Rn 210 (15, [x0, x1], st, a, h) else Rn 210 (9, [x0, x1], st, a, h) := Rn_ifc c210_6 mc_lt rfl rfl
theorem c210_9 : mcode 210 9 = some (.aload_n 0, 1, 0, 0, 0) := rfl
theorem r210_9 : Rn 210 (9, [some (.ref q), x1], st, a, h) = Rn 210 (10, [some (.ref q), x1], .ref q :: st, a, h) := Rn_go c210_9 rfl
theorem c210_10 : mcode 210 10 = some (.iload_n 1, 1, 0, 0, 0) := rfl
theorem r210_10 : Rn 210 (10, [x0, some (.int i)], st, a, h) = Rn 210 (11, [x0, some (.int i)], .int i :: st, a, h) := Rn_go c210_10 rfl
theorem c210_11 : mcode 210 11 = some (.invokevirtual 274, 3, 207, 1, 6) := rfl
theorem r210_11 : Rn 210 (11, [x0, x1], [v0, .ref q], a, h) = if mis h q 6 = true then Bk 210 14 [x0, x1] [] (Ec 207 [.ref q, v0] a h) else none := Rn_call1 c210_11 rfl (Nat.le_of_ble_eq_true rfl) rfl rfl (Nat.le_of_ble_eq_true rfl)
theorem c210_14 : mcode 210 14 = some (.ireturn, 1, 1, 0, 0) := rfl
theorem r210_14 : Rn 210 (14, [x0, x1], [.int i], a, h) = if mrt 1 i = true then some (some (.int i), a, h) else none := Rn_iretz c210_14
theorem c210_15 : mcode 210 15 = some (.aload_n 0, 1, 0, 0, 0) := rfl
theorem r210_15 : Rn 210 (15, [some (.ref q), x1], st, a, h) = Rn 210 (16, [some (.ref q), x1], .ref q :: st, a, h) := Rn_go c210_15 rfl
theorem c210_16 : mcode 210 16 = some (.iconst 3, 1, 0, 0, 0) := rfl
theorem r210_16 : Rn 210 (16, [x0, x1], st, a, h) = Rn 210 (17, [x0, x1], .int (3 : Int32) :: st, a, h) := Rn_go c210_16 rfl
theorem c210_17 : mcode 210 17 = some (.invokevirtual 240, 3, 199, 1, 6) := rfl
theorem r210_17 : Rn 210 (17, [x0, x1], [v0, .ref q], a, h) = if mis h q 6 = true then Bk 210 20 [x0, x1] [] (Ec 199 [.ref q, v0] a h) else none := Rn_call1 c210_17 rfl (Nat.le_of_ble_eq_true rfl) rfl rfl (Nat.le_of_ble_eq_true rfl)
theorem c210_20 : mcode 210 20 = some (.ifCond .eq 22, 3, 0, 0, 0) := rfl
theorem r210_20 : Rn 210 (20, [x0, x1], .int i :: st, a, h) = if i = 0 then Rn 210 (42, [x0, x1], st, a, h) else Rn 210 (23, [x0, x1], st, a, h) := Rn_ifc c210_20 mc_eq rfl rfl
theorem c210_23 : mcode 210 23 = some (.aload_n 0, 1, 0, 0, 0) := rfl
theorem r210_23 : Rn 210 (23, [some (.ref q), x1], st, a, h) = Rn 210 (24, [some (.ref q), x1], .ref q :: st, a, h) := Rn_go c210_23 rfl
theorem c210_24 : mcode 210 24 = some (.iconst 0, 1, 0, 0, 0) := rfl
theorem r210_24 : Rn 210 (24, [x0, x1], st, a, h) = Rn 210 (25, [x0, x1], .int (0 : Int32) :: st, a, h) := Rn_go c210_24 rfl
theorem c210_25 : mcode 210 25 = some (.bipush 100, 2, 0, 0, 0) := rfl
theorem r210_25 : Rn 210 (25, [x0, x1], st, a, h) = Rn 210 (27, [x0, x1], .int (100 : Int32) :: st, a, h) := Rn_go c210_25 rfl
theorem c210_27 : mcode 210 27 = some (.bipush 121, 2, 0, 0, 0) := rfl
theorem r210_27 : Rn 210 (27, [x0, x1], st, a, h) = Rn 210 (29, [x0, x1], .int (121 : Int32) :: st, a, h) := Rn_go c210_27 rfl
theorem c210_29 : mcode 210 29 = some (.bipush 101, 2, 0, 0, 0) := rfl
theorem r210_29 : Rn 210 (29, [x0, x1], st, a, h) = Rn 210 (31, [x0, x1], .int (101 : Int32) :: st, a, h) := Rn_go c210_29 rfl
theorem c210_31 : mcode 210 31 = some (.invokevirtual 243, 3, 198, 4, 6) := rfl
theorem r210_31 : Rn 210 (31, [x0, x1], [v3, v2, v1, v0, .ref q], a, h) = if mis h q 6 = true then Bk 210 34 [x0, x1] [] (Ec 198 [.ref q, v0, v1, v2, v3] a h) else none := Rn_call1 c210_31 rfl (Nat.le_of_ble_eq_true rfl) rfl rfl (Nat.le_of_ble_eq_true rfl)
theorem c210_34 : mcode 210 34 = some (.ifCond .eq 8, 3, 0, 0, 0) := rfl
theorem r210_34 : Rn 210 (34, [x0, x1], .int i :: st, a, h) = if i = 0 then Rn 210 (42, [x0, x1], st, a, h) else Rn 210 (37, [x0, x1], st, a, h) := Rn_ifc c210_34 mc_eq rfl rfl
theorem c210_37 : mcode 210 37 = some (.aload_n 0, 1, 0, 0, 0) := rfl
theorem r210_37 : Rn 210 (37, [some (.ref q), x1], st, a, h) = Rn 210 (38, [some (.ref q), x1], .ref q :: st, a, h) := Rn_go c210_37 rfl
theorem c210_38 : mcode 210 38 = some (.invokevirtual 277, 3, 208, 0, 6) := rfl
theorem r210_38 : Rn 210 (38, [x0, x1], [.ref q], a, h) = if mis h q 6 = true then Bk 210 41 [x0, x1] [] (Ec 208 [.ref q] a h) else none := Rn_call1 c210_38 rfl (Nat.le_of_ble_eq_true rfl) rfl rfl (Nat.le_of_ble_eq_true rfl)
theorem c210_41 : mcode 210 41 = some (.ireturn, 1, 1, 0, 0) := rfl
theorem r210_41 : Rn 210 (41, [x0, x1], [.int i], a, h) = if mrt 1 i = true then some (some (.int i), a, h) else none := Rn_iretz c210_41
theorem c210_42 : mcode 210 42 = some (.aload_n 0, 1, 0, 0, 0) := rfl
theorem r210_42 : Rn 210 (42, [some (.ref q), x1], st, a, h) = Rn 210 (43, [some (.ref q), x1], .ref q :: st, a, h) := Rn_go c210_42 rfl
theorem c210_43 : mcode 210 43 = some (.iconst 3, 1, 0, 0, 0) := rfl
theorem r210_43 : Rn 210 (43, [x0, x1], st, a, h) = Rn 210 (44, [x0, x1], .int (3 : Int32) :: st, a, h) := Rn_go c210_43 rfl
theorem c210_44 : mcode 210 44 = some (.invokevirtual 240, 3, 199, 1, 6) := rfl
theorem r210_44 : Rn 210 (44, [x0, x1], [v0, .ref q], a, h) = if mis h q 6 = true then Bk 210 47 [x0, x1] [] (Ec 199 [.ref q, v0] a h) else none := Rn_call1 c210_44 rfl (Nat.le_of_ble_eq_true rfl) rfl rfl (Nat.le_of_ble_eq_true rfl)
theorem c210_47 : mcode 210 47 = some (.ifCond .eq 26, 3, 0, 0, 0) := rfl
theorem r210_47 : Rn 210 (47, [x0, x1], .int i :: st, a, h) = if i = 0 then Rn 210 (73, [x0, x1], st, a, h) else Rn 210 (50, [x0, x1], st, a, h) := Rn_ifc c210_47 mc_eq rfl rfl
theorem c210_50 : mcode 210 50 = some (.aload_n 0, 1, 0, 0, 0) := rfl
theorem r210_50 : Rn 210 (50, [some (.ref q), x1], st, a, h) = Rn 210 (51, [some (.ref q), x1], .ref q :: st, a, h) := Rn_go c210_50 rfl
theorem c210_51 : mcode 210 51 = some (.iconst 0, 1, 0, 0, 0) := rfl
theorem r210_51 : Rn 210 (51, [x0, x1], st, a, h) = Rn 210 (52, [x0, x1], .int (0 : Int32) :: st, a, h) := Rn_go c210_51 rfl
theorem c210_52 : mcode 210 52 = some (.bipush 108, 2, 0, 0, 0) := rfl
theorem r210_52 : Rn 210 (52, [x0, x1], st, a, h) = Rn 210 (54, [x0, x1], .int (108 : Int32) :: st, a, h) := Rn_go c210_52 rfl
theorem c210_54 : mcode 210 54 = some (.bipush 121, 2, 0, 0, 0) := rfl
theorem r210_54 : Rn 210 (54, [x0, x1], st, a, h) = Rn 210 (56, [x0, x1], .int (121 : Int32) :: st, a, h) := Rn_go c210_54 rfl
theorem c210_56 : mcode 210 56 = some (.bipush 101, 2, 0, 0, 0) := rfl
theorem r210_56 : Rn 210 (56, [x0, x1], st, a, h) = Rn 210 (58, [x0, x1], .int (101 : Int32) :: st, a, h) := Rn_go c210_56 rfl
theorem c210_58 : mcode 210 58 = some (.invokevirtual 243, 3, 198, 4, 6) := rfl
theorem r210_58 : Rn 210 (58, [x0, x1], [v3, v2, v1, v0, .ref q], a, h) = if mis h q 6 = true then Bk 210 61 [x0, x1] [] (Ec 198 [.ref q, v0, v1, v2, v3] a h) else none := Rn_call1 c210_58 rfl (Nat.le_of_ble_eq_true rfl) rfl rfl (Nat.le_of_ble_eq_true rfl)
theorem c210_61 : mcode 210 61 = some (.ifCond .eq 12, 3, 0, 0, 0) := rfl
theorem r210_61 : Rn 210 (61, [x0, x1], .int i :: st, a, h) = if i = 0 then Rn 210 (73, [x0, x1], st, a, h) else Rn 210 (64, [x0, x1], st, a, h) := Rn_ifc c210_61 mc_eq rfl rfl
theorem c210_64 : mcode 210 64 = some (.aload_n 0, 1, 0, 0, 0) := rfl
theorem r210_64 : Rn 210 (64, [some (.ref q), x1], st, a, h) = Rn 210 (65, [some (.ref q), x1], .ref q :: st, a, h) := Rn_go c210_64 rfl
theorem c210_65 : mcode 210 65 = some (.iconst 1, 1, 0, 0, 0) := rfl
theorem r210_65 : Rn 210 (65, [x0, x1], st, a, h) = Rn 210 (66, [x0, x1], .int (1 : Int32) :: st, a, h) := Rn_go c210_65 rfl
theorem c210_66 : mcode 210 66 = some (.iconst 3, 1, 0, 0, 0) := rfl
theorem r210_66 : Rn 210 (66, [x0, x1], st, a, h) = Rn 210 (67, [x0, x1], .int (3 : Int32) :: st, a, h) := Rn_go c210_66 rfl
theorem c210_67 : mcode 210 67 = some (.bipush 9, 2, 0, 0, 0) := rfl
theorem r210_67 : Rn 210 (67, [x0, x1], st, a, h) = Rn 210 (69, [x0, x1], .int (9 : Int32) :: st, a, h) := Rn_go c210_67 rfl
theorem c210_69 : mcode 210 69 = some (.invokevirtual 267, 3, 206, 3, 6) := rfl
theorem r210_69 : Rn 210 (69, [x0, x1], [v2, v1, v0, .ref q], a, h) = if mis h q 6 = true then Bk 210 72 [x0, x1] [] (Ec 206 [.ref q, v0, v1, v2] a h) else none := Rn_call1 c210_69 rfl (Nat.le_of_ble_eq_true rfl) rfl rfl (Nat.le_of_ble_eq_true rfl)
theorem c210_72 : mcode 210 72 = some (.ireturn, 1, 1, 0, 0) := rfl
theorem r210_72 : Rn 210 (72, [x0, x1], [.int i], a, h) = if mrt 1 i = true then some (some (.int i), a, h) else none := Rn_iretz c210_72
theorem c210_73 : mcode 210 73 = some (.aload_n 0, 1, 0, 0, 0) := rfl
theorem r210_73 : Rn 210 (73, [some (.ref q), x1], st, a, h) = Rn 210 (74, [some (.ref q), x1], .ref q :: st, a, h) := Rn_go c210_73 rfl
theorem c210_74 : mcode 210 74 = some (.bipush 115, 2, 0, 0, 0) := rfl
theorem r210_74 : Rn 210 (74, [x0, x1], st, a, h) = Rn 210 (76, [x0, x1], .int (115 : Int32) :: st, a, h) := Rn_go c210_74 rfl
theorem c210_76 : mcode 210 76 = some (.bipush 116, 2, 0, 0, 0) := rfl
theorem r210_76 : Rn 210 (76, [x0, x1], st, a, h) = Rn 210 (78, [x0, x1], .int (116 : Int32) :: st, a, h) := Rn_go c210_76 rfl
theorem c210_78 : mcode 210 78 = some (.bipush 105, 2, 0, 0, 0) := rfl
theorem r210_78 : Rn 210 (78, [x0, x1], st, a, h) = Rn 210 (80, [x0, x1], .int (105 : Int32) :: st, a, h) := Rn_go c210_78 rfl
theorem c210_80 : mcode 210 80 = some (.bipush 114, 2, 0, 0, 0) := rfl
theorem r210_80 : Rn 210 (80, [x0, x1], st, a, h) = Rn 210 (82, [x0, x1], .int (114 : Int32) :: st, a, h) := Rn_go c210_80 rfl
theorem c210_82 : mcode 210 82 = some (.invokevirtual 255, 3, 201, 4, 6) := rfl
theorem r210_82 : Rn 210 (82, [x0, x1], [v3, v2, v1, v0, .ref q], a, h) = if mis h q 6 = true then Bk 210 85 [x0, x1] [] (Ec 201 [.ref q, v0, v1, v2, v3] a h) else none := Rn_call1 c210_82 rfl (Nat.le_of_ble_eq_true rfl) rfl rfl (Nat.le_of_ble_eq_true rfl)
theorem c210_85 : mcode 210 85 = some (.ifCond .eq 10, 3, 0, 0, 0) := rfl
theorem r210_85 : Rn 210 (85, [x0, x1], .int i :: st, a, h) = if i = 0 then Rn 210 (95, [x0, x1], st, a, h) else Rn 210 (88, [x0, x1], st, a, h) := Rn_ifc c210_85 mc_eq rfl rfl
theorem c210_88 : mcode 210 88 = some (.aload_n 0, 1, 0, 0, 0) := rfl
theorem r210_88 : Rn 210 (88, [some (.ref q), x1], st, a, h) = Rn 210 (89, [some (.ref q), x1], .ref q :: st, a, h) := Rn_go c210_88 rfl
theorem c210_89 : mcode 210 89 = some (.invokevirtual 280, 3, 209, 0, 6) := rfl
theorem r210_89 : Rn 210 (89, [x0, x1], [.ref q], a, h) = if mis h q 6 = true then Bk 210 92 [x0, x1] [] (Ec 209 [.ref q] a h) else none := Rn_call1 c210_89 rfl (Nat.le_of_ble_eq_true rfl) rfl rfl (Nat.le_of_ble_eq_true rfl)
theorem c210_92 : mcode 210 92 = some (.goto 7, 3, 0, 0, 0) := rfl
theorem r210_92 : Rn 210 (92, [x0, x1], st, a, h) = Rn 210 (99, [x0, x1], st, a, h) := Rn_goto c210_92 rfl
theorem c210_95 : mcode 210 95 = some (.aload_n 0, 1, 0, 0, 0) := rfl
theorem r210_95 : Rn 210 (95, [some (.ref q), x1], st, a, h) = Rn 210 (96, [some (.ref q), x1], .ref q :: st, a, h) := Rn_go c210_95 rfl
theorem c210_96 : mcode 210 96 = some (.invokevirtual 247, 3, 200, 0, 6) := rfl
theorem r210_96 : Rn 210 (96, [x0, x1], [.ref q], a, h) = if mis h q 6 = true then Bk 210 99 [x0, x1] [] (Ec 200 [.ref q] a h) else none := Rn_call1 c210_96 rfl (Nat.le_of_ble_eq_true rfl) rfl rfl (Nat.le_of_ble_eq_true rfl)
theorem c210_99 : mcode 210 99 = some (.ireturn, 1, 1, 0, 0) := rfl
theorem r210_99 : Rn 210 (99, [x0, x1], [.int i], a, h) = if mrt 1 i = true then some (some (.int i), a, h) else none := Rn_iretz c210_99
theorem c211_0 : mcode 211 0 = some (.aload_n 0, 1, 0, 0, 0) := rfl
theorem r211_0 : Rn 211 (0, [some (.ref q), x1, x2], st, a, h) = Rn 211 (1, [some (.ref q), x1, x2], .ref q :: st, a, h) := Rn_go c211_0 rfl
theorem c211_1 : mcode 211 1 = some (.getfield 7, 3, 6, 0, 0) := rfl
theorem r211_1 : Rn 211 (1, [x0, x1, x2], .ref q :: st, a, h) = Kv 211 4 [x0, x1, x2] st a h (mgf h q 6 0) := Rn_getf c211_1 rfl
theorem c211_4 : mcode 211 4 = some (.aload_n 0, 1, 0, 0, 0) := rfl
theorem r211_4 : Rn 211 (4, [some (.ref q), x1, x2], st, a, h) = Rn 211 (5, [some (.ref q), x1, x2], .ref q :: st, a, h) := Rn_go c211_4 rfl
theorem c211_5 : mcode 211 5 = some (.getfield 16, 3, 6, 2, 0) := rfl
theorem r211_5 : Rn 211 (5, [x0, x1, x2], .ref q :: st, a, h) = Kv 211 8 [x0, x1, x2] st a h (mgf h q 6 2) := Rn_getf c211_5 rfl
theorem c211_8 : mcode 211 8 = some (.invokestatic 157, 3, 127, 2, 0) := rfl
theorem r211_8 : Rn 211 (8, [x0, x1, x2], [v1, v0], a, h) = Bk 211 11 [x0, x1, x2] [] (Ec 127 [v0, v1] a h) := Rn_call0 c211_8 (fun z => nomatch z) rfl (Nat.le_of_ble_eq_true rfl) rfl rfl (Nat.le_of_ble_eq_true rfl)
theorem c211_11 : mcode 211 11 = some (.aload_n 0, 1, 0, 0, 0) := rfl
theorem r211_11 : Rn 211 (11, [some (.ref q), x1, x2], st, a, h) = Rn 211 (12, [some (.ref q), x1, x2], .ref q :: st, a, h) := Rn_go c211_11 rfl
theorem c211_12 : mcode 211 12 = some (.iconst 0, 1, 0, 0, 0) := rfl
theorem r211_12 : Rn 211 (12, [x0, x1, x2], st, a, h) = Rn 211 (13, [x0, x1, x2], .int (0 : Int32) :: st, a, h) := Rn_go c211_12 rfl
theorem c211_13 : mcode 211 13 = some (.putfield 216, 3, 6, 15, 0) := rfl
theorem r211_13 : Rn 211 (13, [x0, x1, x2], .int i :: .ref q :: st, a, h) = Kh 211 16 [x0, x1, x2] st a (mpf h q 6 15 (.int i)) := Rn_putfi c211_13 rfl rfl
theorem c211_16 : mcode 211 16 = some (.aload_n 0, 1, 0, 0, 0) := rfl
theorem r211_16 : Rn 211 (16, [some (.ref q), x1, x2], st, a, h) = Rn 211 (17, [some (.ref q), x1, x2], .ref q :: st, a, h) := Rn_go c211_16 rfl
theorem c211_17 : mcode 211 17 = some (.invokevirtual 258, 3, 197, 0, 6) := rfl
theorem r211_17 : Rn 211 (17, [x0, x1, x2], [.ref q], a, h) = if mis h q 6 = true then Bk 211 20 [x0, x1, x2] [] (Ec 197 [.ref q] a h) else none := Rn_call1 c211_17 rfl (Nat.le_of_ble_eq_true rfl) rfl rfl (Nat.le_of_ble_eq_true rfl)
theorem c211_20 : mcode 211 20 = some (.iconst 1, 1, 0, 0, 0) := rfl
theorem r211_20 : Rn 211 (20, [x0, x1, x2], st, a, h) = Rn 211 (21, [x0, x1, x2], .int (1 : Int32) :: st, a, h) := Rn_go c211_20 rfl
theorem c211_21 : mcode 211 21 = some (.istore_n 1, 1, 0, 0, 0) := rfl
theorem r211_21 : Rn 211 (21, [x0, x1, x2], .int i :: st, a, h) = Nl x0 (Rn 211 (22, [x0, some (.int i), x2], st, a, h)) := Rn_st1 (k := 1) (v := .int i) x0 c211_21 rfl rfl rfl rfl
theorem c211_22 : mcode 211 22 = some (.aload_n 0, 1, 0, 0, 0) := rfl
theorem r211_22 : Rn 211 (22, [some (.ref q), x1, x2], st, a, h) = Rn 211 (23, [some (.ref q), x1, x2], .ref q :: st, a, h) := Rn_go c211_22 rfl
theorem c211_23 : mcode 211 23 = some (.invokevirtual 283, 3, 210, 0, 6) := rfl
theorem r211_23 : Rn 211 (23, [x0, x1, x2], [.ref q], a, h) = if mis h q 6 = true then Bk 211 26 [x0, x1, x2] [] (Ec 210 [.ref q] a h) else none := Rn_call1 c211_23 rfl (Nat.le_of_ble_eq_true rfl) rfl rfl (Nat.le_of_ble_eq_true rfl)
theorem c211_26 : mcode 211 26 = some (.istore_n 2, 1, 0, 0, 0) := rfl
theorem r211_26 : Rn 211 (26, [x0, x1, x2], .int i :: st, a, h) = Nl x1 (Rn 211 (27, [x0, x1, some (.int i)], st, a, h)) := Rn_st1 (k := 2) (v := .int i) x1 c211_26 rfl rfl rfl rfl
theorem c211_27 : mcode 211 27 = some (.iload_n 2, 1, 0, 0, 0) := rfl
theorem r211_27 : Rn 211 (27, [x0, x1, some (.int i)], st, a, h) = Rn 211 (28, [x0, x1, some (.int i)], .int i :: st, a, h) := Rn_go c211_27 rfl
theorem c211_28 : mcode 211 28 = some (.ifCond .eq 26, 3, 0, 0, 0) := rfl
theorem r211_28 : Rn 211 (28, [x0, x1, x2], .int i :: st, a, h) = if i = 0 then Rn 211 (54, [x0, x1, x2], st, a, h) else Rn 211 (31, [x0, x1, x2], st, a, h) := Rn_ifc c211_28 mc_eq rfl rfl
theorem c211_31 : mcode 211 31 = some (.aload_n 0, 1, 0, 0, 0) := rfl
theorem r211_31 : Rn 211 (31, [some (.ref q), x1, x2], st, a, h) = Rn 211 (32, [some (.ref q), x1, x2], .ref q :: st, a, h) := Rn_go c211_31 rfl
theorem c211_32 : mcode 211 32 = some (.getfield 231, 3, 6, 13, 0) := rfl
theorem r211_32 : Rn 211 (32, [x0, x1, x2], .ref q :: st, a, h) = Kv 211 35 [x0, x1, x2] st a h (mgf h q 6 13) := Rn_getf c211_32 rfl
theorem c211_35 : mcode 211 35 = some (.iconst 3, 1, 0, 0, 0) := rfl
theorem r211_35 : Rn 211 (35, [x0, x1, x2], st, a, h) = Rn 211 (36, [x0, x1, x2], .int (3 : Int32) :: st, a, h) := Rn_go c211_35 rfl
theorem c211_36 : mcode 211 36 = some (.if_icmp .ne 18, 3, 0, 0, 0) := rfl
theorem r211_36 : Rn 211 (36, [x0, x1, x2], .int j :: .int i :: st, a, h) = if i = j then Rn 211 (39, [x0, x1, x2], st, a, h) else Rn 211 (54, [x0, x1, x2], st, a, h) := Rn_icmpn c211_36 mc_ne rfl rfl
theorem c211_39 : mcode 211 39 = some (.aload_n 0, 1, 0, 0, 0) := rfl
theorem r211_39 : Rn 211 (39, [some (.ref q), x1, x2], st, a, h) = Rn 211 (40, [some (.ref q), x1, x2], .ref q :: st, a, h) := Rn_go c211_39 rfl
theorem c211_40 : mcode 211 40 = some (.invokevirtual 258, 3, 197, 0, 6) := rfl
theorem r211_40 : Rn 211 (40, [x0, x1, x2], [.ref q], a, h) = if mis h q 6 = true then Bk 211 43 [x0, x1, x2] [] (Ec 197 [.ref q] a h) else none := Rn_call1 c211_40 rfl (Nat.le_of_ble_eq_true rfl) rfl rfl (Nat.le_of_ble_eq_true rfl)
theorem c211_43 : mcode 211 43 = some (.aload_n 0, 1, 0, 0, 0) := rfl
theorem r211_43 : Rn 211 (43, [some (.ref q), x1, x2], st, a, h) = Rn 211 (44, [some (.ref q), x1, x2], .ref q :: st, a, h) := Rn_go c211_43 rfl
theorem c211_44 : mcode 211 44 = some (.invokevirtual 283, 3, 210, 0, 6) := rfl
theorem r211_44 : Rn 211 (44, [x0, x1, x2], [.ref q], a, h) = if mis h q 6 = true then Bk 211 47 [x0, x1, x2] [] (Ec 210 [.ref q] a h) else none := Rn_call1 c211_44 rfl (Nat.le_of_ble_eq_true rfl) rfl rfl (Nat.le_of_ble_eq_true rfl)
theorem c211_47 : mcode 211 47 = some (.istore_n 2, 1, 0, 0, 0) := rfl
theorem r211_47 : Rn 211 (47, [x0, x1, x2], .int i :: st, a, h) = Nl x1 (Rn 211 (48, [x0, x1, some (.int i)], st, a, h)) := Rn_st1 (k := 2) (v := .int i) x1 c211_47 rfl rfl rfl rfl
theorem c211_48 : mcode 211 48 = some (.iinc 1 1, 3, 0, 0, 0) := rfl
theorem r211_48 : Rn 211 (48, [x0, some (.int i), x2], st, a, h) = Nl x0 (Rn 211 (51, [x0, some (.int (i + (1 : Int32))), x2], st, a, h)) := Rn_st1 (k := 1) (v := .int (i + (1 : Int32))) x0 c211_48 rfl rfl rfl rfl
theorem c211_51 : mcode 211 51 = some (.goto (-24), 3, 0, 0, 0) := rfl
theorem r211_51 : Rn 211 (51, [x0, x1, x2], st, a, h) = Rn 211 (27, [x0, x1, x2], st, a, h) := Rn_goto c211_51 rfl
theorem c211_54 : mcode 211 54 = some (.iload_n 2, 1, 0, 0, 0) := rfl
theorem r211_54 : Rn 211 (54, [x0, x1, some (.int i)], st, a, h) = Rn 211 (55, [x0, x1, some (.int i)], .int i :: st, a, h) := Rn_go c211_54 rfl
theorem c211_55 : mcode 211 55 = some (.ifCond .eq 21, 3, 0, 0, 0) := rfl
theorem r211_55 : Rn 211 (55, [x0, x1, x2], .int i :: st, a, h) = if i = 0 then Rn 211 (76, [x0, x1, x2], st, a, h) else Rn 211 (58, [x0, x1, x2], st, a, h) := Rn_ifc c211_55 mc_eq rfl rfl
theorem c211_58 : mcode 211 58 = some (.aload_n 0, 1, 0, 0, 0) := rfl
theorem r211_58 : Rn 211 (58, [some (.ref q), x1, x2], st, a, h) = Rn 211 (59, [some (.ref q), x1, x2], .ref q :: st, a, h) := Rn_go c211_58 rfl
theorem c211_59 : mcode 211 59 = some (.getfield 231, 3, 6, 13, 0) := rfl
theorem r211_59 : Rn 211 (59, [x0, x1, x2], .ref q :: st, a, h) = Kv 211 62 [x0, x1, x2] st a h (mgf h q 6 13) := Rn_getf c211_59 rfl
theorem c211_62 : mcode 211 62 = some (.ifCond .eq 10, 3, 0, 0, 0) := rfl
theorem r211_62 : Rn 211 (62, [x0, x1, x2], .int i :: st, a, h) = if i = 0 then Rn 211 (72, [x0, x1, x2], st, a, h) else Rn 211 (65, [x0, x1, x2], st, a, h) := Rn_ifc c211_62 mc_eq rfl rfl
theorem c211_65 : mcode 211 65 = some (.aload_n 0, 1, 0, 0, 0) := rfl
theorem r211_65 : Rn 211 (65, [some (.ref q), x1, x2], st, a, h) = Rn 211 (66, [some (.ref q), x1, x2], .ref q :: st, a, h) := Rn_go c211_65 rfl
theorem c211_66 : mcode 211 66 = some (.invokevirtual 247, 3, 200, 0, 6) := rfl
theorem r211_66 : Rn 211 (66, [x0, x1, x2], [.ref q], a, h) = if mis h q 6 = true then Bk 211 69 [x0, x1, x2] [] (Ec 200 [.ref q] a h) else none := Rn_call1 c211_66 rfl (Nat.le_of_ble_eq_true rfl) rfl rfl (Nat.le_of_ble_eq_true rfl)
theorem c211_69 : mcode 211 69 = some (.ifCond .eq 7, 3, 0, 0, 0) := rfl
theorem r211_69 : Rn 211 (69, [x0, x1, x2], .int i :: st, a, h) = if i = 0 then Rn 211 (76, [x0, x1, x2], st, a, h) else Rn 211 (72, [x0, x1, x2], st, a, h) := Rn_ifc c211_69 mc_eq rfl rfl
theorem c211_72 : mcode 211 72 = some (.iconst 1, 1, 0, 0, 0) := rfl
theorem r211_72 : Rn 211 (72, [x0, x1, x2], st, a, h) = Rn 211 (73, [x0, x1, x2], .int (1 : Int32) :: st, a, h) := Rn_go c211_72 rfl
theorem c211_73 : mcode 211 73 = some (.goto 4, 3, 0, 0, 0) := rfl
theorem r211_73 : Rn 211 (73, [x0, x1, x2], st, a, h) = Rn 211 (77, [x0, x1, x2], st, a, h) := Rn_goto c211_73 rfl
theorem c211_76 : mcode 211 76 = some (.iconst 0, 1, 0, 0, 0) := rfl
theorem r211_76 : Rn 211 (76, [x0, x1, x2], st, a, h) = Rn 211 (77, [x0, x1, x2], .int (0 : Int32) :: st, a, h) := Rn_go c211_76 rfl
theorem c211_77 : mcode 211 77 = some (.istore_n 2, 1, 0, 0, 0) := rfl
theorem r211_77 : Rn 211 (77, [x0, x1, x2], .int i :: st, a, h) = Nl x1 (Rn 211 (78, [x0, x1, some (.int i)], st, a, h)) := Rn_st1 (k := 2) (v := .int i) x1 c211_77 rfl rfl rfl rfl
theorem c211_78 : mcode 211 78 = some (.aload_n 0, 1, 0, 0, 0) := rfl
theorem r211_78 : Rn 211 (78, [some (.ref q), x1, x2], st, a, h) = Rn 211 (79, [some (.ref q), x1, x2], .ref q :: st, a, h) := Rn_go c211_78 rfl
theorem c211_79 : mcode 211 79 = some (.iconst 0, 1, 0, 0, 0) := rfl
theorem r211_79 : Rn 211 (79, [x0, x1, x2], st, a, h) = Rn 211 (80, [x0, x1, x2], .int (0 : Int32) :: st, a, h) := Rn_go c211_79 rfl
theorem c211_80 : mcode 211 80 = some (.putfield 213, 3, 6, 7, 0) := rfl
theorem r211_80 : Rn 211 (80, [x0, x1, x2], .int i :: .ref q :: st, a, h) = Kh 211 83 [x0, x1, x2] st a (mpf h q 6 7 (.int i)) := Rn_putfi c211_80 rfl rfl
theorem c211_83 : mcode 211 83 = some (.iload_n 2, 1, 0, 0, 0) := rfl
theorem r211_83 : Rn 211 (83, [x0, x1, some (.int i)], st, a, h) = Rn 211 (84, [x0, x1, some (.int i)], .int i :: st, a, h) := Rn_go c211_83 rfl
theorem c211_84 : mcode 211 84 = some (.ifCond .ne 14, 3, 0, 0, 0) := rfl
theorem r211_84 : Rn 211 (84, [x0, x1, x2], .int i :: st, a, h) = if i = 0 then Rn 211 (87, [x0, x1, x2], st, a, h) else Rn 211 (98, [x0, x1, x2], st, a, h) := Rn_ifcn c211_84 mc_ne rfl rfl
theorem c211_87 : mcode 211 87 = some (.aload_n 0, 1, 0, 0, 0) := rfl
theorem r211_87 : Rn 211 (87, [some (.ref q), x1, x2], st, a, h) = Rn 211 (88, [some (.ref q), x1, x2], .ref q :: st, a, h) := Rn_go c211_87 rfl
theorem c211_88 : mcode 211 88 = some (.getfield 16, 3, 6, 2, 0) := rfl
theorem r211_88 : Rn 211 (88, [x0, x1, x2], .ref q :: st, a, h) = Kv 211 91 [x0, x1, x2] st a h (mgf h q 6 2) := Rn_getf c211_88 rfl
theorem c211_91 : mcode 211 91 = some (.aload_n 0, 1, 0, 0, 0) := rfl
theorem r211_91 : Rn 211 (91, [some (.ref q), x1, x2], st, a, h) = Rn 211 (92, [some (.ref q), x1, x2], .ref q :: st, a, h) := Rn_go c211_91 rfl
theorem c211_92 : mcode 211 92 = some (.getfield 7, 3, 6, 0, 0) := rfl
theorem r211_92 : Rn 211 (92, [x0, x1, x2], .ref q :: st, a, h) = Kv 211 95 [x0, x1, x2] st a h (mgf h q 6 0) := Rn_getf c211_92 rfl
theorem c211_95 : mcode 211 95 = some (.invokestatic 157, 3, 127, 2, 0) := rfl
theorem r211_95 : Rn 211 (95, [x0, x1, x2], [v1, v0], a, h) = Bk 211 98 [x0, x1, x2] [] (Ec 127 [v0, v1] a h) := Rn_call0 c211_95 (fun z => nomatch z) rfl (Nat.le_of_ble_eq_true rfl) rfl rfl (Nat.le_of_ble_eq_true rfl)
theorem c211_98 : mcode 211 98 = some (.iload_n 2, 1, 0, 0, 0) := rfl
theorem r211_98 : Rn 211 (98, [x0, x1, some (.int i)], st, a, h) = Rn 211 (99, [x0, x1, some (.int i)], .int i :: st, a, h) := Rn_go c211_98 rfl
theorem c211_99 : mcode 211 99 = some (.ifCond .eq 7, 3, 0, 0, 0) := rfl
theorem r211_99 : Rn 211 (99, [x0, x1, x2], .int i :: st, a, h) = if i = 0 then Rn 211 (106, [x0, x1, x2], st, a, h) else Rn 211 (102, [x0, x1, x2], st, a, h) := Rn_ifc c211_99 mc_eq rfl rfl
theorem c211_102 : mcode 211 102 = some (.iload_n 1, 1, 0, 0, 0) := rfl
theorem r211_102 : Rn 211 (102, [x0, some (.int i), x2], st, a, h) = Rn 211 (103, [x0, some (.int i), x2], .int i :: st, a, h) := Rn_go c211_102 rfl
theorem c211_103 : mcode 211 103 = some (.goto 9, 3, 0, 0, 0) := rfl
theorem r211_103 : Rn 211 (103, [x0, x1, x2], st, a, h) = Rn 211 (112, [x0, x1, x2], st, a, h) := Rn_goto c211_103 rfl
theorem c211_106 : mcode 211 106 = some (.iconst (-1), 1, 0, 0, 0) := rfl
theorem r211_106 : Rn 211 (106, [x0, x1, x2], st, a, h) = Rn 211 (107, [x0, x1, x2], .int (-1 : Int32) :: st, a, h) := Rn_go c211_106 rfl
theorem c211_107 : mcode 211 107 = some (.aload_n 0, 1, 0, 0, 0) := rfl
theorem r211_107 : Rn 211 (107, [some (.ref q), x1, x2], st, a, h) = Rn 211 (108, [some (.ref q), x1, x2], .ref q :: st, a, h) := Rn_go c211_107 rfl
theorem c211_108 : mcode 211 108 = some (.getfield 237, 3, 6, 17, 0) := rfl
theorem r211_108 : Rn 211 (108, [x0, x1, x2], .ref q :: st, a, h) = Kv 211 111 [x0, x1, x2] st a h (mgf h q 6 17) := Rn_getf c211_108 rfl
theorem c211_111 : mcode 211 111 = some (.isub, 1, 0, 0, 0) := rfl
theorem r211_111 : Rn 211 (111, [x0, x1, x2], .int j :: .int i :: st, a, h) = Rn 211 (112, [x0, x1, x2], .int (i - j) :: st, a, h) := Rn_go c211_111 rfl
theorem c211_112 : mcode 211 112 = some (.ireturn, 1, 0, 0, 0) := rfl
theorem r211_112 : Rn 211 (112, [x0, x1, x2], [.int i], a, h) = some (some (.int i), a, h) := Rn_ireti c211_112
theorem c212_0 : mcode 212 0 = some (.iload_n 1, 1, 0, 0, 0) := rfl
theorem r212_0 : Rn 212 (0, [x0, some (.int i), x2], st, a, h) = Rn 212 (1, [x0, some (.int i), x2], .int i :: st, a, h) := Rn_go c212_0 rfl
theorem c212_1 : mcode 212 1 = some (.i2l, 1, 0, 0, 0) := rfl
theorem r212_1 : Rn 212 (1, [x0, x1, x2], .int i :: st, a, h) = Rn 212 (2, [x0, x1, x2], .long i.toInt64 :: st, a, h) := Rn_go c212_1 rfl
theorem c212_2 : mcode 212 2 = some (.lconst 0, 1, 0, 0, 0) := rfl
theorem r212_2 : Rn 212 (2, [x0, x1, x2], st, a, h) = Rn 212 (3, [x0, x1, x2], .long (0 : Int64) :: st, a, h) := Rn_go c212_2 rfl
theorem c212_3 : mcode 212 3 = some (.ldc2_w 77, 3, 0, 0, 9) := rfl
theorem r212_3 : Rn 212 (3, [x0, x1, x2], st, a, h) = Rn 212 (6, [x0, x1, x2], .long (9 : Int64) :: st, a, h) := Rn_go c212_3 rfl
theorem c212_6 : mcode 212 6 = some (.invokestatic 52, 3, 124, 3, 0) := rfl
theorem r212_6 : Rn 212 (6, [x0, x1, x2], [v2, v1, v0], a, h) = Bk 212 9 [x0, x1, x2] [] (Ec 124 [v0, v1, v2] a h) := Rn_call0 c212_6 (fun z => nomatch z) rfl (Nat.le_of_ble_eq_true rfl) rfl rfl (Nat.le_of_ble_eq_true rfl)
theorem c212_9 : mcode 212 9 = some (.ifCond .eq 16, 3, 0, 0, 0) := rfl
theorem r212_9 : Rn 212 (9, [x0, x1, x2], .int i :: st, a, h) = if i = 0 then Rn 212 (25, [x0, x1, x2], st, a, h) else Rn 212 (12, [x0, x1, x2], st, a, h) := Rn_ifc c212_9 mc_eq rfl rfl
theorem c212_12 : mcode 212 12 = some (.iload_n 2, 1, 0, 0, 0) := rfl
theorem r212_12 : Rn 212 (12, [x0, x1, some (.int i)], st, a, h) = Rn 212 (13, [x0, x1, some (.int i)], .int i :: st, a, h) := Rn_go c212_12 rfl
theorem c212_13 : mcode 212 13 = some (.iconst (-1), 1, 0, 0, 0) := rfl
theorem r212_13 : Rn 212 (13, [x0, x1, x2], st, a, h) = Rn 212 (14, [x0, x1, x2], .int (-1 : Int32) :: st, a, h) := Rn_go c212_13 rfl
theorem c212_14 : mcode 212 14 = some (.if_icmp .eq 18, 3, 0, 0, 0) := rfl
theorem r212_14 : Rn 212 (14, [x0, x1, x2], .int j :: .int i :: st, a, h) = if i = j then Rn 212 (32, [x0, x1, x2], st, a, h) else Rn 212 (17, [x0, x1, x2], st, a, h) := Rn_icmp c212_14 mc_eq rfl rfl
theorem c212_17 : mcode 212 17 = some (.aload_n 0, 1, 0, 0, 0) := rfl
theorem r212_17 : Rn 212 (17, [some (.ref q), x1, x2], st, a, h) = Rn 212 (18, [some (.ref q), x1, x2], .ref q :: st, a, h) := Rn_go c212_17 rfl
theorem c212_18 : mcode 212 18 = some (.iload_n 2, 1, 0, 0, 0) := rfl
theorem r212_18 : Rn 212 (18, [x0, x1, some (.int i)], st, a, h) = Rn 212 (19, [x0, x1, some (.int i)], .int i :: st, a, h) := Rn_go c212_18 rfl
theorem c212_19 : mcode 212 19 = some (.invokevirtual 98, 3, 130, 1, 6) := rfl
theorem r212_19 : Rn 212 (19, [x0, x1, x2], [v0, .ref q], a, h) = if mis h q 6 = true then Bk 212 22 [x0, x1, x2] [] (Ec 130 [.ref q, v0] a h) else none := Rn_call1 c212_19 rfl (Nat.le_of_ble_eq_true rfl) rfl rfl (Nat.le_of_ble_eq_true rfl)
theorem c212_22 : mcode 212 22 = some (.ifCond .ne 10, 3, 0, 0, 0) := rfl
theorem r212_22 : Rn 212 (22, [x0, x1, x2], .int i :: st, a, h) = if i = 0 then Rn 212 (25, [x0, x1, x2], st, a, h) else Rn 212 (32, [x0, x1, x2], st, a, h) := Rn_ifcn c212_22 mc_ne rfl rfl
theorem c212_25 : mcode 212 25 = some (.aload_n 0, 1, 0, 0, 0) := rfl
theorem r212_25 : Rn 212 (25, [some (.ref q), x1, x2], st, a, h) = Rn 212 (26, [some (.ref q), x1, x2], .ref q :: st, a, h) := Rn_go c212_25 rfl
theorem c212_26 : mcode 212 26 = some (.ldc 37, 2, 0, 0, -1000001) := rfl
theorem r212_26 : Rn 212 (26, [x0, x1, x2], st, a, h) = Rn 212 (28, [x0, x1, x2], .int (-1000001 : Int32) :: st, a, h) := Rn_go c212_26 rfl
theorem c212_28 : mcode 212 28 = some (.invokevirtual 39, 3, 125, 1, 6) := rfl
theorem r212_28 : Rn 212 (28, [x0, x1, x2], [v0, .ref q], a, h) = if mis h q 6 = true then Bk 212 31 [x0, x1, x2] [] (Ec 125 [.ref q, v0] a h) else none := Rn_call1 c212_28 rfl (Nat.le_of_ble_eq_true rfl) rfl rfl (Nat.le_of_ble_eq_true rfl)
theorem c212_31 : mcode 212 31 = some (.ireturn, 1, 0, 0, 0) := rfl
theorem r212_31 : Rn 212 (31, [x0, x1, x2], [.int i], a, h) = some (some (.int i), a, h) := Rn_ireti c212_31
theorem c212_32 : mcode 212 32 = some (.aload_n 0, 1, 0, 0, 0) := rfl
theorem r212_32 : Rn 212 (32, [some (.ref q), x1, x2], st, a, h) = Rn 212 (33, [some (.ref q), x1, x2], .ref q :: st, a, h) := Rn_go c212_32 rfl
theorem c212_33 : mcode 212 33 = some (.getfield 7, 3, 6, 0, 0) := rfl
theorem r212_33 : Rn 212 (33, [x0, x1, x2], .ref q :: st, a, h) = Kv 212 36 [x0, x1, x2] st a h (mgf h q 6 0) := Rn_getf c212_33 rfl
theorem c212_36 : mcode 212 36 = some (.bipush 76, 2, 0, 0, 0) := rfl
theorem r212_36 : Rn 212 (36, [x0, x1, x2], st, a, h) = Rn 212 (38, [x0, x1, x2], .int (76 : Int32) :: st, a, h) := Rn_go c212_36 rfl
theorem c212_38 : mcode 212 38 = some (.iload_n 1, 1, 0, 0, 0) := rfl
theorem r212_38 : Rn 212 (38, [x0, some (.int i), x2], st, a, h) = Rn 212 (39, [x0, some (.int i), x2], .int i :: st, a, h) := Rn_go c212_38 rfl
theorem c212_39 : mcode 212 39 = some (.iadd, 1, 0, 0, 0) := rfl
theorem r212_39 : Rn 212 (39, [x0, x1, x2], .int j :: .int i :: st, a, h) = Rn 212 (40, [x0, x1, x2], .int (i + j) :: st, a, h) := Rn_go c212_39 rfl
theorem c212_40 : mcode 212 40 = some (.iload_n 2, 1, 0, 0, 0) := rfl
theorem r212_40 : Rn 212 (40, [x0, x1, some (.int i)], st, a, h) = Rn 212 (41, [x0, x1, some (.int i)], .int i :: st, a, h) := Rn_go c212_40 rfl
theorem c212_41 : mcode 212 41 = some (.iastore, 1, 0, 0, 0) := rfl
theorem r212_41 : Rn 212 (41, [x0, x1, x2], .int j :: .int i :: .ref q :: st, a, h) = Kh 212 42 [x0, x1, x2] st a (mias h q i j) := Rn_iast c212_41 rfl
theorem c212_42 : mcode 212 42 = some (.iconst 1, 1, 0, 0, 0) := rfl
theorem r212_42 : Rn 212 (42, [x0, x1, x2], st, a, h) = Rn 212 (43, [x0, x1, x2], .int (1 : Int32) :: st, a, h) := Rn_go c212_42 rfl
theorem c212_43 : mcode 212 43 = some (.ireturn, 1, 0, 0, 0) := rfl
theorem r212_43 : Rn 212 (43, [x0, x1, x2], [.int i], a, h) = some (some (.int i), a, h) := Rn_ireti c212_43
theorem c213_0 : mcode 213 0 = some (.iload_n 1, 1, 0, 0, 0) := rfl
theorem r213_0 : Rn 213 (0, [x0, some (.int i)], st, a, h) = Rn 213 (1, [x0, some (.int i)], .int i :: st, a, h) := Rn_go c213_0 rfl
theorem c213_1 : mcode 213 1 = some (.ifCond .eq 44, 3, 0, 0, 0) := rfl
theorem r213_1 : Rn 213 (1, [x0, x1], .int i :: st, a, h) = if i = 0 then Rn 213 (45, [x0, x1], st, a, h) else Rn 213 (4, [x0, x1], st, a, h) := Rn_ifc c213_1 mc_eq rfl rfl
theorem c213_4 : mcode 213 4 = some (.iload_n 0, 1, 0, 0, 0) := rfl
theorem r213_4 : Rn 213 (4, [some (.int i), x1], st, a, h) = Rn 213 (5, [some (.int i), x1], .int i :: st, a, h) := Rn_go c213_4 rfl
theorem c213_5 : mcode 213 5 = some (.iload_n 1, 1, 0, 0, 0) := rfl
theorem r213_5 : Rn 213 (5, [x0, some (.int i)], st, a, h) = Rn 213 (6, [x0, some (.int i)], .int i :: st, a, h) := Rn_go c213_5 rfl
theorem c213_6 : mcode 213 6 = some (.if_icmp .eq 39, 3, 0, 0, 0) := rfl
theorem r213_6 : Rn 213 (6, [x0, x1], .int j :: .int i :: st, a, h) = if i = j then Rn 213 (45, [x0, x1], st, a, h) else Rn 213 (9, [x0, x1], st, a, h) := Rn_icmp c213_6 mc_eq rfl rfl
theorem c213_9 : mcode 213 9 = some (.iload_n 1, 1, 0, 0, 0) := rfl
theorem r213_9 : Rn 213 (9, [x0, some (.int i)], st, a, h) = Rn 213 (10, [x0, some (.int i)], .int i :: st, a, h) := Rn_go c213_9 rfl
theorem c213_10 : mcode 213 10 = some (.iconst 2, 1, 0, 0, 0) := rfl
theorem r213_10 : Rn 213 (10, [x0, x1], st, a, h) = Rn 213 (11, [x0, x1], .int (2 : Int32) :: st, a, h) := Rn_go c213_10 rfl
theorem c213_11 : mcode 213 11 = some (.if_icmp .ne 13, 3, 0, 0, 0) := rfl
theorem r213_11 : Rn 213 (11, [x0, x1], .int j :: .int i :: st, a, h) = if i = j then Rn 213 (14, [x0, x1], st, a, h) else Rn 213 (24, [x0, x1], st, a, h) := Rn_icmpn c213_11 mc_ne rfl rfl
theorem c213_14 : mcode 213 14 = some (.iload_n 0, 1, 0, 0, 0) := rfl
theorem r213_14 : Rn 213 (14, [some (.int i), x1], st, a, h) = Rn 213 (15, [some (.int i), x1], .int i :: st, a, h) := Rn_go c213_14 rfl
theorem c213_15 : mcode 213 15 = some (.iconst 3, 1, 0, 0, 0) := rfl
theorem r213_15 : Rn 213 (15, [x0, x1], st, a, h) = Rn 213 (16, [x0, x1], .int (3 : Int32) :: st, a, h) := Rn_go c213_15 rfl
theorem c213_16 : mcode 213 16 = some (.if_icmp .eq 29, 3, 0, 0, 0) := rfl
theorem r213_16 : Rn 213 (16, [x0, x1], .int j :: .int i :: st, a, h) = if i = j then Rn 213 (45, [x0, x1], st, a, h) else Rn 213 (19, [x0, x1], st, a, h) := Rn_icmp c213_16 mc_eq rfl rfl
theorem c213_19 : mcode 213 19 = some (.iload_n 0, 1, 0, 0, 0) := rfl
theorem r213_19 : Rn 213 (19, [some (.int i), x1], st, a, h) = Rn 213 (20, [some (.int i), x1], .int i :: st, a, h) := Rn_go c213_19 rfl
theorem c213_20 : mcode 213 20 = some (.iconst 4, 1, 0, 0, 0) := rfl
theorem r213_20 : Rn 213 (20, [x0, x1], st, a, h) = Rn 213 (21, [x0, x1], .int (4 : Int32) :: st, a, h) := Rn_go c213_20 rfl
theorem c213_21 : mcode 213 21 = some (.if_icmp .eq 24, 3, 0, 0, 0) := rfl
theorem r213_21 : Rn 213 (21, [x0, x1], .int j :: .int i :: st, a, h) = if i = j then Rn 213 (45, [x0, x1], st, a, h) else Rn 213 (24, [x0, x1], st, a, h) := Rn_icmp c213_21 mc_eq rfl rfl
theorem c213_24 : mcode 213 24 = some (.iload_n 1, 1, 0, 0, 0) := rfl
theorem r213_24 : Rn 213 (24, [x0, some (.int i)], st, a, h) = Rn 213 (25, [x0, some (.int i)], .int i :: st, a, h) := Rn_go c213_24 rfl
theorem c213_25 : mcode 213 25 = some (.iconst 3, 1, 0, 0, 0) := rfl
theorem r213_25 : Rn 213 (25, [x0, x1], st, a, h) = Rn 213 (26, [x0, x1], .int (3 : Int32) :: st, a, h) := Rn_go c213_25 rfl
theorem c213_26 : mcode 213 26 = some (.if_icmp .ne 8, 3, 0, 0, 0) := rfl
theorem r213_26 : Rn 213 (26, [x0, x1], .int j :: .int i :: st, a, h) = if i = j then Rn 213 (29, [x0, x1], st, a, h) else Rn 213 (34, [x0, x1], st, a, h) := Rn_icmpn c213_26 mc_ne rfl rfl
theorem c213_29 : mcode 213 29 = some (.iload_n 0, 1, 0, 0, 0) := rfl
theorem r213_29 : Rn 213 (29, [some (.int i), x1], st, a, h) = Rn 213 (30, [some (.int i), x1], .int i :: st, a, h) := Rn_go c213_29 rfl
theorem c213_30 : mcode 213 30 = some (.iconst 4, 1, 0, 0, 0) := rfl
theorem r213_30 : Rn 213 (30, [x0, x1], st, a, h) = Rn 213 (31, [x0, x1], .int (4 : Int32) :: st, a, h) := Rn_go c213_30 rfl
theorem c213_31 : mcode 213 31 = some (.if_icmp .eq 14, 3, 0, 0, 0) := rfl
theorem r213_31 : Rn 213 (31, [x0, x1], .int j :: .int i :: st, a, h) = if i = j then Rn 213 (45, [x0, x1], st, a, h) else Rn 213 (34, [x0, x1], st, a, h) := Rn_icmp c213_31 mc_eq rfl rfl
theorem c213_34 : mcode 213 34 = some (.iload_n 1, 1, 0, 0, 0) := rfl
theorem r213_34 : Rn 213 (34, [x0, some (.int i)], st, a, h) = Rn 213 (35, [x0, some (.int i)], .int i :: st, a, h) := Rn_go c213_34 rfl
theorem c213_35 : mcode 213 35 = some (.iconst 5, 1, 0, 0, 0) := rfl
theorem r213_35 : Rn 213 (35, [x0, x1], st, a, h) = Rn 213 (36, [x0, x1], .int (5 : Int32) :: st, a, h) := Rn_go c213_35 rfl
theorem c213_36 : mcode 213 36 = some (.if_icmp .ne 13, 3, 0, 0, 0) := rfl
theorem r213_36 : Rn 213 (36, [x0, x1], .int j :: .int i :: st, a, h) = if i = j then Rn 213 (39, [x0, x1], st, a, h) else Rn 213 (49, [x0, x1], st, a, h) := Rn_icmpn c213_36 mc_ne rfl rfl
theorem c213_39 : mcode 213 39 = some (.iload_n 0, 1, 0, 0, 0) := rfl
theorem r213_39 : Rn 213 (39, [some (.int i), x1], st, a, h) = Rn 213 (40, [some (.int i), x1], .int i :: st, a, h) := Rn_go c213_39 rfl
theorem c213_40 : mcode 213 40 = some (.bipush 6, 2, 0, 0, 0) := rfl
theorem r213_40 : Rn 213 (40, [x0, x1], st, a, h) = Rn 213 (42, [x0, x1], .int (6 : Int32) :: st, a, h) := Rn_go c213_40 rfl
theorem c213_42 : mcode 213 42 = some (.if_icmp .ne 7, 3, 0, 0, 0) := rfl
theorem r213_42 : Rn 213 (42, [x0, x1], .int j :: .int i :: st, a, h) = if i = j then Rn 213 (45, [x0, x1], st, a, h) else Rn 213 (49, [x0, x1], st, a, h) := Rn_icmpn c213_42 mc_ne rfl rfl
theorem c213_45 : mcode 213 45 = some (.iconst 1, 1, 0, 0, 0) := rfl
theorem r213_45 : Rn 213 (45, [x0, x1], st, a, h) = Rn 213 (46, [x0, x1], .int (1 : Int32) :: st, a, h) := Rn_go c213_45 rfl
theorem c213_46 : mcode 213 46 = some (.goto 4, 3, 0, 0, 0) := rfl
theorem r213_46 : Rn 213 (46, [x0, x1], st, a, h) = Rn 213 (50, [x0, x1], st, a, h) := Rn_goto c213_46 rfl
theorem c213_49 : mcode 213 49 = some (.iconst 0, 1, 0, 0, 0) := rfl
theorem r213_49 : Rn 213 (49, [x0, x1], st, a, h) = Rn 213 (50, [x0, x1], .int (0 : Int32) :: st, a, h) := Rn_go c213_49 rfl
theorem c213_50 : mcode 213 50 = some (.ireturn, 1, 1, 0, 0) := rfl
theorem r213_50 : Rn 213 (50, [x0, x1], [.int i], a, h) = if mrt 1 i = true then some (some (.int i), a, h) else none := Rn_iretz c213_50
theorem c214_0 : mcode 214 0 = some (.iload_n 1, 1, 0, 0, 0) := rfl
theorem r214_0 : Rn 214 (0, [x0, some (.int i), x2, x3], st, a, h) = Rn 214 (1, [x0, some (.int i), x2, x3], .int i :: st, a, h) := Rn_go c214_0 rfl
theorem c214_1 : mcode 214 1 = some (.i2l, 1, 0, 0, 0) := rfl
theorem r214_1 : Rn 214 (1, [x0, x1, x2, x3], .int i :: st, a, h) = Rn 214 (2, [x0, x1, x2, x3], .long i.toInt64 :: st, a, h) := Rn_go c214_1 rfl
theorem c214_2 : mcode 214 2 = some (.lconst 0, 1, 0, 0, 0) := rfl
theorem r214_2 : Rn 214 (2, [x0, x1, x2, x3], st, a, h) = Rn 214 (3, [x0, x1, x2, x3], .long (0 : Int64) :: st, a, h) := Rn_go c214_2 rfl
theorem c214_3 : mcode 214 3 = some (.ldc2_w 77, 3, 0, 0, 9) := rfl
theorem r214_3 : Rn 214 (3, [x0, x1, x2, x3], st, a, h) = Rn 214 (6, [x0, x1, x2, x3], .long (9 : Int64) :: st, a, h) := Rn_go c214_3 rfl
theorem c214_6 : mcode 214 6 = some (.invokestatic 52, 3, 124, 3, 0) := rfl
theorem r214_6 : Rn 214 (6, [x0, x1, x2, x3], [v2, v1, v0], a, h) = Bk 214 9 [x0, x1, x2, x3] [] (Ec 124 [v0, v1, v2] a h) := Rn_call0 c214_6 (fun z => nomatch z) rfl (Nat.le_of_ble_eq_true rfl) rfl rfl (Nat.le_of_ble_eq_true rfl)
theorem c214_9 : mcode 214 9 = some (.ifCond .eq 15, 3, 0, 0, 0) := rfl
theorem r214_9 : Rn 214 (9, [x0, x1, x2, x3], .int i :: st, a, h) = if i = 0 then Rn 214 (24, [x0, x1, x2, x3], st, a, h) else Rn 214 (12, [x0, x1, x2, x3], st, a, h) := Rn_ifc c214_9 mc_eq rfl rfl
theorem c214_12 : mcode 214 12 = some (.iload_n 2, 1, 0, 0, 0) := rfl
theorem r214_12 : Rn 214 (12, [x0, x1, some (.int i), x3], st, a, h) = Rn 214 (13, [x0, x1, some (.int i), x3], .int i :: st, a, h) := Rn_go c214_12 rfl
theorem c214_13 : mcode 214 13 = some (.i2l, 1, 0, 0, 0) := rfl
theorem r214_13 : Rn 214 (13, [x0, x1, x2, x3], .int i :: st, a, h) = Rn 214 (14, [x0, x1, x2, x3], .long i.toInt64 :: st, a, h) := Rn_go c214_13 rfl
theorem c214_14 : mcode 214 14 = some (.lconst 0, 1, 0, 0, 0) := rfl
theorem r214_14 : Rn 214 (14, [x0, x1, x2, x3], st, a, h) = Rn 214 (15, [x0, x1, x2, x3], .long (0 : Int64) :: st, a, h) := Rn_go c214_14 rfl
theorem c214_15 : mcode 214 15 = some (.ldc2_w 89, 3, 0, 0, 6) := rfl
theorem r214_15 : Rn 214 (15, [x0, x1, x2, x3], st, a, h) = Rn 214 (18, [x0, x1, x2, x3], .long (6 : Int64) :: st, a, h) := Rn_go c214_15 rfl
theorem c214_18 : mcode 214 18 = some (.invokestatic 52, 3, 124, 3, 0) := rfl
theorem r214_18 : Rn 214 (18, [x0, x1, x2, x3], [v2, v1, v0], a, h) = Bk 214 21 [x0, x1, x2, x3] [] (Ec 124 [v0, v1, v2] a h) := Rn_call0 c214_18 (fun z => nomatch z) rfl (Nat.le_of_ble_eq_true rfl) rfl rfl (Nat.le_of_ble_eq_true rfl)
theorem c214_21 : mcode 214 21 = some (.ifCond .ne 10, 3, 0, 0, 0) := rfl
theorem r214_21 : Rn 214 (21, [x0, x1, x2, x3], .int i :: st, a, h) = if i = 0 then Rn 214 (24, [x0, x1, x2, x3], st, a, h) else Rn 214 (31, [x0, x1, x2, x3], st, a, h) := Rn_ifcn c214_21 mc_ne rfl rfl
theorem c214_24 : mcode 214 24 = some (.aload_n 0, 1, 0, 0, 0) := rfl
theorem r214_24 : Rn 214 (24, [some (.ref q), x1, x2, x3], st, a, h) = Rn 214 (25, [some (.ref q), x1, x2, x3], .ref q :: st, a, h) := Rn_go c214_24 rfl
theorem c214_25 : mcode 214 25 = some (.ldc 37, 2, 0, 0, -1000001) := rfl
theorem r214_25 : Rn 214 (25, [x0, x1, x2, x3], st, a, h) = Rn 214 (27, [x0, x1, x2, x3], .int (-1000001 : Int32) :: st, a, h) := Rn_go c214_25 rfl
theorem c214_27 : mcode 214 27 = some (.invokevirtual 39, 3, 125, 1, 6) := rfl
theorem r214_27 : Rn 214 (27, [x0, x1, x2, x3], [v0, .ref q], a, h) = if mis h q 6 = true then Bk 214 30 [x0, x1, x2, x3] [] (Ec 125 [.ref q, v0] a h) else none := Rn_call1 c214_27 rfl (Nat.le_of_ble_eq_true rfl) rfl rfl (Nat.le_of_ble_eq_true rfl)
theorem c214_30 : mcode 214 30 = some (.ireturn, 1, 0, 0, 0) := rfl
theorem r214_30 : Rn 214 (30, [x0, x1, x2, x3], [.int i], a, h) = some (some (.int i), a, h) := Rn_ireti c214_30
theorem c214_31 : mcode 214 31 = some (.aload_n 0, 1, 0, 0, 0) := rfl
theorem r214_31 : Rn 214 (31, [some (.ref q), x1, x2, x3], st, a, h) = Rn 214 (32, [some (.ref q), x1, x2, x3], .ref q :: st, a, h) := Rn_go c214_31 rfl
theorem c214_32 : mcode 214 32 = some (.getfield 7, 3, 6, 0, 0) := rfl
theorem r214_32 : Rn 214 (32, [x0, x1, x2, x3], .ref q :: st, a, h) = Kv 214 35 [x0, x1, x2, x3] st a h (mgf h q 6 0) := Rn_getf c214_32 rfl
theorem c214_35 : mcode 214 35 = some (.bipush 76, 2, 0, 0, 0) := rfl
theorem r214_35 : Rn 214 (35, [x0, x1, x2, x3], st, a, h) = Rn 214 (37, [x0, x1, x2, x3], .int (76 : Int32) :: st, a, h) := Rn_go c214_35 rfl
theorem c214_37 : mcode 214 37 = some (.iload_n 1, 1, 0, 0, 0) := rfl
theorem r214_37 : Rn 214 (37, [x0, some (.int i), x2, x3], st, a, h) = Rn 214 (38, [x0, some (.int i), x2, x3], .int i :: st, a, h) := Rn_go c214_37 rfl
theorem c214_38 : mcode 214 38 = some (.iadd, 1, 0, 0, 0) := rfl
theorem r214_38 : Rn 214 (38, [x0, x1, x2, x3], .int j :: .int i :: st, a, h) = Rn 214 (39, [x0, x1, x2, x3], .int (i + j) :: st, a, h) := Rn_go c214_38 rfl
theorem c214_39 : mcode 214 39 = some (.iaload, 1, 0, 0, 0) := rfl
theorem r214_39 : Rn 214 (39, [x0, x1, x2, x3], .int i :: .ref q :: st, a, h) = Ki 214 40 [x0, x1, x2, x3] st a h (mld h q i false) := Rn_iald c214_39 rfl
theorem c214_40 : mcode 214 40 = some (.istore_n 3, 1, 0, 0, 0) := rfl
theorem r214_40 : Rn 214 (40, [x0, x1, x2, x3], .int i :: st, a, h) = Nl x2 (Rn 214 (41, [x0, x1, x2, some (.int i)], st, a, h)) := Rn_st1 (k := 3) (v := .int i) x2 c214_40 rfl rfl rfl rfl
theorem c214_41 : mcode 214 41 = some (.iload_n 3, 1, 0, 0, 0) := rfl
theorem r214_41 : Rn 214 (41, [x0, x1, x2, some (.int i)], st, a, h) = Rn 214 (42, [x0, x1, x2, some (.int i)], .int i :: st, a, h) := Rn_go c214_41 rfl
theorem c214_42 : mcode 214 42 = some (.ifCond .ge 11, 3, 0, 0, 0) := rfl
theorem r214_42 : Rn 214 (42, [x0, x1, x2, x3], .int i :: st, a, h) = if i < 0 then Rn 214 (45, [x0, x1, x2, x3], st, a, h) else Rn 214 (53, [x0, x1, x2, x3], st, a, h) := Rn_ifcn c214_42 mc_ge rfl rfl
theorem c214_45 : mcode 214 45 = some (.aload_n 0, 1, 0, 0, 0) := rfl
theorem r214_45 : Rn 214 (45, [some (.ref q), x1, x2, x3], st, a, h) = Rn 214 (46, [some (.ref q), x1, x2, x3], .ref q :: st, a, h) := Rn_go c214_45 rfl
theorem c214_46 : mcode 214 46 = some (.ldc_w 286, 3, 0, 0, -1000006) := rfl
theorem r214_46 : Rn 214 (46, [x0, x1, x2, x3], st, a, h) = Rn 214 (49, [x0, x1, x2, x3], .int (-1000006 : Int32) :: st, a, h) := Rn_go c214_46 rfl
theorem c214_49 : mcode 214 49 = some (.invokevirtual 39, 3, 125, 1, 6) := rfl
theorem r214_49 : Rn 214 (49, [x0, x1, x2, x3], [v0, .ref q], a, h) = if mis h q 6 = true then Bk 214 52 [x0, x1, x2, x3] [] (Ec 125 [.ref q, v0] a h) else none := Rn_call1 c214_49 rfl (Nat.le_of_ble_eq_true rfl) rfl rfl (Nat.le_of_ble_eq_true rfl)
theorem c214_52 : mcode 214 52 = some (.ireturn, 1, 0, 0, 0) := rfl
theorem r214_52 : Rn 214 (52, [x0, x1, x2, x3], [.int i], a, h) = some (some (.int i), a, h) := Rn_ireti c214_52
theorem c214_53 : mcode 214 53 = some (.aload_n 0, 1, 0, 0, 0) := rfl
theorem r214_53 : Rn 214 (53, [some (.ref q), x1, x2, x3], st, a, h) = Rn 214 (54, [some (.ref q), x1, x2, x3], .ref q :: st, a, h) := Rn_go c214_53 rfl
theorem c214_54 : mcode 214 54 = some (.iload_n 3, 1, 0, 0, 0) := rfl
theorem r214_54 : Rn 214 (54, [x0, x1, x2, some (.int i)], st, a, h) = Rn 214 (55, [x0, x1, x2, some (.int i)], .int i :: st, a, h) := Rn_go c214_54 rfl
theorem c214_55 : mcode 214 55 = some (.iconst 0, 1, 0, 0, 0) := rfl
theorem r214_55 : Rn 214 (55, [x0, x1, x2, x3], st, a, h) = Rn 214 (56, [x0, x1, x2, x3], .int (0 : Int32) :: st, a, h) := Rn_go c214_55 rfl
theorem c214_56 : mcode 214 56 = some (.invokevirtual 63, 3, 132, 2, 6) := rfl
theorem r214_56 : Rn 214 (56, [x0, x1, x2, x3], [v1, v0, .ref q], a, h) = if mis h q 6 = true then Bk 214 59 [x0, x1, x2, x3] [] (Ec 132 [.ref q, v0, v1] a h) else none := Rn_call1 c214_56 rfl (Nat.le_of_ble_eq_true rfl) rfl rfl (Nat.le_of_ble_eq_true rfl)
theorem c214_59 : mcode 214 59 = some (.iload_n 2, 1, 0, 0, 0) := rfl
theorem r214_59 : Rn 214 (59, [x0, x1, some (.int i), x3], st, a, h) = Rn 214 (60, [x0, x1, some (.int i), x3], .int i :: st, a, h) := Rn_go c214_59 rfl
theorem c214_60 : mcode 214 60 = some (.invokestatic 287, 3, 213, 2, 0) := rfl
theorem r214_60 : Rn 214 (60, [x0, x1, x2, x3], [v1, v0], a, h) = Bk 214 63 [x0, x1, x2, x3] [] (Ec 213 [v0, v1] a h) := Rn_call0 c214_60 (fun z => nomatch z) rfl (Nat.le_of_ble_eq_true rfl) rfl rfl (Nat.le_of_ble_eq_true rfl)
theorem c214_63 : mcode 214 63 = some (.ifCond .eq 7, 3, 0, 0, 0) := rfl
theorem r214_63 : Rn 214 (63, [x0, x1, x2, x3], .int i :: st, a, h) = if i = 0 then Rn 214 (70, [x0, x1, x2, x3], st, a, h) else Rn 214 (66, [x0, x1, x2, x3], st, a, h) := Rn_ifc c214_63 mc_eq rfl rfl
theorem c214_66 : mcode 214 66 = some (.iload_n 3, 1, 0, 0, 0) := rfl
theorem r214_66 : Rn 214 (66, [x0, x1, x2, some (.int i)], st, a, h) = Rn 214 (67, [x0, x1, x2, some (.int i)], .int i :: st, a, h) := Rn_go c214_66 rfl
theorem c214_67 : mcode 214 67 = some (.goto 10, 3, 0, 0, 0) := rfl
theorem r214_67 : Rn 214 (67, [x0, x1, x2, x3], st, a, h) = Rn 214 (77, [x0, x1, x2, x3], st, a, h) := Rn_goto c214_67 rfl
theorem c214_70 : mcode 214 70 = some (.aload_n 0, 1, 0, 0, 0) := rfl
theorem r214_70 : Rn 214 (70, [some (.ref q), x1, x2, x3], st, a, h) = Rn 214 (71, [some (.ref q), x1, x2, x3], .ref q :: st, a, h) := Rn_go c214_70 rfl
theorem c214_71 : mcode 214 71 = some (.ldc_w 290, 3, 0, 0, -1000003) := rfl
theorem r214_71 : Rn 214 (71, [x0, x1, x2, x3], st, a, h) = Rn 214 (74, [x0, x1, x2, x3], .int (-1000003 : Int32) :: st, a, h) := Rn_go c214_71 rfl
theorem c214_74 : mcode 214 74 = some (.invokevirtual 39, 3, 125, 1, 6) := rfl
theorem r214_74 : Rn 214 (74, [x0, x1, x2, x3], [v0, .ref q], a, h) = if mis h q 6 = true then Bk 214 77 [x0, x1, x2, x3] [] (Ec 125 [.ref q, v0] a h) else none := Rn_call1 c214_74 rfl (Nat.le_of_ble_eq_true rfl) rfl rfl (Nat.le_of_ble_eq_true rfl)
theorem c214_77 : mcode 214 77 = some (.ireturn, 1, 0, 0, 0) := rfl
theorem r214_77 : Rn 214 (77, [x0, x1, x2, x3], [.int i], a, h) = some (some (.int i), a, h) := Rn_ireti c214_77
theorem c215_0 : mcode 215 0 = some (.iload_n 0, 1, 0, 0, 0) := rfl
theorem r215_0 : Rn 215 (0, [some (.int i)], st, a, h) = Rn 215 (1, [some (.int i)], .int i :: st, a, h) := Rn_go c215_0 rfl
theorem c215_1 : mcode 215 1 = some (.ifCond .lt 12, 3, 0, 0, 0) := rfl
theorem r215_1 : Rn 215 (1, [x0], .int i :: st, a, h) = if i < 0 then Rn 215 (13, [x0], st, a, h) else Rn 215 (4, [x0], st, a, h) := Rn_ifc c215_1 mc_lt rfl rfl
theorem c215_4 : mcode 215 4 = some (.iload_n 0, 1, 0, 0, 0) := rfl
theorem r215_4 : Rn 215 (4, [some (.int i)], st, a, h) = Rn 215 (5, [some (.int i)], .int i :: st, a, h) := Rn_go c215_4 rfl
theorem c215_5 : mcode 215 5 = some (.iconst 4, 1, 0, 0, 0) := rfl
theorem r215_5 : Rn 215 (5, [x0], st, a, h) = Rn 215 (6, [x0], .int (4 : Int32) :: st, a, h) := Rn_go c215_5 rfl
theorem c215_6 : mcode 215 6 = some (.if_icmp .ge 7, 3, 0, 0, 0) := rfl
theorem r215_6 : Rn 215 (6, [x0], .int j :: .int i :: st, a, h) = if i < j then Rn 215 (9, [x0], st, a, h) else Rn 215 (13, [x0], st, a, h) := Rn_icmpn c215_6 mc_ge rfl rfl
theorem c215_9 : mcode 215 9 = some (.iconst 1, 1, 0, 0, 0) := rfl
theorem r215_9 : Rn 215 (9, [x0], st, a, h) = Rn 215 (10, [x0], .int (1 : Int32) :: st, a, h) := Rn_go c215_9 rfl
theorem c215_10 : mcode 215 10 = some (.goto 4, 3, 0, 0, 0) := rfl
theorem r215_10 : Rn 215 (10, [x0], st, a, h) = Rn 215 (14, [x0], st, a, h) := Rn_goto c215_10 rfl
theorem c215_13 : mcode 215 13 = some (.iconst 0, 1, 0, 0, 0) := rfl
theorem r215_13 : Rn 215 (13, [x0], st, a, h) = Rn 215 (14, [x0], .int (0 : Int32) :: st, a, h) := Rn_go c215_13 rfl
theorem c215_14 : mcode 215 14 = some (.ireturn, 1, 1, 0, 0) := rfl
theorem r215_14 : Rn 215 (14, [x0], [.int i], a, h) = if mrt 1 i = true then some (some (.int i), a, h) else none := Rn_iretz c215_14
theorem c216_0 : mcode 216 0 = some (.iload_n 1, 1, 0, 0, 0) := rfl
theorem r216_0 : Rn 216 (0, [x0, some (.int i), x2, x3, x4], st, a, h) = Rn 216 (1, [x0, some (.int i), x2, x3, x4], .int i :: st, a, h) := Rn_go c216_0 rfl
theorem c216_1 : mcode 216 1 = some (.invokestatic 291, 3, 215, 1, 0) := rfl
theorem r216_1 : Rn 216 (1, [x0, x1, x2, x3, x4], [v0], a, h) = Bk 216 4 [x0, x1, x2, x3, x4] [] (Ec 215 [v0] a h) := Rn_call0 c216_1 (fun z => nomatch z) rfl (Nat.le_of_ble_eq_true rfl) rfl rfl (Nat.le_of_ble_eq_true rfl)
theorem c216_4 : mcode 216 4 = some (.ifCond .eq 25, 3, 0, 0, 0) := rfl
theorem r216_4 : Rn 216 (4, [x0, x1, x2, x3, x4], .int i :: st, a, h) = if i = 0 then Rn 216 (29, [x0, x1, x2, x3, x4], st, a, h) else Rn 216 (7, [x0, x1, x2, x3, x4], st, a, h) := Rn_ifc c216_4 mc_eq rfl rfl
theorem c216_7 : mcode 216 7 = some (.iload_n 2, 1, 0, 0, 0) := rfl
theorem r216_7 : Rn 216 (7, [x0, x1, some (.int i), x3, x4], st, a, h) = Rn 216 (8, [x0, x1, some (.int i), x3, x4], .int i :: st, a, h) := Rn_go c216_7 rfl
theorem c216_8 : mcode 216 8 = some (.ifCond .eq 28, 3, 0, 0, 0) := rfl
theorem r216_8 : Rn 216 (8, [x0, x1, x2, x3, x4], .int i :: st, a, h) = if i = 0 then Rn 216 (36, [x0, x1, x2, x3, x4], st, a, h) else Rn 216 (11, [x0, x1, x2, x3, x4], st, a, h) := Rn_ifc c216_8 mc_eq rfl rfl
theorem c216_11 : mcode 216 11 = some (.iload_n 2, 1, 0, 0, 0) := rfl
theorem r216_11 : Rn 216 (11, [x0, x1, some (.int i), x3, x4], st, a, h) = Rn 216 (12, [x0, x1, some (.int i), x3, x4], .int i :: st, a, h) := Rn_go c216_11 rfl
theorem c216_12 : mcode 216 12 = some (.bipush 8, 2, 0, 0, 0) := rfl
theorem r216_12 : Rn 216 (12, [x0, x1, x2, x3, x4], st, a, h) = Rn 216 (14, [x0, x1, x2, x3, x4], .int (8 : Int32) :: st, a, h) := Rn_go c216_12 rfl
theorem c216_14 : mcode 216 14 = some (.if_icmp .eq 22, 3, 0, 0, 0) := rfl
theorem r216_14 : Rn 216 (14, [x0, x1, x2, x3, x4], .int j :: .int i :: st, a, h) = if i = j then Rn 216 (36, [x0, x1, x2, x3, x4], st, a, h) else Rn 216 (17, [x0, x1, x2, x3, x4], st, a, h) := Rn_icmp c216_14 mc_eq rfl rfl
theorem c216_17 : mcode 216 17 = some (.iload_n 2, 1, 0, 0, 0) := rfl
theorem r216_17 : Rn 216 (17, [x0, x1, some (.int i), x3, x4], st, a, h) = Rn 216 (18, [x0, x1, some (.int i), x3, x4], .int i :: st, a, h) := Rn_go c216_17 rfl
theorem c216_18 : mcode 216 18 = some (.bipush 16, 2, 0, 0, 0) := rfl
theorem r216_18 : Rn 216 (18, [x0, x1, x2, x3, x4], st, a, h) = Rn 216 (20, [x0, x1, x2, x3, x4], .int (16 : Int32) :: st, a, h) := Rn_go c216_18 rfl
theorem c216_20 : mcode 216 20 = some (.if_icmp .eq 16, 3, 0, 0, 0) := rfl
theorem r216_20 : Rn 216 (20, [x0, x1, x2, x3, x4], .int j :: .int i :: st, a, h) = if i = j then Rn 216 (36, [x0, x1, x2, x3, x4], st, a, h) else Rn 216 (23, [x0, x1, x2, x3, x4], st, a, h) := Rn_icmp c216_20 mc_eq rfl rfl
theorem c216_23 : mcode 216 23 = some (.iload_n 2, 1, 0, 0, 0) := rfl
theorem r216_23 : Rn 216 (23, [x0, x1, some (.int i), x3, x4], st, a, h) = Rn 216 (24, [x0, x1, some (.int i), x3, x4], .int i :: st, a, h) := Rn_go c216_23 rfl
theorem c216_24 : mcode 216 24 = some (.bipush 32, 2, 0, 0, 0) := rfl
theorem r216_24 : Rn 216 (24, [x0, x1, x2, x3, x4], st, a, h) = Rn 216 (26, [x0, x1, x2, x3, x4], .int (32 : Int32) :: st, a, h) := Rn_go c216_24 rfl
theorem c216_26 : mcode 216 26 = some (.if_icmp .eq 10, 3, 0, 0, 0) := rfl
theorem r216_26 : Rn 216 (26, [x0, x1, x2, x3, x4], .int j :: .int i :: st, a, h) = if i = j then Rn 216 (36, [x0, x1, x2, x3, x4], st, a, h) else Rn 216 (29, [x0, x1, x2, x3, x4], st, a, h) := Rn_icmp c216_26 mc_eq rfl rfl
theorem c216_29 : mcode 216 29 = some (.aload_n 0, 1, 0, 0, 0) := rfl
theorem r216_29 : Rn 216 (29, [some (.ref q), x1, x2, x3, x4], st, a, h) = Rn 216 (30, [some (.ref q), x1, x2, x3, x4], .ref q :: st, a, h) := Rn_go c216_29 rfl
theorem c216_30 : mcode 216 30 = some (.ldc 37, 2, 0, 0, -1000001) := rfl
theorem r216_30 : Rn 216 (30, [x0, x1, x2, x3, x4], st, a, h) = Rn 216 (32, [x0, x1, x2, x3, x4], .int (-1000001 : Int32) :: st, a, h) := Rn_go c216_30 rfl
theorem c216_32 : mcode 216 32 = some (.invokevirtual 39, 3, 125, 1, 6) := rfl
theorem r216_32 : Rn 216 (32, [x0, x1, x2, x3, x4], [v0, .ref q], a, h) = if mis h q 6 = true then Bk 216 35 [x0, x1, x2, x3, x4] [] (Ec 125 [.ref q, v0] a h) else none := Rn_call1 c216_32 rfl (Nat.le_of_ble_eq_true rfl) rfl rfl (Nat.le_of_ble_eq_true rfl)
theorem c216_35 : mcode 216 35 = some (.ireturn, 1, 0, 0, 0) := rfl
theorem r216_35 : Rn 216 (35, [x0, x1, x2, x3, x4], [.int i], a, h) = some (some (.int i), a, h) := Rn_ireti c216_35
theorem c216_36 : mcode 216 36 = some (.iload_n 3, 1, 0, 0, 0) := rfl
theorem r216_36 : Rn 216 (36, [x0, x1, x2, some (.int i), x4], st, a, h) = Rn 216 (37, [x0, x1, x2, some (.int i), x4], .int i :: st, a, h) := Rn_go c216_36 rfl
theorem c216_37 : mcode 216 37 = some (.ifCond .ge 11, 3, 0, 0, 0) := rfl
theorem r216_37 : Rn 216 (37, [x0, x1, x2, x3, x4], .int i :: st, a, h) = if i < 0 then Rn 216 (40, [x0, x1, x2, x3, x4], st, a, h) else Rn 216 (48, [x0, x1, x2, x3, x4], st, a, h) := Rn_ifcn c216_37 mc_ge rfl rfl
theorem c216_40 : mcode 216 40 = some (.aload_n 0, 1, 0, 0, 0) := rfl
theorem r216_40 : Rn 216 (40, [some (.ref q), x1, x2, x3, x4], st, a, h) = Rn 216 (41, [some (.ref q), x1, x2, x3, x4], .ref q :: st, a, h) := Rn_go c216_40 rfl
theorem c216_41 : mcode 216 41 = some (.ldc_w 294, 3, 0, 0, -1000007) := rfl
theorem r216_41 : Rn 216 (41, [x0, x1, x2, x3, x4], st, a, h) = Rn 216 (44, [x0, x1, x2, x3, x4], .int (-1000007 : Int32) :: st, a, h) := Rn_go c216_41 rfl
theorem c216_44 : mcode 216 44 = some (.invokevirtual 39, 3, 125, 1, 6) := rfl
theorem r216_44 : Rn 216 (44, [x0, x1, x2, x3, x4], [v0, .ref q], a, h) = if mis h q 6 = true then Bk 216 47 [x0, x1, x2, x3, x4] [] (Ec 125 [.ref q, v0] a h) else none := Rn_call1 c216_44 rfl (Nat.le_of_ble_eq_true rfl) rfl rfl (Nat.le_of_ble_eq_true rfl)
theorem c216_47 : mcode 216 47 = some (.ireturn, 1, 0, 0, 0) := rfl
theorem r216_47 : Rn 216 (47, [x0, x1, x2, x3, x4], [.int i], a, h) = some (some (.int i), a, h) := Rn_ireti c216_47
theorem c216_48 : mcode 216 48 = some (.iload_n 3, 1, 0, 0, 0) := rfl
theorem r216_48 : Rn 216 (48, [x0, x1, x2, some (.int i), x4], st, a, h) = Rn 216 (49, [x0, x1, x2, some (.int i), x4], .int i :: st, a, h) := Rn_go c216_48 rfl
theorem c216_49 : mcode 216 49 = some (.bipush 40, 2, 0, 0, 0) := rfl
theorem r216_49 : Rn 216 (49, [x0, x1, x2, x3, x4], st, a, h) = Rn 216 (51, [x0, x1, x2, x3, x4], .int (40 : Int32) :: st, a, h) := Rn_go c216_49 rfl
theorem c216_51 : mcode 216 51 = some (.if_icmp .le 10, 3, 0, 0, 0) := rfl
theorem r216_51 : Rn 216 (51, [x0, x1, x2, x3, x4], .int j :: .int i :: st, a, h) = if j < i then Rn 216 (54, [x0, x1, x2, x3, x4], st, a, h) else Rn 216 (61, [x0, x1, x2, x3, x4], st, a, h) := Rn_icmpn c216_51 mc_le rfl rfl
theorem c216_54 : mcode 216 54 = some (.aload_n 0, 1, 0, 0, 0) := rfl
theorem r216_54 : Rn 216 (54, [some (.ref q), x1, x2, x3, x4], st, a, h) = Rn 216 (55, [some (.ref q), x1, x2, x3, x4], .ref q :: st, a, h) := Rn_go c216_54 rfl
theorem c216_55 : mcode 216 55 = some (.ldc 37, 2, 0, 0, -1000001) := rfl
theorem r216_55 : Rn 216 (55, [x0, x1, x2, x3, x4], st, a, h) = Rn 216 (57, [x0, x1, x2, x3, x4], .int (-1000001 : Int32) :: st, a, h) := Rn_go c216_55 rfl
theorem c216_57 : mcode 216 57 = some (.invokevirtual 39, 3, 125, 1, 6) := rfl
theorem r216_57 : Rn 216 (57, [x0, x1, x2, x3, x4], [v0, .ref q], a, h) = if mis h q 6 = true then Bk 216 60 [x0, x1, x2, x3, x4] [] (Ec 125 [.ref q, v0] a h) else none := Rn_call1 c216_57 rfl (Nat.le_of_ble_eq_true rfl) rfl rfl (Nat.le_of_ble_eq_true rfl)
theorem c216_60 : mcode 216 60 = some (.ireturn, 1, 0, 0, 0) := rfl
theorem r216_60 : Rn 216 (60, [x0, x1, x2, x3, x4], [.int i], a, h) = some (some (.int i), a, h) := Rn_ireti c216_60
theorem c216_61 : mcode 216 61 = some (.aload_n 0, 1, 0, 0, 0) := rfl
theorem r216_61 : Rn 216 (61, [some (.ref q), x1, x2, x3, x4], st, a, h) = Rn 216 (62, [some (.ref q), x1, x2, x3, x4], .ref q :: st, a, h) := Rn_go c216_61 rfl
theorem c216_62 : mcode 216 62 = some (.getfield 28, 3, 6, 8, 0) := rfl
theorem r216_62 : Rn 216 (62, [x0, x1, x2, x3, x4], .ref q :: st, a, h) = Kv 216 65 [x0, x1, x2, x3, x4] st a h (mgf h q 6 8) := Rn_getf c216_62 rfl
theorem c216_65 : mcode 216 65 = some (.iload_n 1, 1, 0, 0, 0) := rfl
theorem r216_65 : Rn 216 (65, [x0, some (.int i), x2, x3, x4], st, a, h) = Rn 216 (66, [x0, some (.int i), x2, x3, x4], .int i :: st, a, h) := Rn_go c216_65 rfl
theorem c216_66 : mcode 216 66 = some (.iload_n 2, 1, 0, 0, 0) := rfl
theorem r216_66 : Rn 216 (66, [x0, x1, some (.int i), x3, x4], st, a, h) = Rn 216 (67, [x0, x1, some (.int i), x3, x4], .int i :: st, a, h) := Rn_go c216_66 rfl
theorem c216_67 : mcode 216 67 = some (.ifCond .ne 7, 3, 0, 0, 0) := rfl
theorem r216_67 : Rn 216 (67, [x0, x1, x2, x3, x4], .int i :: st, a, h) = if i = 0 then Rn 216 (70, [x0, x1, x2, x3, x4], st, a, h) else Rn 216 (74, [x0, x1, x2, x3, x4], st, a, h) := Rn_ifcn c216_67 mc_ne rfl rfl
theorem c216_70 : mcode 216 70 = some (.iconst (-1), 1, 0, 0, 0) := rfl
theorem r216_70 : Rn 216 (70, [x0, x1, x2, x3, x4], st, a, h) = Rn 216 (71, [x0, x1, x2, x3, x4], .int (-1 : Int32) :: st, a, h) := Rn_go c216_70 rfl
theorem c216_71 : mcode 216 71 = some (.goto 4, 3, 0, 0, 0) := rfl
theorem r216_71 : Rn 216 (71, [x0, x1, x2, x3, x4], st, a, h) = Rn 216 (75, [x0, x1, x2, x3, x4], st, a, h) := Rn_goto c216_71 rfl
theorem c216_74 : mcode 216 74 = some (.iload_n 2, 1, 0, 0, 0) := rfl
theorem r216_74 : Rn 216 (74, [x0, x1, some (.int i), x3, x4], st, a, h) = Rn 216 (75, [x0, x1, some (.int i), x3, x4], .int i :: st, a, h) := Rn_go c216_74 rfl
theorem c216_75 : mcode 216 75 = some (.iastore, 1, 0, 0, 0) := rfl
theorem r216_75 : Rn 216 (75, [x0, x1, x2, x3, x4], .int j :: .int i :: .ref q :: st, a, h) = Kh 216 76 [x0, x1, x2, x3, x4] st a (mias h q i j) := Rn_iast c216_75 rfl
theorem c216_76 : mcode 216 76 = some (.aload_n 0, 1, 0, 0, 0) := rfl
theorem r216_76 : Rn 216 (76, [some (.ref q), x1, x2, x3, x4], st, a, h) = Rn 216 (77, [some (.ref q), x1, x2, x3, x4], .ref q :: st, a, h) := Rn_go c216_76 rfl
theorem c216_77 : mcode 216 77 = some (.getfield 31, 3, 6, 9, 0) := rfl
theorem r216_77 : Rn 216 (77, [x0, x1, x2, x3, x4], .ref q :: st, a, h) = Kv 216 80 [x0, x1, x2, x3, x4] st a h (mgf h q 6 9) := Rn_getf c216_77 rfl
theorem c216_80 : mcode 216 80 = some (.iload_n 1, 1, 0, 0, 0) := rfl
theorem r216_80 : Rn 216 (80, [x0, some (.int i), x2, x3, x4], st, a, h) = Rn 216 (81, [x0, some (.int i), x2, x3, x4], .int i :: st, a, h) := Rn_go c216_80 rfl
theorem c216_81 : mcode 216 81 = some (.iload_n 2, 1, 0, 0, 0) := rfl
theorem r216_81 : Rn 216 (81, [x0, x1, some (.int i), x3, x4], st, a, h) = Rn 216 (82, [x0, x1, some (.int i), x3, x4], .int i :: st, a, h) := Rn_go c216_81 rfl
theorem c216_82 : mcode 216 82 = some (.ifCond .ne 7, 3, 0, 0, 0) := rfl
theorem r216_82 : Rn 216 (82, [x0, x1, x2, x3, x4], .int i :: st, a, h) = if i = 0 then Rn 216 (85, [x0, x1, x2, x3, x4], st, a, h) else Rn 216 (89, [x0, x1, x2, x3, x4], st, a, h) := Rn_ifcn c216_82 mc_ne rfl rfl
theorem c216_85 : mcode 216 85 = some (.iconst 0, 1, 0, 0, 0) := rfl
theorem r216_85 : Rn 216 (85, [x0, x1, x2, x3, x4], st, a, h) = Rn 216 (86, [x0, x1, x2, x3, x4], .int (0 : Int32) :: st, a, h) := Rn_go c216_85 rfl
theorem c216_86 : mcode 216 86 = some (.goto 4, 3, 0, 0, 0) := rfl
theorem r216_86 : Rn 216 (86, [x0, x1, x2, x3, x4], st, a, h) = Rn 216 (90, [x0, x1, x2, x3, x4], st, a, h) := Rn_goto c216_86 rfl
theorem c216_89 : mcode 216 89 = some (.iload_n 3, 1, 0, 0, 0) := rfl
theorem r216_89 : Rn 216 (89, [x0, x1, x2, some (.int i), x4], st, a, h) = Rn 216 (90, [x0, x1, x2, some (.int i), x4], .int i :: st, a, h) := Rn_go c216_89 rfl
theorem c216_90 : mcode 216 90 = some (.iastore, 1, 0, 0, 0) := rfl
theorem r216_90 : Rn 216 (90, [x0, x1, x2, x3, x4], .int j :: .int i :: .ref q :: st, a, h) = Kh 216 91 [x0, x1, x2, x3, x4] st a (mias h q i j) := Rn_iast c216_90 rfl
theorem c216_91 : mcode 216 91 = some (.iconst 0, 1, 0, 0, 0) := rfl
theorem r216_91 : Rn 216 (91, [x0, x1, x2, x3, x4], st, a, h) = Rn 216 (92, [x0, x1, x2, x3, x4], .int (0 : Int32) :: st, a, h) := Rn_go c216_91 rfl
theorem c216_92 : mcode 216 92 = some (.istore 4, 2, 0, 0, 0) := rfl
theorem r216_92 : Rn 216 (92, [x0, x1, x2, x3, x4], .int i :: st, a, h) = Nl x3 (Rn 216 (94, [x0, x1, x2, x3, some (.int i)], st, a, h)) := Rn_st1 (k := 4) (v := .int i) x3 c216_92 rfl rfl rfl rfl
theorem c216_94 : mcode 216 94 = some (.iload 4, 2, 0, 0, 0) := rfl
theorem r216_94 : Rn 216 (94, [x0, x1, x2, x3, some (.int i)], st, a, h) = Rn 216 (96, [x0, x1, x2, x3, some (.int i)], .int i :: st, a, h) := Rn_go c216_94 rfl
theorem c216_96 : mcode 216 96 = some (.bipush 40, 2, 0, 0, 0) := rfl
theorem r216_96 : Rn 216 (96, [x0, x1, x2, x3, x4], st, a, h) = Rn 216 (98, [x0, x1, x2, x3, x4], .int (40 : Int32) :: st, a, h) := Rn_go c216_96 rfl
theorem c216_98 : mcode 216 98 = some (.if_icmp .ge 22, 3, 0, 0, 0) := rfl
theorem r216_98 : Rn 216 (98, [x0, x1, x2, x3, x4], .int j :: .int i :: st, a, h) = if i < j then Rn 216 (101, [x0, x1, x2, x3, x4], st, a, h) else Rn 216 (120, [x0, x1, x2, x3, x4], st, a, h) := Rn_icmpn c216_98 mc_ge rfl rfl
theorem c216_101 : mcode 216 101 = some (.aload_n 0, 1, 0, 0, 0) := rfl
theorem r216_101 : Rn 216 (101, [some (.ref q), x1, x2, x3, x4], st, a, h) = Rn 216 (102, [some (.ref q), x1, x2, x3, x4], .ref q :: st, a, h) := Rn_go c216_101 rfl
theorem c216_102 : mcode 216 102 = some (.getfield 34, 3, 6, 10, 0) := rfl
theorem r216_102 : Rn 216 (102, [x0, x1, x2, x3, x4], .ref q :: st, a, h) = Kv 216 105 [x0, x1, x2, x3, x4] st a h (mgf h q 6 10) := Rn_getf c216_102 rfl
theorem c216_105 : mcode 216 105 = some (.bipush 40, 2, 0, 0, 0) := rfl
theorem r216_105 : Rn 216 (105, [x0, x1, x2, x3, x4], st, a, h) = Rn 216 (107, [x0, x1, x2, x3, x4], .int (40 : Int32) :: st, a, h) := Rn_go c216_105 rfl
theorem c216_107 : mcode 216 107 = some (.iload_n 1, 1, 0, 0, 0) := rfl
theorem r216_107 : Rn 216 (107, [x0, some (.int i), x2, x3, x4], st, a, h) = Rn 216 (108, [x0, some (.int i), x2, x3, x4], .int i :: st, a, h) := Rn_go c216_107 rfl
theorem c216_108 : mcode 216 108 = some (.imul, 1, 0, 0, 0) := rfl
theorem r216_108 : Rn 216 (108, [x0, x1, x2, x3, x4], .int j :: .int i :: st, a, h) = Rn 216 (109, [x0, x1, x2, x3, x4], .int (i * j) :: st, a, h) := Rn_go c216_108 rfl
theorem c216_109 : mcode 216 109 = some (.iload 4, 2, 0, 0, 0) := rfl
theorem r216_109 : Rn 216 (109, [x0, x1, x2, x3, some (.int i)], st, a, h) = Rn 216 (111, [x0, x1, x2, x3, some (.int i)], .int i :: st, a, h) := Rn_go c216_109 rfl
theorem c216_111 : mcode 216 111 = some (.iadd, 1, 0, 0, 0) := rfl
theorem r216_111 : Rn 216 (111, [x0, x1, x2, x3, x4], .int j :: .int i :: st, a, h) = Rn 216 (112, [x0, x1, x2, x3, x4], .int (i + j) :: st, a, h) := Rn_go c216_111 rfl
theorem c216_112 : mcode 216 112 = some (.iconst 0, 1, 0, 0, 0) := rfl
theorem r216_112 : Rn 216 (112, [x0, x1, x2, x3, x4], st, a, h) = Rn 216 (113, [x0, x1, x2, x3, x4], .int (0 : Int32) :: st, a, h) := Rn_go c216_112 rfl
theorem c216_113 : mcode 216 113 = some (.iastore, 1, 0, 0, 0) := rfl
theorem r216_113 : Rn 216 (113, [x0, x1, x2, x3, x4], .int j :: .int i :: .ref q :: st, a, h) = Kh 216 114 [x0, x1, x2, x3, x4] st a (mias h q i j) := Rn_iast c216_113 rfl
theorem c216_114 : mcode 216 114 = some (.iinc 4 1, 3, 0, 0, 0) := rfl
theorem r216_114 : Rn 216 (114, [x0, x1, x2, x3, some (.int i)], st, a, h) = Nl x3 (Rn 216 (117, [x0, x1, x2, x3, some (.int (i + (1 : Int32)))], st, a, h)) := Rn_st1 (k := 4) (v := .int (i + (1 : Int32))) x3 c216_114 rfl rfl rfl rfl
theorem c216_117 : mcode 216 117 = some (.goto (-23), 3, 0, 0, 0) := rfl
theorem r216_117 : Rn 216 (117, [x0, x1, x2, x3, x4], st, a, h) = Rn 216 (94, [x0, x1, x2, x3, x4], st, a, h) := Rn_goto c216_117 rfl
theorem c216_120 : mcode 216 120 = some (.aload_n 0, 1, 0, 0, 0) := rfl
theorem r216_120 : Rn 216 (120, [some (.ref q), x1, x2, x3, x4], st, a, h) = Rn 216 (121, [some (.ref q), x1, x2, x3, x4], .ref q :: st, a, h) := Rn_go c216_120 rfl
theorem c216_121 : mcode 216 121 = some (.getfield 31, 3, 6, 9, 0) := rfl
theorem r216_121 : Rn 216 (121, [x0, x1, x2, x3, x4], .ref q :: st, a, h) = Kv 216 124 [x0, x1, x2, x3, x4] st a h (mgf h q 6 9) := Rn_getf c216_121 rfl
theorem c216_124 : mcode 216 124 = some (.iload_n 1, 1, 0, 0, 0) := rfl
theorem r216_124 : Rn 216 (124, [x0, some (.int i), x2, x3, x4], st, a, h) = Rn 216 (125, [x0, some (.int i), x2, x3, x4], .int i :: st, a, h) := Rn_go c216_124 rfl
theorem c216_125 : mcode 216 125 = some (.iaload, 1, 0, 0, 0) := rfl
theorem r216_125 : Rn 216 (125, [x0, x1, x2, x3, x4], .int i :: .ref q :: st, a, h) = Ki 216 126 [x0, x1, x2, x3, x4] st a h (mld h q i false) := Rn_iald c216_125 rfl
theorem c216_126 : mcode 216 126 = some (.ireturn, 1, 0, 0, 0) := rfl
theorem r216_126 : Rn 216 (126, [x0, x1, x2, x3, x4], [.int i], a, h) = some (some (.int i), a, h) := Rn_ireti c216_126
theorem c217_0 : mcode 217 0 = some (.iload_n 1, 1, 0, 0, 0) := rfl
theorem r217_0 : Rn 217 (0, [x0, some (.int i), x2, x3], st, a, h) = Rn 217 (1, [x0, some (.int i), x2, x3], .int i :: st, a, h) := Rn_go c217_0 rfl
theorem c217_1 : mcode 217 1 = some (.invokestatic 291, 3, 215, 1, 0) := rfl
theorem r217_1 : Rn 217 (1, [x0, x1, x2, x3], [v0], a, h) = Bk 217 4 [x0, x1, x2, x3] [] (Ec 215 [v0] a h) := Rn_call0 c217_1 (fun z => nomatch z) rfl (Nat.le_of_ble_eq_true rfl) rfl rfl (Nat.le_of_ble_eq_true rfl)
theorem c217_4 : mcode 217 4 = some (.ifCond .ne 10, 3, 0, 0, 0) := rfl
theorem r217_4 : Rn 217 (4, [x0, x1, x2, x3], .int i :: st, a, h) = if i = 0 then Rn 217 (7, [x0, x1, x2, x3], st, a, h) else Rn 217 (14, [x0, x1, x2, x3], st, a, h) := Rn_ifcn c217_4 mc_ne rfl rfl
theorem c217_7 : mcode 217 7 = some (.aload_n 0, 1, 0, 0, 0) := rfl
theorem r217_7 : Rn 217 (7, [some (.ref q), x1, x2, x3], st, a, h) = Rn 217 (8, [some (.ref q), x1, x2, x3], .ref q :: st, a, h) := Rn_go c217_7 rfl
theorem c217_8 : mcode 217 8 = some (.ldc 37, 2, 0, 0, -1000001) := rfl
theorem r217_8 : Rn 217 (8, [x0, x1, x2, x3], st, a, h) = Rn 217 (10, [x0, x1, x2, x3], .int (-1000001 : Int32) :: st, a, h) := Rn_go c217_8 rfl
theorem c217_10 : mcode 217 10 = some (.invokevirtual 39, 3, 125, 1, 6) := rfl
theorem r217_10 : Rn 217 (10, [x0, x1, x2, x3], [v0, .ref q], a, h) = if mis h q 6 = true then Bk 217 13 [x0, x1, x2, x3] [] (Ec 125 [.ref q, v0] a h) else none := Rn_call1 c217_10 rfl (Nat.le_of_ble_eq_true rfl) rfl rfl (Nat.le_of_ble_eq_true rfl)
theorem c217_13 : mcode 217 13 = some (.ireturn, 1, 0, 0, 0) := rfl
theorem r217_13 : Rn 217 (13, [x0, x1, x2, x3], [.int i], a, h) = some (some (.int i), a, h) := Rn_ireti c217_13
theorem c217_14 : mcode 217 14 = some (.aload_n 0, 1, 0, 0, 0) := rfl
theorem r217_14 : Rn 217 (14, [some (.ref q), x1, x2, x3], st, a, h) = Rn 217 (15, [some (.ref q), x1, x2, x3], .ref q :: st, a, h) := Rn_go c217_14 rfl
theorem c217_15 : mcode 217 15 = some (.getfield 28, 3, 6, 8, 0) := rfl
theorem r217_15 : Rn 217 (15, [x0, x1, x2, x3], .ref q :: st, a, h) = Kv 217 18 [x0, x1, x2, x3] st a h (mgf h q 6 8) := Rn_getf c217_15 rfl
theorem c217_18 : mcode 217 18 = some (.iload_n 1, 1, 0, 0, 0) := rfl
theorem r217_18 : Rn 217 (18, [x0, some (.int i), x2, x3], st, a, h) = Rn 217 (19, [x0, some (.int i), x2, x3], .int i :: st, a, h) := Rn_go c217_18 rfl
theorem c217_19 : mcode 217 19 = some (.iaload, 1, 0, 0, 0) := rfl
theorem r217_19 : Rn 217 (19, [x0, x1, x2, x3], .int i :: .ref q :: st, a, h) = Ki 217 20 [x0, x1, x2, x3] st a h (mld h q i false) := Rn_iald c217_19 rfl
theorem c217_20 : mcode 217 20 = some (.ifCond .ge 11, 3, 0, 0, 0) := rfl
theorem r217_20 : Rn 217 (20, [x0, x1, x2, x3], .int i :: st, a, h) = if i < 0 then Rn 217 (23, [x0, x1, x2, x3], st, a, h) else Rn 217 (31, [x0, x1, x2, x3], st, a, h) := Rn_ifcn c217_20 mc_ge rfl rfl
theorem c217_23 : mcode 217 23 = some (.aload_n 0, 1, 0, 0, 0) := rfl
theorem r217_23 : Rn 217 (23, [some (.ref q), x1, x2, x3], st, a, h) = Rn 217 (24, [some (.ref q), x1, x2, x3], .ref q :: st, a, h) := Rn_go c217_23 rfl
theorem c217_24 : mcode 217 24 = some (.ldc_w 286, 3, 0, 0, -1000006) := rfl
theorem r217_24 : Rn 217 (24, [x0, x1, x2, x3], st, a, h) = Rn 217 (27, [x0, x1, x2, x3], .int (-1000006 : Int32) :: st, a, h) := Rn_go c217_24 rfl
theorem c217_27 : mcode 217 27 = some (.invokevirtual 39, 3, 125, 1, 6) := rfl
theorem r217_27 : Rn 217 (27, [x0, x1, x2, x3], [v0, .ref q], a, h) = if mis h q 6 = true then Bk 217 30 [x0, x1, x2, x3] [] (Ec 125 [.ref q, v0] a h) else none := Rn_call1 c217_27 rfl (Nat.le_of_ble_eq_true rfl) rfl rfl (Nat.le_of_ble_eq_true rfl)
theorem c217_30 : mcode 217 30 = some (.ireturn, 1, 0, 0, 0) := rfl
theorem r217_30 : Rn 217 (30, [x0, x1, x2, x3], [.int i], a, h) = some (some (.int i), a, h) := Rn_ireti c217_30
theorem c217_31 : mcode 217 31 = some (.iload_n 2, 1, 0, 0, 0) := rfl
theorem r217_31 : Rn 217 (31, [x0, x1, some (.int i), x3], st, a, h) = Rn 217 (32, [x0, x1, some (.int i), x3], .int i :: st, a, h) := Rn_go c217_31 rfl
theorem c217_32 : mcode 217 32 = some (.i2l, 1, 0, 0, 0) := rfl
theorem r217_32 : Rn 217 (32, [x0, x1, x2, x3], .int i :: st, a, h) = Rn 217 (33, [x0, x1, x2, x3], .long i.toInt64 :: st, a, h) := Rn_go c217_32 rfl
theorem c217_33 : mcode 217 33 = some (.lconst 0, 1, 0, 0, 0) := rfl
theorem r217_33 : Rn 217 (33, [x0, x1, x2, x3], st, a, h) = Rn 217 (34, [x0, x1, x2, x3], .long (0 : Int64) :: st, a, h) := Rn_go c217_33 rfl
theorem c217_34 : mcode 217 34 = some (.aload_n 0, 1, 0, 0, 0) := rfl
theorem r217_34 : Rn 217 (34, [some (.ref q), x1, x2, x3], st, a, h) = Rn 217 (35, [some (.ref q), x1, x2, x3], .ref q :: st, a, h) := Rn_go c217_34 rfl
theorem c217_35 : mcode 217 35 = some (.getfield 31, 3, 6, 9, 0) := rfl
theorem r217_35 : Rn 217 (35, [x0, x1, x2, x3], .ref q :: st, a, h) = Kv 217 38 [x0, x1, x2, x3] st a h (mgf h q 6 9) := Rn_getf c217_35 rfl
theorem c217_38 : mcode 217 38 = some (.iload_n 1, 1, 0, 0, 0) := rfl
theorem r217_38 : Rn 217 (38, [x0, some (.int i), x2, x3], st, a, h) = Rn 217 (39, [x0, some (.int i), x2, x3], .int i :: st, a, h) := Rn_go c217_38 rfl
theorem c217_39 : mcode 217 39 = some (.iaload, 1, 0, 0, 0) := rfl
theorem r217_39 : Rn 217 (39, [x0, x1, x2, x3], .int i :: .ref q :: st, a, h) = Ki 217 40 [x0, x1, x2, x3] st a h (mld h q i false) := Rn_iald c217_39 rfl
theorem c217_40 : mcode 217 40 = some (.iconst 1, 1, 0, 0, 0) := rfl
theorem r217_40 : Rn 217 (40, [x0, x1, x2, x3], st, a, h) = Rn 217 (41, [x0, x1, x2, x3], .int (1 : Int32) :: st, a, h) := Rn_go c217_40 rfl
theorem c217_41 : mcode 217 41 = some (.isub, 1, 0, 0, 0) := rfl
theorem r217_41 : Rn 217 (41, [x0, x1, x2, x3], .int j :: .int i :: st, a, h) = Rn 217 (42, [x0, x1, x2, x3], .int (i - j) :: st, a, h) := Rn_go c217_41 rfl
theorem c217_42 : mcode 217 42 = some (.i2l, 1, 0, 0, 0) := rfl
theorem r217_42 : Rn 217 (42, [x0, x1, x2, x3], .int i :: st, a, h) = Rn 217 (43, [x0, x1, x2, x3], .long i.toInt64 :: st, a, h) := Rn_go c217_42 rfl
theorem c217_43 : mcode 217 43 = some (.invokestatic 52, 3, 124, 3, 0) := rfl
theorem r217_43 : Rn 217 (43, [x0, x1, x2, x3], [v2, v1, v0], a, h) = Bk 217 46 [x0, x1, x2, x3] [] (Ec 124 [v0, v1, v2] a h) := Rn_call0 c217_43 (fun z => nomatch z) rfl (Nat.le_of_ble_eq_true rfl) rfl rfl (Nat.le_of_ble_eq_true rfl)
theorem c217_46 : mcode 217 46 = some (.ifCond .ne 10, 3, 0, 0, 0) := rfl
theorem r217_46 : Rn 217 (46, [x0, x1, x2, x3], .int i :: st, a, h) = if i = 0 then Rn 217 (49, [x0, x1, x2, x3], st, a, h) else Rn 217 (56, [x0, x1, x2, x3], st, a, h) := Rn_ifcn c217_46 mc_ne rfl rfl
theorem c217_49 : mcode 217 49 = some (.aload_n 0, 1, 0, 0, 0) := rfl
theorem r217_49 : Rn 217 (49, [some (.ref q), x1, x2, x3], st, a, h) = Rn 217 (50, [some (.ref q), x1, x2, x3], .ref q :: st, a, h) := Rn_go c217_49 rfl
theorem c217_50 : mcode 217 50 = some (.ldc 37, 2, 0, 0, -1000001) := rfl
theorem r217_50 : Rn 217 (50, [x0, x1, x2, x3], st, a, h) = Rn 217 (52, [x0, x1, x2, x3], .int (-1000001 : Int32) :: st, a, h) := Rn_go c217_50 rfl
theorem c217_52 : mcode 217 52 = some (.invokevirtual 39, 3, 125, 1, 6) := rfl
theorem r217_52 : Rn 217 (52, [x0, x1, x2, x3], [v0, .ref q], a, h) = if mis h q 6 = true then Bk 217 55 [x0, x1, x2, x3] [] (Ec 125 [.ref q, v0] a h) else none := Rn_call1 c217_52 rfl (Nat.le_of_ble_eq_true rfl) rfl rfl (Nat.le_of_ble_eq_true rfl)
theorem c217_55 : mcode 217 55 = some (.ireturn, 1, 0, 0, 0) := rfl
theorem r217_55 : Rn 217 (55, [x0, x1, x2, x3], [.int i], a, h) = some (some (.int i), a, h) := Rn_ireti c217_55
theorem c217_56 : mcode 217 56 = some (.aload_n 0, 1, 0, 0, 0) := rfl
theorem r217_56 : Rn 217 (56, [some (.ref q), x1, x2, x3], st, a, h) = Rn 217 (57, [some (.ref q), x1, x2, x3], .ref q :: st, a, h) := Rn_go c217_56 rfl
theorem c217_57 : mcode 217 57 = some (.getfield 34, 3, 6, 10, 0) := rfl
theorem r217_57 : Rn 217 (57, [x0, x1, x2, x3], .ref q :: st, a, h) = Kv 217 60 [x0, x1, x2, x3] st a h (mgf h q 6 10) := Rn_getf c217_57 rfl
theorem c217_60 : mcode 217 60 = some (.bipush 40, 2, 0, 0, 0) := rfl
theorem r217_60 : Rn 217 (60, [x0, x1, x2, x3], st, a, h) = Rn 217 (62, [x0, x1, x2, x3], .int (40 : Int32) :: st, a, h) := Rn_go c217_60 rfl
theorem c217_62 : mcode 217 62 = some (.iload_n 1, 1, 0, 0, 0) := rfl
theorem r217_62 : Rn 217 (62, [x0, some (.int i), x2, x3], st, a, h) = Rn 217 (63, [x0, some (.int i), x2, x3], .int i :: st, a, h) := Rn_go c217_62 rfl
theorem c217_63 : mcode 217 63 = some (.imul, 1, 0, 0, 0) := rfl
theorem r217_63 : Rn 217 (63, [x0, x1, x2, x3], .int j :: .int i :: st, a, h) = Rn 217 (64, [x0, x1, x2, x3], .int (i * j) :: st, a, h) := Rn_go c217_63 rfl
theorem c217_64 : mcode 217 64 = some (.iload_n 2, 1, 0, 0, 0) := rfl
theorem r217_64 : Rn 217 (64, [x0, x1, some (.int i), x3], st, a, h) = Rn 217 (65, [x0, x1, some (.int i), x3], .int i :: st, a, h) := Rn_go c217_64 rfl
theorem c217_65 : mcode 217 65 = some (.iadd, 1, 0, 0, 0) := rfl
theorem r217_65 : Rn 217 (65, [x0, x1, x2, x3], .int j :: .int i :: st, a, h) = Rn 217 (66, [x0, x1, x2, x3], .int (i + j) :: st, a, h) := Rn_go c217_65 rfl
theorem c217_66 : mcode 217 66 = some (.aload_n 0, 1, 0, 0, 0) := rfl
theorem r217_66 : Rn 217 (66, [some (.ref q), x1, x2, x3], st, a, h) = Rn 217 (67, [some (.ref q), x1, x2, x3], .ref q :: st, a, h) := Rn_go c217_66 rfl
theorem c217_67 : mcode 217 67 = some (.getfield 28, 3, 6, 8, 0) := rfl
theorem r217_67 : Rn 217 (67, [x0, x1, x2, x3], .ref q :: st, a, h) = Kv 217 70 [x0, x1, x2, x3] st a h (mgf h q 6 8) := Rn_getf c217_67 rfl
theorem c217_70 : mcode 217 70 = some (.iload_n 1, 1, 0, 0, 0) := rfl
theorem r217_70 : Rn 217 (70, [x0, some (.int i), x2, x3], st, a, h) = Rn 217 (71, [x0, some (.int i), x2, x3], .int i :: st, a, h) := Rn_go c217_70 rfl
theorem c217_71 : mcode 217 71 = some (.iaload, 1, 0, 0, 0) := rfl
theorem r217_71 : Rn 217 (71, [x0, x1, x2, x3], .int i :: .ref q :: st, a, h) = Ki 217 72 [x0, x1, x2, x3] st a h (mld h q i false) := Rn_iald c217_71 rfl
theorem c217_72 : mcode 217 72 = some (.bipush 8, 2, 0, 0, 0) := rfl
theorem r217_72 : Rn 217 (72, [x0, x1, x2, x3], st, a, h) = Rn 217 (74, [x0, x1, x2, x3], .int (8 : Int32) :: st, a, h) := Rn_go c217_72 rfl
theorem c217_74 : mcode 217 74 = some (.if_icmp .ne 8, 3, 0, 0, 0) := rfl
theorem r217_74 : Rn 217 (74, [x0, x1, x2, x3], .int j :: .int i :: st, a, h) = if i = j then Rn 217 (77, [x0, x1, x2, x3], st, a, h) else Rn 217 (82, [x0, x1, x2, x3], st, a, h) := Rn_icmpn c217_74 mc_ne rfl rfl
theorem c217_77 : mcode 217 77 = some (.iload_n 3, 1, 0, 0, 0) := rfl
theorem r217_77 : Rn 217 (77, [x0, x1, x2, some (.int i)], st, a, h) = Rn 217 (78, [x0, x1, x2, some (.int i)], .int i :: st, a, h) := Rn_go c217_77 rfl
theorem c217_78 : mcode 217 78 = some (.i2b, 1, 0, 0, 0) := rfl
theorem r217_78 : Rn 217 (78, [x0, x1, x2, x3], .int i :: st, a, h) = Rn 217 (79, [x0, x1, x2, x3], .int i.toInt8.toInt32 :: st, a, h) := Rn_go c217_78 rfl
theorem c217_79 : mcode 217 79 = some (.goto 20, 3, 0, 0, 0) := rfl
theorem r217_79 : Rn 217 (79, [x0, x1, x2, x3], st, a, h) = Rn 217 (99, [x0, x1, x2, x3], st, a, h) := Rn_goto c217_79 rfl
theorem c217_82 : mcode 217 82 = some (.aload_n 0, 1, 0, 0, 0) := rfl
theorem r217_82 : Rn 217 (82, [some (.ref q), x1, x2, x3], st, a, h) = Rn 217 (83, [some (.ref q), x1, x2, x3], .ref q :: st, a, h) := Rn_go c217_82 rfl
theorem c217_83 : mcode 217 83 = some (.getfield 28, 3, 6, 8, 0) := rfl
theorem r217_83 : Rn 217 (83, [x0, x1, x2, x3], .ref q :: st, a, h) = Kv 217 86 [x0, x1, x2, x3] st a h (mgf h q 6 8) := Rn_getf c217_83 rfl
theorem c217_86 : mcode 217 86 = some (.iload_n 1, 1, 0, 0, 0) := rfl
theorem r217_86 : Rn 217 (86, [x0, some (.int i), x2, x3], st, a, h) = Rn 217 (87, [x0, some (.int i), x2, x3], .int i :: st, a, h) := Rn_go c217_86 rfl
theorem c217_87 : mcode 217 87 = some (.iaload, 1, 0, 0, 0) := rfl
theorem r217_87 : Rn 217 (87, [x0, x1, x2, x3], .int i :: .ref q :: st, a, h) = Ki 217 88 [x0, x1, x2, x3] st a h (mld h q i false) := Rn_iald c217_87 rfl
theorem c217_88 : mcode 217 88 = some (.bipush 16, 2, 0, 0, 0) := rfl
theorem r217_88 : Rn 217 (88, [x0, x1, x2, x3], st, a, h) = Rn 217 (90, [x0, x1, x2, x3], .int (16 : Int32) :: st, a, h) := Rn_go c217_88 rfl
theorem c217_90 : mcode 217 90 = some (.if_icmp .ne 8, 3, 0, 0, 0) := rfl
theorem r217_90 : Rn 217 (90, [x0, x1, x2, x3], .int j :: .int i :: st, a, h) = if i = j then Rn 217 (93, [x0, x1, x2, x3], st, a, h) else Rn 217 (98, [x0, x1, x2, x3], st, a, h) := Rn_icmpn c217_90 mc_ne rfl rfl
theorem c217_93 : mcode 217 93 = some (.iload_n 3, 1, 0, 0, 0) := rfl
theorem r217_93 : Rn 217 (93, [x0, x1, x2, some (.int i)], st, a, h) = Rn 217 (94, [x0, x1, x2, some (.int i)], .int i :: st, a, h) := Rn_go c217_93 rfl
theorem c217_94 : mcode 217 94 = some (.i2s, 1, 0, 0, 0) := rfl
theorem r217_94 : Rn 217 (94, [x0, x1, x2, x3], .int i :: st, a, h) = Rn 217 (95, [x0, x1, x2, x3], .int i.toInt16.toInt32 :: st, a, h) := Rn_go c217_94 rfl
theorem c217_95 : mcode 217 95 = some (.goto 4, 3, 0, 0, 0) := rfl
theorem r217_95 : Rn 217 (95, [x0, x1, x2, x3], st, a, h) = Rn 217 (99, [x0, x1, x2, x3], st, a, h) := Rn_goto c217_95 rfl
theorem c217_98 : mcode 217 98 = some (.iload_n 3, 1, 0, 0, 0) := rfl
theorem r217_98 : Rn 217 (98, [x0, x1, x2, some (.int i)], st, a, h) = Rn 217 (99, [x0, x1, x2, some (.int i)], .int i :: st, a, h) := Rn_go c217_98 rfl
theorem c217_99 : mcode 217 99 = some (.iastore, 1, 0, 0, 0) := rfl
theorem r217_99 : Rn 217 (99, [x0, x1, x2, x3], .int j :: .int i :: .ref q :: st, a, h) = Kh 217 100 [x0, x1, x2, x3] st a (mias h q i j) := Rn_iast c217_99 rfl
theorem c217_100 : mcode 217 100 = some (.iconst 1, 1, 0, 0, 0) := rfl
theorem r217_100 : Rn 217 (100, [x0, x1, x2, x3], st, a, h) = Rn 217 (101, [x0, x1, x2, x3], .int (1 : Int32) :: st, a, h) := Rn_go c217_100 rfl
theorem c217_101 : mcode 217 101 = some (.ireturn, 1, 0, 0, 0) := rfl
theorem r217_101 : Rn 217 (101, [x0, x1, x2, x3], [.int i], a, h) = some (some (.int i), a, h) := Rn_ireti c217_101
theorem c218_0 : mcode 218 0 = some (.iload_n 1, 1, 0, 0, 0) := rfl
theorem r218_0 : Rn 218 (0, [x0, some (.int i), x2, x3, x4, x5, x6, x7, x8, x9], st, a, h) = Rn 218 (1, [x0, some (.int i), x2, x3, x4, x5, x6, x7, x8, x9], .int i :: st, a, h) := Rn_go c218_0 rfl
theorem c218_1 : mcode 218 1 = some (.invokestatic 291, 3, 215, 1, 0) := rfl
theorem r218_1 : Rn 218 (1, [x0, x1, x2, x3, x4, x5, x6, x7, x8, x9], [v0], a, h) = Bk 218 4 [x0, x1, x2, x3, x4, x5, x6, x7, x8, x9] [] (Ec 215 [v0] a h) := Rn_call0 c218_1 (fun z => nomatch z) rfl (Nat.le_of_ble_eq_true rfl) rfl rfl (Nat.le_of_ble_eq_true rfl)
theorem c218_4 : mcode 218 4 = some (.ifCond .eq 10, 3, 0, 0, 0) := rfl
theorem r218_4 : Rn 218 (4, [x0, x1, x2, x3, x4, x5, x6, x7, x8, x9], .int i :: st, a, h) = if i = 0 then Rn 218 (14, [x0, x1, x2, x3, x4, x5, x6, x7, x8, x9], st, a, h) else Rn 218 (7, [x0, x1, x2, x3, x4, x5, x6, x7, x8, x9], st, a, h) := Rn_ifc c218_4 mc_eq rfl rfl
theorem c218_7 : mcode 218 7 = some (.iload_n 3, 1, 0, 0, 0) := rfl
theorem r218_7 : Rn 218 (7, [x0, x1, x2, some (.int i), x4, x5, x6, x7, x8, x9], st, a, h) = Rn 218 (8, [x0, x1, x2, some (.int i), x4, x5, x6, x7, x8, x9], .int i :: st, a, h) := Rn_go c218_7 rfl
theorem c218_8 : mcode 218 8 = some (.invokestatic 291, 3, 215, 1, 0) := rfl
theorem r218_8 : Rn 218 (8, [x0, x1, x2, x3, x4, x5, x6, x7, x8, x9], [v0], a, h) = Bk 218 11 [x0, x1, x2, x3, x4, x5, x6, x7, x8, x9] [] (Ec 215 [v0] a h) := Rn_call0 c218_8 (fun z => nomatch z) rfl (Nat.le_of_ble_eq_true rfl) rfl rfl (Nat.le_of_ble_eq_true rfl)
theorem c218_11 : mcode 218 11 = some (.ifCond .ne 10, 3, 0, 0, 0) := rfl
theorem r218_11 : Rn 218 (11, [x0, x1, x2, x3, x4, x5, x6, x7, x8, x9], .int i :: st, a, h) = if i = 0 then Rn 218 (14, [x0, x1, x2, x3, x4, x5, x6, x7, x8, x9], st, a, h) else Rn 218 (21, [x0, x1, x2, x3, x4, x5, x6, x7, x8, x9], st, a, h) := Rn_ifcn c218_11 mc_ne rfl rfl
theorem c218_14 : mcode 218 14 = some (.aload_n 0, 1, 0, 0, 0) := rfl
theorem r218_14 : Rn 218 (14, [some (.ref q), x1, x2, x3, x4, x5, x6, x7, x8, x9], st, a, h) = Rn 218 (15, [some (.ref q), x1, x2, x3, x4, x5, x6, x7, x8, x9], .ref q :: st, a, h) := Rn_go c218_14 rfl
theorem c218_15 : mcode 218 15 = some (.ldc 37, 2, 0, 0, -1000001) := rfl
theorem r218_15 : Rn 218 (15, [x0, x1, x2, x3, x4, x5, x6, x7, x8, x9], st, a, h) = Rn 218 (17, [x0, x1, x2, x3, x4, x5, x6, x7, x8, x9], .int (-1000001 : Int32) :: st, a, h) := Rn_go c218_15 rfl
theorem c218_17 : mcode 218 17 = some (.invokevirtual 39, 3, 125, 1, 6) := rfl
theorem r218_17 : Rn 218 (17, [x0, x1, x2, x3, x4, x5, x6, x7, x8, x9], [v0, .ref q], a, h) = if mis h q 6 = true then Bk 218 20 [x0, x1, x2, x3, x4, x5, x6, x7, x8, x9] [] (Ec 125 [.ref q, v0] a h) else none := Rn_call1 c218_17 rfl (Nat.le_of_ble_eq_true rfl) rfl rfl (Nat.le_of_ble_eq_true rfl)
theorem c218_20 : mcode 218 20 = some (.ireturn, 1, 0, 0, 0) := rfl
theorem r218_20 : Rn 218 (20, [x0, x1, x2, x3, x4, x5, x6, x7, x8, x9], [.int i], a, h) = some (some (.int i), a, h) := Rn_ireti c218_20
theorem c218_21 : mcode 218 21 = some (.aload_n 0, 1, 0, 0, 0) := rfl
theorem r218_21 : Rn 218 (21, [some (.ref q), x1, x2, x3, x4, x5, x6, x7, x8, x9], st, a, h) = Rn 218 (22, [some (.ref q), x1, x2, x3, x4, x5, x6, x7, x8, x9], .ref q :: st, a, h) := Rn_go c218_21 rfl
theorem c218_22 : mcode 218 22 = some (.getfield 28, 3, 6, 8, 0) := rfl
theorem r218_22 : Rn 218 (22, [x0, x1, x2, x3, x4, x5, x6, x7, x8, x9], .ref q :: st, a, h) = Kv 218 25 [x0, x1, x2, x3, x4, x5, x6, x7, x8, x9] st a h (mgf h q 6 8) := Rn_getf c218_22 rfl
theorem c218_25 : mcode 218 25 = some (.iload_n 1, 1, 0, 0, 0) := rfl
theorem r218_25 : Rn 218 (25, [x0, some (.int i), x2, x3, x4, x5, x6, x7, x8, x9], st, a, h) = Rn 218 (26, [x0, some (.int i), x2, x3, x4, x5, x6, x7, x8, x9], .int i :: st, a, h) := Rn_go c218_25 rfl
theorem c218_26 : mcode 218 26 = some (.iaload, 1, 0, 0, 0) := rfl
theorem r218_26 : Rn 218 (26, [x0, x1, x2, x3, x4, x5, x6, x7, x8, x9], .int i :: .ref q :: st, a, h) = Ki 218 27 [x0, x1, x2, x3, x4, x5, x6, x7, x8, x9] st a h (mld h q i false) := Rn_iald c218_26 rfl
theorem c218_27 : mcode 218 27 = some (.ifCond .lt 12, 3, 0, 0, 0) := rfl
theorem r218_27 : Rn 218 (27, [x0, x1, x2, x3, x4, x5, x6, x7, x8, x9], .int i :: st, a, h) = if i < 0 then Rn 218 (39, [x0, x1, x2, x3, x4, x5, x6, x7, x8, x9], st, a, h) else Rn 218 (30, [x0, x1, x2, x3, x4, x5, x6, x7, x8, x9], st, a, h) := Rn_ifc c218_27 mc_lt rfl rfl
theorem c218_30 : mcode 218 30 = some (.aload_n 0, 1, 0, 0, 0) := rfl
theorem r218_30 : Rn 218 (30, [some (.ref q), x1, x2, x3, x4, x5, x6, x7, x8, x9], st, a, h) = Rn 218 (31, [some (.ref q), x1, x2, x3, x4, x5, x6, x7, x8, x9], .ref q :: st, a, h) := Rn_go c218_30 rfl
theorem c218_31 : mcode 218 31 = some (.getfield 28, 3, 6, 8, 0) := rfl
theorem r218_31 : Rn 218 (31, [x0, x1, x2, x3, x4, x5, x6, x7, x8, x9], .ref q :: st, a, h) = Kv 218 34 [x0, x1, x2, x3, x4, x5, x6, x7, x8, x9] st a h (mgf h q 6 8) := Rn_getf c218_31 rfl
theorem c218_34 : mcode 218 34 = some (.iload_n 3, 1, 0, 0, 0) := rfl
theorem r218_34 : Rn 218 (34, [x0, x1, x2, some (.int i), x4, x5, x6, x7, x8, x9], st, a, h) = Rn 218 (35, [x0, x1, x2, some (.int i), x4, x5, x6, x7, x8, x9], .int i :: st, a, h) := Rn_go c218_34 rfl
theorem c218_35 : mcode 218 35 = some (.iaload, 1, 0, 0, 0) := rfl
theorem r218_35 : Rn 218 (35, [x0, x1, x2, x3, x4, x5, x6, x7, x8, x9], .int i :: .ref q :: st, a, h) = Ki 218 36 [x0, x1, x2, x3, x4, x5, x6, x7, x8, x9] st a h (mld h q i false) := Rn_iald c218_35 rfl
theorem c218_36 : mcode 218 36 = some (.ifCond .ge 11, 3, 0, 0, 0) := rfl
theorem r218_36 : Rn 218 (36, [x0, x1, x2, x3, x4, x5, x6, x7, x8, x9], .int i :: st, a, h) = if i < 0 then Rn 218 (39, [x0, x1, x2, x3, x4, x5, x6, x7, x8, x9], st, a, h) else Rn 218 (47, [x0, x1, x2, x3, x4, x5, x6, x7, x8, x9], st, a, h) := Rn_ifcn c218_36 mc_ge rfl rfl
theorem c218_39 : mcode 218 39 = some (.aload_n 0, 1, 0, 0, 0) := rfl
theorem r218_39 : Rn 218 (39, [some (.ref q), x1, x2, x3, x4, x5, x6, x7, x8, x9], st, a, h) = Rn 218 (40, [some (.ref q), x1, x2, x3, x4, x5, x6, x7, x8, x9], .ref q :: st, a, h) := Rn_go c218_39 rfl
theorem c218_40 : mcode 218 40 = some (.ldc_w 286, 3, 0, 0, -1000006) := rfl
theorem r218_40 : Rn 218 (40, [x0, x1, x2, x3, x4, x5, x6, x7, x8, x9], st, a, h) = Rn 218 (43, [x0, x1, x2, x3, x4, x5, x6, x7, x8, x9], .int (-1000006 : Int32) :: st, a, h) := Rn_go c218_40 rfl
theorem c218_43 : mcode 218 43 = some (.invokevirtual 39, 3, 125, 1, 6) := rfl
theorem r218_43 : Rn 218 (43, [x0, x1, x2, x3, x4, x5, x6, x7, x8, x9], [v0, .ref q], a, h) = if mis h q 6 = true then Bk 218 46 [x0, x1, x2, x3, x4, x5, x6, x7, x8, x9] [] (Ec 125 [.ref q, v0] a h) else none := Rn_call1 c218_43 rfl (Nat.le_of_ble_eq_true rfl) rfl rfl (Nat.le_of_ble_eq_true rfl)
theorem c218_46 : mcode 218 46 = some (.ireturn, 1, 0, 0, 0) := rfl
theorem r218_46 : Rn 218 (46, [x0, x1, x2, x3, x4, x5, x6, x7, x8, x9], [.int i], a, h) = some (some (.int i), a, h) := Rn_ireti c218_46
theorem c218_47 : mcode 218 47 = some (.aload_n 0, 1, 0, 0, 0) := rfl
theorem r218_47 : Rn 218 (47, [some (.ref q), x1, x2, x3, x4, x5, x6, x7, x8, x9], st, a, h) = Rn 218 (48, [some (.ref q), x1, x2, x3, x4, x5, x6, x7, x8, x9], .ref q :: st, a, h) := Rn_go c218_47 rfl
theorem c218_48 : mcode 218 48 = some (.getfield 28, 3, 6, 8, 0) := rfl
theorem r218_48 : Rn 218 (48, [x0, x1, x2, x3, x4, x5, x6, x7, x8, x9], .ref q :: st, a, h) = Kv 218 51 [x0, x1, x2, x3, x4, x5, x6, x7, x8, x9] st a h (mgf h q 6 8) := Rn_getf c218_48 rfl
theorem c218_51 : mcode 218 51 = some (.iload_n 1, 1, 0, 0, 0) := rfl
theorem r218_51 : Rn 218 (51, [x0, some (.int i), x2, x3, x4, x5, x6, x7, x8, x9], st, a, h) = Rn 218 (52, [x0, some (.int i), x2, x3, x4, x5, x6, x7, x8, x9], .int i :: st, a, h) := Rn_go c218_51 rfl
theorem c218_52 : mcode 218 52 = some (.iaload, 1, 0, 0, 0) := rfl
theorem r218_52 : Rn 218 (52, [x0, x1, x2, x3, x4, x5, x6, x7, x8, x9], .int i :: .ref q :: st, a, h) = Ki 218 53 [x0, x1, x2, x3, x4, x5, x6, x7, x8, x9] st a h (mld h q i false) := Rn_iald c218_52 rfl
theorem c218_53 : mcode 218 53 = some (.aload_n 0, 1, 0, 0, 0) := rfl
theorem r218_53 : Rn 218 (53, [some (.ref q), x1, x2, x3, x4, x5, x6, x7, x8, x9], st, a, h) = Rn 218 (54, [some (.ref q), x1, x2, x3, x4, x5, x6, x7, x8, x9], .ref q :: st, a, h) := Rn_go c218_53 rfl
theorem c218_54 : mcode 218 54 = some (.getfield 28, 3, 6, 8, 0) := rfl
theorem r218_54 : Rn 218 (54, [x0, x1, x2, x3, x4, x5, x6, x7, x8, x9], .ref q :: st, a, h) = Kv 218 57 [x0, x1, x2, x3, x4, x5, x6, x7, x8, x9] st a h (mgf h q 6 8) := Rn_getf c218_54 rfl
theorem c218_57 : mcode 218 57 = some (.iload_n 3, 1, 0, 0, 0) := rfl
theorem r218_57 : Rn 218 (57, [x0, x1, x2, some (.int i), x4, x5, x6, x7, x8, x9], st, a, h) = Rn 218 (58, [x0, x1, x2, some (.int i), x4, x5, x6, x7, x8, x9], .int i :: st, a, h) := Rn_go c218_57 rfl
theorem c218_58 : mcode 218 58 = some (.iaload, 1, 0, 0, 0) := rfl
theorem r218_58 : Rn 218 (58, [x0, x1, x2, x3, x4, x5, x6, x7, x8, x9], .int i :: .ref q :: st, a, h) = Ki 218 59 [x0, x1, x2, x3, x4, x5, x6, x7, x8, x9] st a h (mld h q i false) := Rn_iald c218_58 rfl
theorem c218_59 : mcode 218 59 = some (.if_icmp .eq 11, 3, 0, 0, 0) := rfl
theorem r218_59 : Rn 218 (59, [x0, x1, x2, x3, x4, x5, x6, x7, x8, x9], .int j :: .int i :: st, a, h) = if i = j then Rn 218 (70, [x0, x1, x2, x3, x4, x5, x6, x7, x8, x9], st, a, h) else Rn 218 (62, [x0, x1, x2, x3, x4, x5, x6, x7, x8, x9], st, a, h) := Rn_icmp c218_59 mc_eq rfl rfl
theorem c218_62 : mcode 218 62 = some (.aload_n 0, 1, 0, 0, 0) := rfl
theorem r218_62 : Rn 218 (62, [some (.ref q), x1, x2, x3, x4, x5, x6, x7, x8, x9], st, a, h) = Rn 218 (63, [some (.ref q), x1, x2, x3, x4, x5, x6, x7, x8, x9], .ref q :: st, a, h) := Rn_go c218_62 rfl
theorem c218_63 : mcode 218 63 = some (.ldc_w 290, 3, 0, 0, -1000003) := rfl
theorem r218_63 : Rn 218 (63, [x0, x1, x2, x3, x4, x5, x6, x7, x8, x9], st, a, h) = Rn 218 (66, [x0, x1, x2, x3, x4, x5, x6, x7, x8, x9], .int (-1000003 : Int32) :: st, a, h) := Rn_go c218_63 rfl
theorem c218_66 : mcode 218 66 = some (.invokevirtual 39, 3, 125, 1, 6) := rfl
theorem r218_66 : Rn 218 (66, [x0, x1, x2, x3, x4, x5, x6, x7, x8, x9], [v0, .ref q], a, h) = if mis h q 6 = true then Bk 218 69 [x0, x1, x2, x3, x4, x5, x6, x7, x8, x9] [] (Ec 125 [.ref q, v0] a h) else none := Rn_call1 c218_66 rfl (Nat.le_of_ble_eq_true rfl) rfl rfl (Nat.le_of_ble_eq_true rfl)
theorem c218_69 : mcode 218 69 = some (.ireturn, 1, 0, 0, 0) := rfl
theorem r218_69 : Rn 218 (69, [x0, x1, x2, x3, x4, x5, x6, x7, x8, x9], [.int i], a, h) = some (some (.int i), a, h) := Rn_ireti c218_69
theorem c218_70 : mcode 218 70 = some (.iload_n 2, 1, 0, 0, 0) := rfl
theorem r218_70 : Rn 218 (70, [x0, x1, some (.int i), x3, x4, x5, x6, x7, x8, x9], st, a, h) = Rn 218 (71, [x0, x1, some (.int i), x3, x4, x5, x6, x7, x8, x9], .int i :: st, a, h) := Rn_go c218_70 rfl
theorem c218_71 : mcode 218 71 = some (.ifCond .lt 40, 3, 0, 0, 0) := rfl
theorem r218_71 : Rn 218 (71, [x0, x1, x2, x3, x4, x5, x6, x7, x8, x9], .int i :: st, a, h) = if i < 0 then Rn 218 (111, [x0, x1, x2, x3, x4, x5, x6, x7, x8, x9], st, a, h) else Rn 218 (74, [x0, x1, x2, x3, x4, x5, x6, x7, x8, x9], st, a, h) := Rn_ifc c218_71 mc_lt rfl rfl
theorem c218_74 : mcode 218 74 = some (.iload 4, 2, 0, 0, 0) := rfl
theorem r218_74 : Rn 218 (74, [x0, x1, x2, x3, some (.int i), x5, x6, x7, x8, x9], st, a, h) = Rn 218 (76, [x0, x1, x2, x3, some (.int i), x5, x6, x7, x8, x9], .int i :: st, a, h) := Rn_go c218_74 rfl
theorem c218_76 : mcode 218 76 = some (.ifCond .lt 35, 3, 0, 0, 0) := rfl
theorem r218_76 : Rn 218 (76, [x0, x1, x2, x3, x4, x5, x6, x7, x8, x9], .int i :: st, a, h) = if i < 0 then Rn 218 (111, [x0, x1, x2, x3, x4, x5, x6, x7, x8, x9], st, a, h) else Rn 218 (79, [x0, x1, x2, x3, x4, x5, x6, x7, x8, x9], st, a, h) := Rn_ifc c218_76 mc_lt rfl rfl
theorem c218_79 : mcode 218 79 = some (.iload 5, 2, 0, 0, 0) := rfl
theorem r218_79 : Rn 218 (79, [x0, x1, x2, x3, x4, some (.int i), x6, x7, x8, x9], st, a, h) = Rn 218 (81, [x0, x1, x2, x3, x4, some (.int i), x6, x7, x8, x9], .int i :: st, a, h) := Rn_go c218_79 rfl
theorem c218_81 : mcode 218 81 = some (.ifCond .lt 30, 3, 0, 0, 0) := rfl
theorem r218_81 : Rn 218 (81, [x0, x1, x2, x3, x4, x5, x6, x7, x8, x9], .int i :: st, a, h) = if i < 0 then Rn 218 (111, [x0, x1, x2, x3, x4, x5, x6, x7, x8, x9], st, a, h) else Rn 218 (84, [x0, x1, x2, x3, x4, x5, x6, x7, x8, x9], st, a, h) := Rn_ifc c218_81 mc_lt rfl rfl
theorem c218_84 : mcode 218 84 = some (.iload 5, 2, 0, 0, 0) := rfl
theorem r218_84 : Rn 218 (84, [x0, x1, x2, x3, x4, some (.int i), x6, x7, x8, x9], st, a, h) = Rn 218 (86, [x0, x1, x2, x3, x4, some (.int i), x6, x7, x8, x9], .int i :: st, a, h) := Rn_go c218_84 rfl
theorem c218_86 : mcode 218 86 = some (.aload_n 0, 1, 0, 0, 0) := rfl
theorem r218_86 : Rn 218 (86, [some (.ref q), x1, x2, x3, x4, x5, x6, x7, x8, x9], st, a, h) = Rn 218 (87, [some (.ref q), x1, x2, x3, x4, x5, x6, x7, x8, x9], .ref q :: st, a, h) := Rn_go c218_86 rfl
theorem c218_87 : mcode 218 87 = some (.getfield 31, 3, 6, 9, 0) := rfl
theorem r218_87 : Rn 218 (87, [x0, x1, x2, x3, x4, x5, x6, x7, x8, x9], .ref q :: st, a, h) = Kv 218 90 [x0, x1, x2, x3, x4, x5, x6, x7, x8, x9] st a h (mgf h q 6 9) := Rn_getf c218_87 rfl
theorem c218_90 : mcode 218 90 = some (.iload_n 1, 1, 0, 0, 0) := rfl
theorem r218_90 : Rn 218 (90, [x0, some (.int i), x2, x3, x4, x5, x6, x7, x8, x9], st, a, h) = Rn 218 (91, [x0, some (.int i), x2, x3, x4, x5, x6, x7, x8, x9], .int i :: st, a, h) := Rn_go c218_90 rfl
theorem c218_91 : mcode 218 91 = some (.iaload, 1, 0, 0, 0) := rfl
theorem r218_91 : Rn 218 (91, [x0, x1, x2, x3, x4, x5, x6, x7, x8, x9], .int i :: .ref q :: st, a, h) = Ki 218 92 [x0, x1, x2, x3, x4, x5, x6, x7, x8, x9] st a h (mld h q i false) := Rn_iald c218_91 rfl
theorem c218_92 : mcode 218 92 = some (.iload_n 2, 1, 0, 0, 0) := rfl
theorem r218_92 : Rn 218 (92, [x0, x1, some (.int i), x3, x4, x5, x6, x7, x8, x9], st, a, h) = Rn 218 (93, [x0, x1, some (.int i), x3, x4, x5, x6, x7, x8, x9], .int i :: st, a, h) := Rn_go c218_92 rfl
theorem c218_93 : mcode 218 93 = some (.isub, 1, 0, 0, 0) := rfl
theorem r218_93 : Rn 218 (93, [x0, x1, x2, x3, x4, x5, x6, x7, x8, x9], .int j :: .int i :: st, a, h) = Rn 218 (94, [x0, x1, x2, x3, x4, x5, x6, x7, x8, x9], .int (i - j) :: st, a, h) := Rn_go c218_93 rfl
theorem c218_94 : mcode 218 94 = some (.if_icmp .gt 17, 3, 0, 0, 0) := rfl
theorem r218_94 : Rn 218 (94, [x0, x1, x2, x3, x4, x5, x6, x7, x8, x9], .int j :: .int i :: st, a, h) = if j < i then Rn 218 (111, [x0, x1, x2, x3, x4, x5, x6, x7, x8, x9], st, a, h) else Rn 218 (97, [x0, x1, x2, x3, x4, x5, x6, x7, x8, x9], st, a, h) := Rn_icmp c218_94 mc_gt rfl rfl
theorem c218_97 : mcode 218 97 = some (.iload 5, 2, 0, 0, 0) := rfl
theorem r218_97 : Rn 218 (97, [x0, x1, x2, x3, x4, some (.int i), x6, x7, x8, x9], st, a, h) = Rn 218 (99, [x0, x1, x2, x3, x4, some (.int i), x6, x7, x8, x9], .int i :: st, a, h) := Rn_go c218_97 rfl
theorem c218_99 : mcode 218 99 = some (.aload_n 0, 1, 0, 0, 0) := rfl
theorem r218_99 : Rn 218 (99, [some (.ref q), x1, x2, x3, x4, x5, x6, x7, x8, x9], st, a, h) = Rn 218 (100, [some (.ref q), x1, x2, x3, x4, x5, x6, x7, x8, x9], .ref q :: st, a, h) := Rn_go c218_99 rfl
theorem c218_100 : mcode 218 100 = some (.getfield 31, 3, 6, 9, 0) := rfl
theorem r218_100 : Rn 218 (100, [x0, x1, x2, x3, x4, x5, x6, x7, x8, x9], .ref q :: st, a, h) = Kv 218 103 [x0, x1, x2, x3, x4, x5, x6, x7, x8, x9] st a h (mgf h q 6 9) := Rn_getf c218_100 rfl
theorem c218_103 : mcode 218 103 = some (.iload_n 3, 1, 0, 0, 0) := rfl
theorem r218_103 : Rn 218 (103, [x0, x1, x2, some (.int i), x4, x5, x6, x7, x8, x9], st, a, h) = Rn 218 (104, [x0, x1, x2, some (.int i), x4, x5, x6, x7, x8, x9], .int i :: st, a, h) := Rn_go c218_103 rfl
theorem c218_104 : mcode 218 104 = some (.iaload, 1, 0, 0, 0) := rfl
theorem r218_104 : Rn 218 (104, [x0, x1, x2, x3, x4, x5, x6, x7, x8, x9], .int i :: .ref q :: st, a, h) = Ki 218 105 [x0, x1, x2, x3, x4, x5, x6, x7, x8, x9] st a h (mld h q i false) := Rn_iald c218_104 rfl
theorem c218_105 : mcode 218 105 = some (.iload 4, 2, 0, 0, 0) := rfl
theorem r218_105 : Rn 218 (105, [x0, x1, x2, x3, some (.int i), x5, x6, x7, x8, x9], st, a, h) = Rn 218 (107, [x0, x1, x2, x3, some (.int i), x5, x6, x7, x8, x9], .int i :: st, a, h) := Rn_go c218_105 rfl
theorem c218_107 : mcode 218 107 = some (.isub, 1, 0, 0, 0) := rfl
theorem r218_107 : Rn 218 (107, [x0, x1, x2, x3, x4, x5, x6, x7, x8, x9], .int j :: .int i :: st, a, h) = Rn 218 (108, [x0, x1, x2, x3, x4, x5, x6, x7, x8, x9], .int (i - j) :: st, a, h) := Rn_go c218_107 rfl
theorem c218_108 : mcode 218 108 = some (.if_icmp .le 10, 3, 0, 0, 0) := rfl
theorem r218_108 : Rn 218 (108, [x0, x1, x2, x3, x4, x5, x6, x7, x8, x9], .int j :: .int i :: st, a, h) = if j < i then Rn 218 (111, [x0, x1, x2, x3, x4, x5, x6, x7, x8, x9], st, a, h) else Rn 218 (118, [x0, x1, x2, x3, x4, x5, x6, x7, x8, x9], st, a, h) := Rn_icmpn c218_108 mc_le rfl rfl
theorem c218_111 : mcode 218 111 = some (.aload_n 0, 1, 0, 0, 0) := rfl
theorem r218_111 : Rn 218 (111, [some (.ref q), x1, x2, x3, x4, x5, x6, x7, x8, x9], st, a, h) = Rn 218 (112, [some (.ref q), x1, x2, x3, x4, x5, x6, x7, x8, x9], .ref q :: st, a, h) := Rn_go c218_111 rfl
theorem c218_112 : mcode 218 112 = some (.ldc 37, 2, 0, 0, -1000001) := rfl
theorem r218_112 : Rn 218 (112, [x0, x1, x2, x3, x4, x5, x6, x7, x8, x9], st, a, h) = Rn 218 (114, [x0, x1, x2, x3, x4, x5, x6, x7, x8, x9], .int (-1000001 : Int32) :: st, a, h) := Rn_go c218_112 rfl
theorem c218_114 : mcode 218 114 = some (.invokevirtual 39, 3, 125, 1, 6) := rfl
theorem r218_114 : Rn 218 (114, [x0, x1, x2, x3, x4, x5, x6, x7, x8, x9], [v0, .ref q], a, h) = if mis h q 6 = true then Bk 218 117 [x0, x1, x2, x3, x4, x5, x6, x7, x8, x9] [] (Ec 125 [.ref q, v0] a h) else none := Rn_call1 c218_114 rfl (Nat.le_of_ble_eq_true rfl) rfl rfl (Nat.le_of_ble_eq_true rfl)
theorem c218_117 : mcode 218 117 = some (.ireturn, 1, 0, 0, 0) := rfl
theorem r218_117 : Rn 218 (117, [x0, x1, x2, x3, x4, x5, x6, x7, x8, x9], [.int i], a, h) = some (some (.int i), a, h) := Rn_ireti c218_117
theorem c218_118 : mcode 218 118 = some (.bipush 40, 2, 0, 0, 0) := rfl
theorem r218_118 : Rn 218 (118, [x0, x1, x2, x3, x4, x5, x6, x7, x8, x9], st, a, h) = Rn 218 (120, [x0, x1, x2, x3, x4, x5, x6, x7, x8, x9], .int (40 : Int32) :: st, a, h) := Rn_go c218_118 rfl
theorem c218_120 : mcode 218 120 = some (.iload_n 1, 1, 0, 0, 0) := rfl
theorem r218_120 : Rn 218 (120, [x0, some (.int i), x2, x3, x4, x5, x6, x7, x8, x9], st, a, h) = Rn 218 (121, [x0, some (.int i), x2, x3, x4, x5, x6, x7, x8, x9], .int i :: st, a, h) := Rn_go c218_120 rfl
theorem c218_121 : mcode 218 121 = some (.imul, 1, 0, 0, 0) := rfl
theorem r218_121 : Rn 218 (121, [x0, x1, x2, x3, x4, x5, x6, x7, x8, x9], .int j :: .int i :: st, a, h) = Rn 218 (122, [x0, x1, x2, x3, x4, x5, x6, x7, x8, x9], .int (i * j) :: st, a, h) := Rn_go c218_121 rfl
theorem c218_122 : mcode 218 122 = some (.iload_n 2, 1, 0, 0, 0) := rfl
theorem r218_122 : Rn 218 (122, [x0, x1, some (.int i), x3, x4, x5, x6, x7, x8, x9], st, a, h) = Rn 218 (123, [x0, x1, some (.int i), x3, x4, x5, x6, x7, x8, x9], .int i :: st, a, h) := Rn_go c218_122 rfl
theorem c218_123 : mcode 218 123 = some (.iadd, 1, 0, 0, 0) := rfl
theorem r218_123 : Rn 218 (123, [x0, x1, x2, x3, x4, x5, x6, x7, x8, x9], .int j :: .int i :: st, a, h) = Rn 218 (124, [x0, x1, x2, x3, x4, x5, x6, x7, x8, x9], .int (i + j) :: st, a, h) := Rn_go c218_123 rfl
theorem c218_124 : mcode 218 124 = some (.istore 6, 2, 0, 0, 0) := rfl
theorem r218_124 : Rn 218 (124, [x0, x1, x2, x3, x4, x5, x6, x7, x8, x9], .int i :: st, a, h) = Nl x5 (Rn 218 (126, [x0, x1, x2, x3, x4, x5, some (.int i), x7, x8, x9], st, a, h)) := Rn_st1 (k := 6) (v := .int i) x5 c218_124 rfl rfl rfl rfl
theorem c218_126 : mcode 218 126 = some (.bipush 40, 2, 0, 0, 0) := rfl
theorem r218_126 : Rn 218 (126, [x0, x1, x2, x3, x4, x5, x6, x7, x8, x9], st, a, h) = Rn 218 (128, [x0, x1, x2, x3, x4, x5, x6, x7, x8, x9], .int (40 : Int32) :: st, a, h) := Rn_go c218_126 rfl
theorem c218_128 : mcode 218 128 = some (.iload_n 3, 1, 0, 0, 0) := rfl
theorem r218_128 : Rn 218 (128, [x0, x1, x2, some (.int i), x4, x5, x6, x7, x8, x9], st, a, h) = Rn 218 (129, [x0, x1, x2, some (.int i), x4, x5, x6, x7, x8, x9], .int i :: st, a, h) := Rn_go c218_128 rfl
theorem c218_129 : mcode 218 129 = some (.imul, 1, 0, 0, 0) := rfl
theorem r218_129 : Rn 218 (129, [x0, x1, x2, x3, x4, x5, x6, x7, x8, x9], .int j :: .int i :: st, a, h) = Rn 218 (130, [x0, x1, x2, x3, x4, x5, x6, x7, x8, x9], .int (i * j) :: st, a, h) := Rn_go c218_129 rfl
theorem c218_130 : mcode 218 130 = some (.iload 4, 2, 0, 0, 0) := rfl
theorem r218_130 : Rn 218 (130, [x0, x1, x2, x3, some (.int i), x5, x6, x7, x8, x9], st, a, h) = Rn 218 (132, [x0, x1, x2, x3, some (.int i), x5, x6, x7, x8, x9], .int i :: st, a, h) := Rn_go c218_130 rfl
theorem c218_132 : mcode 218 132 = some (.iadd, 1, 0, 0, 0) := rfl
theorem r218_132 : Rn 218 (132, [x0, x1, x2, x3, x4, x5, x6, x7, x8, x9], .int j :: .int i :: st, a, h) = Rn 218 (133, [x0, x1, x2, x3, x4, x5, x6, x7, x8, x9], .int (i + j) :: st, a, h) := Rn_go c218_132 rfl
theorem c218_133 : mcode 218 133 = some (.istore 7, 2, 0, 0, 0) := rfl
theorem r218_133 : Rn 218 (133, [x0, x1, x2, x3, x4, x5, x6, x7, x8, x9], .int i :: st, a, h) = Nl x6 (Rn 218 (135, [x0, x1, x2, x3, x4, x5, x6, some (.int i), x8, x9], st, a, h)) := Rn_st1 (k := 7) (v := .int i) x6 c218_133 rfl rfl rfl rfl
theorem c218_135 : mcode 218 135 = some (.iconst 0, 1, 0, 0, 0) := rfl
theorem r218_135 : Rn 218 (135, [x0, x1, x2, x3, x4, x5, x6, x7, x8, x9], st, a, h) = Rn 218 (136, [x0, x1, x2, x3, x4, x5, x6, x7, x8, x9], .int (0 : Int32) :: st, a, h) := Rn_go c218_135 rfl
theorem c218_136 : mcode 218 136 = some (.istore 8, 2, 0, 0, 0) := rfl
theorem r218_136 : Rn 218 (136, [x0, x1, x2, x3, x4, x5, x6, x7, x8, x9], .int i :: st, a, h) = Nl x7 (Rn 218 (138, [x0, x1, x2, x3, x4, x5, x6, x7, some (.int i), x9], st, a, h)) := Rn_st1 (k := 8) (v := .int i) x7 c218_136 rfl rfl rfl rfl
theorem c218_138 : mcode 218 138 = some (.iload 8, 2, 0, 0, 0) := rfl
theorem r218_138 : Rn 218 (138, [x0, x1, x2, x3, x4, x5, x6, x7, some (.int i), x9], st, a, h) = Rn 218 (140, [x0, x1, x2, x3, x4, x5, x6, x7, some (.int i), x9], .int i :: st, a, h) := Rn_go c218_138 rfl
theorem c218_140 : mcode 218 140 = some (.iload 5, 2, 0, 0, 0) := rfl
theorem r218_140 : Rn 218 (140, [x0, x1, x2, x3, x4, some (.int i), x6, x7, x8, x9], st, a, h) = Rn 218 (142, [x0, x1, x2, x3, x4, some (.int i), x6, x7, x8, x9], .int i :: st, a, h) := Rn_go c218_140 rfl
theorem c218_142 : mcode 218 142 = some (.if_icmp .ge 50, 3, 0, 0, 0) := rfl
theorem r218_142 : Rn 218 (142, [x0, x1, x2, x3, x4, x5, x6, x7, x8, x9], .int j :: .int i :: st, a, h) = if i < j then Rn 218 (145, [x0, x1, x2, x3, x4, x5, x6, x7, x8, x9], st, a, h) else Rn 218 (192, [x0, x1, x2, x3, x4, x5, x6, x7, x8, x9], st, a, h) := Rn_icmpn c218_142 mc_ge rfl rfl
theorem c218_145 : mcode 218 145 = some (.iload 6, 2, 0, 0, 0) := rfl
theorem r218_145 : Rn 218 (145, [x0, x1, x2, x3, x4, x5, some (.int i), x7, x8, x9], st, a, h) = Rn 218 (147, [x0, x1, x2, x3, x4, x5, some (.int i), x7, x8, x9], .int i :: st, a, h) := Rn_go c218_145 rfl
theorem c218_147 : mcode 218 147 = some (.iload 7, 2, 0, 0, 0) := rfl
theorem r218_147 : Rn 218 (147, [x0, x1, x2, x3, x4, x5, x6, some (.int i), x8, x9], st, a, h) = Rn 218 (149, [x0, x1, x2, x3, x4, x5, x6, some (.int i), x8, x9], .int i :: st, a, h) := Rn_go c218_147 rfl
theorem c218_149 : mcode 218 149 = some (.if_icmp .ge 13, 3, 0, 0, 0) := rfl
theorem r218_149 : Rn 218 (149, [x0, x1, x2, x3, x4, x5, x6, x7, x8, x9], .int j :: .int i :: st, a, h) = if i < j then Rn 218 (152, [x0, x1, x2, x3, x4, x5, x6, x7, x8, x9], st, a, h) else Rn 218 (162, [x0, x1, x2, x3, x4, x5, x6, x7, x8, x9], st, a, h) := Rn_icmpn c218_149 mc_ge rfl rfl
theorem c218_152 : mcode 218 152 = some (.iload 5, 2, 0, 0, 0) := rfl
theorem r218_152 : Rn 218 (152, [x0, x1, x2, x3, x4, some (.int i), x6, x7, x8, x9], st, a, h) = Rn 218 (154, [x0, x1, x2, x3, x4, some (.int i), x6, x7, x8, x9], .int i :: st, a, h) := Rn_go c218_152 rfl
theorem c218_154 : mcode 218 154 = some (.iconst 1, 1, 0, 0, 0) := rfl
theorem r218_154 : Rn 218 (154, [x0, x1, x2, x3, x4, x5, x6, x7, x8, x9], st, a, h) = Rn 218 (155, [x0, x1, x2, x3, x4, x5, x6, x7, x8, x9], .int (1 : Int32) :: st, a, h) := Rn_go c218_154 rfl
theorem c218_155 : mcode 218 155 = some (.isub, 1, 0, 0, 0) := rfl
theorem r218_155 : Rn 218 (155, [x0, x1, x2, x3, x4, x5, x6, x7, x8, x9], .int j :: .int i :: st, a, h) = Rn 218 (156, [x0, x1, x2, x3, x4, x5, x6, x7, x8, x9], .int (i - j) :: st, a, h) := Rn_go c218_155 rfl
theorem c218_156 : mcode 218 156 = some (.iload 8, 2, 0, 0, 0) := rfl
theorem r218_156 : Rn 218 (156, [x0, x1, x2, x3, x4, x5, x6, x7, some (.int i), x9], st, a, h) = Rn 218 (158, [x0, x1, x2, x3, x4, x5, x6, x7, some (.int i), x9], .int i :: st, a, h) := Rn_go c218_156 rfl
theorem c218_158 : mcode 218 158 = some (.isub, 1, 0, 0, 0) := rfl
theorem r218_158 : Rn 218 (158, [x0, x1, x2, x3, x4, x5, x6, x7, x8, x9], .int j :: .int i :: st, a, h) = Rn 218 (159, [x0, x1, x2, x3, x4, x5, x6, x7, x8, x9], .int (i - j) :: st, a, h) := Rn_go c218_158 rfl
theorem c218_159 : mcode 218 159 = some (.goto 5, 3, 0, 0, 0) := rfl
theorem r218_159 : Rn 218 (159, [x0, x1, x2, x3, x4, x5, x6, x7, x8, x9], st, a, h) = Rn 218 (164, [x0, x1, x2, x3, x4, x5, x6, x7, x8, x9], st, a, h) := Rn_goto c218_159 rfl
theorem c218_162 : mcode 218 162 = some (.iload 8, 2, 0, 0, 0) := rfl
theorem r218_162 : Rn 218 (162, [x0, x1, x2, x3, x4, x5, x6, x7, some (.int i), x9], st, a, h) = Rn 218 (164, [x0, x1, x2, x3, x4, x5, x6, x7, some (.int i), x9], .int i :: st, a, h) := Rn_go c218_162 rfl
theorem c218_164 : mcode 218 164 = some (.istore 9, 2, 0, 0, 0) := rfl
theorem r218_164 : Rn 218 (164, [x0, x1, x2, x3, x4, x5, x6, x7, x8, x9], .int i :: st, a, h) = Nl x8 (Rn 218 (166, [x0, x1, x2, x3, x4, x5, x6, x7, x8, some (.int i)], st, a, h)) := Rn_st1 (k := 9) (v := .int i) x8 c218_164 rfl rfl rfl rfl
theorem c218_166 : mcode 218 166 = some (.aload_n 0, 1, 0, 0, 0) := rfl
theorem r218_166 : Rn 218 (166, [some (.ref q), x1, x2, x3, x4, x5, x6, x7, x8, x9], st, a, h) = Rn 218 (167, [some (.ref q), x1, x2, x3, x4, x5, x6, x7, x8, x9], .ref q :: st, a, h) := Rn_go c218_166 rfl
theorem c218_167 : mcode 218 167 = some (.getfield 34, 3, 6, 10, 0) := rfl
theorem r218_167 : Rn 218 (167, [x0, x1, x2, x3, x4, x5, x6, x7, x8, x9], .ref q :: st, a, h) = Kv 218 170 [x0, x1, x2, x3, x4, x5, x6, x7, x8, x9] st a h (mgf h q 6 10) := Rn_getf c218_167 rfl
theorem c218_170 : mcode 218 170 = some (.iload 7, 2, 0, 0, 0) := rfl
theorem r218_170 : Rn 218 (170, [x0, x1, x2, x3, x4, x5, x6, some (.int i), x8, x9], st, a, h) = Rn 218 (172, [x0, x1, x2, x3, x4, x5, x6, some (.int i), x8, x9], .int i :: st, a, h) := Rn_go c218_170 rfl
theorem c218_172 : mcode 218 172 = some (.iload 9, 2, 0, 0, 0) := rfl
theorem r218_172 : Rn 218 (172, [x0, x1, x2, x3, x4, x5, x6, x7, x8, some (.int i)], st, a, h) = Rn 218 (174, [x0, x1, x2, x3, x4, x5, x6, x7, x8, some (.int i)], .int i :: st, a, h) := Rn_go c218_172 rfl
theorem c218_174 : mcode 218 174 = some (.iadd, 1, 0, 0, 0) := rfl
theorem r218_174 : Rn 218 (174, [x0, x1, x2, x3, x4, x5, x6, x7, x8, x9], .int j :: .int i :: st, a, h) = Rn 218 (175, [x0, x1, x2, x3, x4, x5, x6, x7, x8, x9], .int (i + j) :: st, a, h) := Rn_go c218_174 rfl
theorem c218_175 : mcode 218 175 = some (.aload_n 0, 1, 0, 0, 0) := rfl
theorem r218_175 : Rn 218 (175, [some (.ref q), x1, x2, x3, x4, x5, x6, x7, x8, x9], st, a, h) = Rn 218 (176, [some (.ref q), x1, x2, x3, x4, x5, x6, x7, x8, x9], .ref q :: st, a, h) := Rn_go c218_175 rfl
theorem c218_176 : mcode 218 176 = some (.getfield 34, 3, 6, 10, 0) := rfl
theorem r218_176 : Rn 218 (176, [x0, x1, x2, x3, x4, x5, x6, x7, x8, x9], .ref q :: st, a, h) = Kv 218 179 [x0, x1, x2, x3, x4, x5, x6, x7, x8, x9] st a h (mgf h q 6 10) := Rn_getf c218_176 rfl
theorem c218_179 : mcode 218 179 = some (.iload 6, 2, 0, 0, 0) := rfl
theorem r218_179 : Rn 218 (179, [x0, x1, x2, x3, x4, x5, some (.int i), x7, x8, x9], st, a, h) = Rn 218 (181, [x0, x1, x2, x3, x4, x5, some (.int i), x7, x8, x9], .int i :: st, a, h) := Rn_go c218_179 rfl
theorem c218_181 : mcode 218 181 = some (.iload 9, 2, 0, 0, 0) := rfl
theorem r218_181 : Rn 218 (181, [x0, x1, x2, x3, x4, x5, x6, x7, x8, some (.int i)], st, a, h) = Rn 218 (183, [x0, x1, x2, x3, x4, x5, x6, x7, x8, some (.int i)], .int i :: st, a, h) := Rn_go c218_181 rfl
theorem c218_183 : mcode 218 183 = some (.iadd, 1, 0, 0, 0) := rfl
theorem r218_183 : Rn 218 (183, [x0, x1, x2, x3, x4, x5, x6, x7, x8, x9], .int j :: .int i :: st, a, h) = Rn 218 (184, [x0, x1, x2, x3, x4, x5, x6, x7, x8, x9], .int (i + j) :: st, a, h) := Rn_go c218_183 rfl
theorem c218_184 : mcode 218 184 = some (.iaload, 1, 0, 0, 0) := rfl
theorem r218_184 : Rn 218 (184, [x0, x1, x2, x3, x4, x5, x6, x7, x8, x9], .int i :: .ref q :: st, a, h) = Ki 218 185 [x0, x1, x2, x3, x4, x5, x6, x7, x8, x9] st a h (mld h q i false) := Rn_iald c218_184 rfl
theorem c218_185 : mcode 218 185 = some (.iastore, 1, 0, 0, 0) := rfl
theorem r218_185 : Rn 218 (185, [x0, x1, x2, x3, x4, x5, x6, x7, x8, x9], .int j :: .int i :: .ref q :: st, a, h) = Kh 218 186 [x0, x1, x2, x3, x4, x5, x6, x7, x8, x9] st a (mias h q i j) := Rn_iast c218_185 rfl
theorem c218_186 : mcode 218 186 = some (.iinc 8 1, 3, 0, 0, 0) := rfl
theorem r218_186 : Rn 218 (186, [x0, x1, x2, x3, x4, x5, x6, x7, some (.int i), x9], st, a, h) = Nl x7 (Rn 218 (189, [x0, x1, x2, x3, x4, x5, x6, x7, some (.int (i + (1 : Int32))), x9], st, a, h)) := Rn_st1 (k := 8) (v := .int (i + (1 : Int32))) x7 c218_186 rfl rfl rfl rfl
theorem c218_189 : mcode 218 189 = some (.goto (-51), 3, 0, 0, 0) := rfl
theorem r218_189 : Rn 218 (189, [x0, x1, x2, x3, x4, x5, x6, x7, x8, x9], st, a, h) = Rn 218 (138, [x0, x1, x2, x3, x4, x5, x6, x7, x8, x9], st, a, h) := Rn_goto c218_189 rfl
theorem c218_192 : mcode 218 192 = some (.iload 5, 2, 0, 0, 0) := rfl
theorem r218_192 : Rn 218 (192, [x0, x1, x2, x3, x4, some (.int i), x6, x7, x8, x9], st, a, h) = Rn 218 (194, [x0, x1, x2, x3, x4, some (.int i), x6, x7, x8, x9], .int i :: st, a, h) := Rn_go c218_192 rfl
theorem c218_194 : mcode 218 194 = some (.ireturn, 1, 0, 0, 0) := rfl
theorem r218_194 : Rn 218 (194, [x0, x1, x2, x3, x4, x5, x6, x7, x8, x9], [.int i], a, h) = some (some (.int i), a, h) := Rn_ireti c218_194
theorem c219_0 : mcode 219 0 = some (.iload_n 1, 1, 0, 0, 0) := rfl
theorem r219_0 : Rn 219 (0, [x0, some (.int i)], st, a, h) = Rn 219 (1, [x0, some (.int i)], .int i :: st, a, h) := Rn_go c219_0 rfl
theorem c219_1 : mcode 219 1 = some (.invokestatic 291, 3, 215, 1, 0) := rfl
theorem r219_1 : Rn 219 (1, [x0, x1], [v0], a, h) = Bk 219 4 [x0, x1] [] (Ec 215 [v0] a h) := Rn_call0 c219_1 (fun z => nomatch z) rfl (Nat.le_of_ble_eq_true rfl) rfl rfl (Nat.le_of_ble_eq_true rfl)
theorem c219_4 : mcode 219 4 = some (.ifCond .ne 8, 3, 0, 0, 0) := rfl
theorem r219_4 : Rn 219 (4, [x0, x1], .int i :: st, a, h) = if i = 0 then Rn 219 (7, [x0, x1], st, a, h) else Rn 219 (12, [x0, x1], st, a, h) := Rn_ifcn c219_4 mc_ne rfl rfl
theorem c219_7 : mcode 219 7 = some (.ldc 37, 2, 0, 0, -1000001) := rfl
theorem r219_7 : Rn 219 (7, [x0, x1], st, a, h) = Rn 219 (9, [x0, x1], .int (-1000001 : Int32) :: st, a, h) := Rn_go c219_7 rfl
theorem c219_9 : mcode 219 9 = some (.goto 19, 3, 0, 0, 0) := rfl
theorem r219_9 : Rn 219 (9, [x0, x1], st, a, h) = Rn 219 (28, [x0, x1], st, a, h) := Rn_goto c219_9 rfl
theorem c219_12 : mcode 219 12 = some (.aload_n 0, 1, 0, 0, 0) := rfl
theorem r219_12 : Rn 219 (12, [some (.ref q), x1], st, a, h) = Rn 219 (13, [some (.ref q), x1], .ref q :: st, a, h) := Rn_go c219_12 rfl
theorem c219_13 : mcode 219 13 = some (.getfield 28, 3, 6, 8, 0) := rfl
theorem r219_13 : Rn 219 (13, [x0, x1], .ref q :: st, a, h) = Kv 219 16 [x0, x1] st a h (mgf h q 6 8) := Rn_getf c219_13 rfl
theorem c219_16 : mcode 219 16 = some (.iload_n 1, 1, 0, 0, 0) := rfl
theorem r219_16 : Rn 219 (16, [x0, some (.int i)], st, a, h) = Rn 219 (17, [x0, some (.int i)], .int i :: st, a, h) := Rn_go c219_16 rfl
theorem c219_17 : mcode 219 17 = some (.iaload, 1, 0, 0, 0) := rfl
theorem r219_17 : Rn 219 (17, [x0, x1], .int i :: .ref q :: st, a, h) = Ki 219 18 [x0, x1] st a h (mld h q i false) := Rn_iald c219_17 rfl
theorem c219_18 : mcode 219 18 = some (.ifCond .ge 9, 3, 0, 0, 0) := rfl
theorem r219_18 : Rn 219 (18, [x0, x1], .int i :: st, a, h) = if i < 0 then Rn 219 (21, [x0, x1], st, a, h) else Rn 219 (27, [x0, x1], st, a, h) := Rn_ifcn c219_18 mc_ge rfl rfl
theorem c219_21 : mcode 219 21 = some (.ldc_w 286, 3, 0, 0, -1000006) := rfl
theorem r219_21 : Rn 219 (21, [x0, x1], st, a, h) = Rn 219 (24, [x0, x1], .int (-1000006 : Int32) :: st, a, h) := Rn_go c219_21 rfl
theorem c219_24 : mcode 219 24 = some (.goto 4, 3, 0, 0, 0) := rfl
theorem r219_24 : Rn 219 (24, [x0, x1], st, a, h) = Rn 219 (28, [x0, x1], st, a, h) := Rn_goto c219_24 rfl
theorem c219_27 : mcode 219 27 = some (.iconst 0, 1, 0, 0, 0) := rfl
theorem r219_27 : Rn 219 (27, [x0, x1], st, a, h) = Rn 219 (28, [x0, x1], .int (0 : Int32) :: st, a, h) := Rn_go c219_27 rfl
theorem c219_28 : mcode 219 28 = some (.ireturn, 1, 0, 0, 0) := rfl
theorem r219_28 : Rn 219 (28, [x0, x1], [.int i], a, h) = some (some (.int i), a, h) := Rn_ireti c219_28
theorem c220_0 : mcode 220 0 = some (.aload_n 0, 1, 0, 0, 0) := rfl
theorem r220_0 : Rn 220 (0, [some (.ref q), x1, x2], st, a, h) = Rn 220 (1, [some (.ref q), x1, x2], .ref q :: st, a, h) := Rn_go c220_0 rfl
theorem c220_1 : mcode 220 1 = some (.iload_n 1, 1, 0, 0, 0) := rfl
theorem r220_1 : Rn 220 (1, [x0, some (.int i), x2], st, a, h) = Rn 220 (2, [x0, some (.int i), x2], .int i :: st, a, h) := Rn_go c220_1 rfl
theorem c220_2 : mcode 220 2 = some (.invokevirtual 194, 3, 219, 1, 6) := rfl
theorem r220_2 : Rn 220 (2, [x0, x1, x2], [v0, .ref q], a, h) = if mis h q 6 = true then Bk 220 5 [x0, x1, x2] [] (Ec 219 [.ref q, v0] a h) else none := Rn_call1 c220_2 rfl (Nat.le_of_ble_eq_true rfl) rfl rfl (Nat.le_of_ble_eq_true rfl)
theorem c220_5 : mcode 220 5 = some (.ifCond .eq 13, 3, 0, 0, 0) := rfl
theorem r220_5 : Rn 220 (5, [x0, x1, x2], .int i :: st, a, h) = if i = 0 then Rn 220 (18, [x0, x1, x2], st, a, h) else Rn 220 (8, [x0, x1, x2], st, a, h) := Rn_ifc c220_5 mc_eq rfl rfl
theorem c220_8 : mcode 220 8 = some (.aload_n 0, 1, 0, 0, 0) := rfl
theorem r220_8 : Rn 220 (8, [some (.ref q), x1, x2], st, a, h) = Rn 220 (9, [some (.ref q), x1, x2], .ref q :: st, a, h) := Rn_go c220_8 rfl
theorem c220_9 : mcode 220 9 = some (.aload_n 0, 1, 0, 0, 0) := rfl
theorem r220_9 : Rn 220 (9, [some (.ref q), x1, x2], st, a, h) = Rn 220 (10, [some (.ref q), x1, x2], .ref q :: st, a, h) := Rn_go c220_9 rfl
theorem c220_10 : mcode 220 10 = some (.iload_n 1, 1, 0, 0, 0) := rfl
theorem r220_10 : Rn 220 (10, [x0, some (.int i), x2], st, a, h) = Rn 220 (11, [x0, some (.int i), x2], .int i :: st, a, h) := Rn_go c220_10 rfl
theorem c220_11 : mcode 220 11 = some (.invokevirtual 194, 3, 219, 1, 6) := rfl
theorem r220_11 : Rn 220 (11, [x0, x1, x2], [v0, .ref q, .ref q0], a, h) = if mis h q 6 = true then Bk 220 14 [x0, x1, x2] [.ref q0] (Ec 219 [.ref q, v0] a h) else none := Rn_call1 c220_11 rfl (Nat.le_of_ble_eq_true rfl) rfl rfl (Nat.le_of_ble_eq_true rfl)
theorem c220_14 : mcode 220 14 = some (.invokevirtual 39, 3, 125, 1, 6) := rfl
theorem r220_14 : Rn 220 (14, [x0, x1, x2], [v0, .ref q], a, h) = if mis h q 6 = true then Bk 220 17 [x0, x1, x2] [] (Ec 125 [.ref q, v0] a h) else none := Rn_call1 c220_14 rfl (Nat.le_of_ble_eq_true rfl) rfl rfl (Nat.le_of_ble_eq_true rfl)
theorem c220_17 : mcode 220 17 = some (.ireturn, 1, 0, 0, 0) := rfl
theorem r220_17 : Rn 220 (17, [x0, x1, x2], [.int i], a, h) = some (some (.int i), a, h) := Rn_ireti c220_17
theorem c220_18 : mcode 220 18 = some (.iconst 0, 1, 0, 0, 0) := rfl
theorem r220_18 : Rn 220 (18, [x0, x1, x2], st, a, h) = Rn 220 (19, [x0, x1, x2], .int (0 : Int32) :: st, a, h) := Rn_go c220_18 rfl
theorem c220_19 : mcode 220 19 = some (.istore_n 2, 1, 0, 0, 0) := rfl
theorem r220_19 : Rn 220 (19, [x0, x1, x2], .int i :: st, a, h) = Nl x1 (Rn 220 (20, [x0, x1, some (.int i)], st, a, h)) := Rn_st1 (k := 2) (v := .int i) x1 c220_19 rfl rfl rfl rfl
theorem c220_20 : mcode 220 20 = some (.iload_n 2, 1, 0, 0, 0) := rfl
theorem r220_20 : Rn 220 (20, [x0, x1, some (.int i)], st, a, h) = Rn 220 (21, [x0, x1, some (.int i)], .int i :: st, a, h) := Rn_go c220_20 rfl
theorem c220_21 : mcode 220 21 = some (.aload_n 0, 1, 0, 0, 0) := rfl
theorem r220_21 : Rn 220 (21, [some (.ref q), x1, x2], st, a, h) = Rn 220 (22, [some (.ref q), x1, x2], .ref q :: st, a, h) := Rn_go c220_21 rfl
theorem c220_22 : mcode 220 22 = some (.getfield 31, 3, 6, 9, 0) := rfl
theorem r220_22 : Rn 220 (22, [x0, x1, x2], .ref q :: st, a, h) = Kv 220 25 [x0, x1, x2] st a h (mgf h q 6 9) := Rn_getf c220_22 rfl
theorem c220_25 : mcode 220 25 = some (.iload_n 1, 1, 0, 0, 0) := rfl
theorem r220_25 : Rn 220 (25, [x0, some (.int i), x2], st, a, h) = Rn 220 (26, [x0, some (.int i), x2], .int i :: st, a, h) := Rn_go c220_25 rfl
theorem c220_26 : mcode 220 26 = some (.iaload, 1, 0, 0, 0) := rfl
theorem r220_26 : Rn 220 (26, [x0, x1, x2], .int i :: .ref q :: st, a, h) = Ki 220 27 [x0, x1, x2] st a h (mld h q i false) := Rn_iald c220_26 rfl
theorem c220_27 : mcode 220 27 = some (.if_icmp .ge 60, 3, 0, 0, 0) := rfl
theorem r220_27 : Rn 220 (27, [x0, x1, x2], .int j :: .int i :: st, a, h) = if i < j then Rn 220 (30, [x0, x1, x2], st, a, h) else Rn 220 (87, [x0, x1, x2], st, a, h) := Rn_icmpn c220_27 mc_ge rfl rfl
theorem c220_30 : mcode 220 30 = some (.aload_n 0, 1, 0, 0, 0) := rfl
theorem r220_30 : Rn 220 (30, [some (.ref q), x1, x2], st, a, h) = Rn 220 (31, [some (.ref q), x1, x2], .ref q :: st, a, h) := Rn_go c220_30 rfl
theorem c220_31 : mcode 220 31 = some (.iload_n 2, 1, 0, 0, 0) := rfl
theorem r220_31 : Rn 220 (31, [x0, x1, some (.int i)], st, a, h) = Rn 220 (32, [x0, x1, some (.int i)], .int i :: st, a, h) := Rn_go c220_31 rfl
theorem c220_32 : mcode 220 32 = some (.invokevirtual 98, 3, 130, 1, 6) := rfl
theorem r220_32 : Rn 220 (32, [x0, x1, x2], [v0, .ref q], a, h) = if mis h q 6 = true then Bk 220 35 [x0, x1, x2] [] (Ec 130 [.ref q, v0] a h) else none := Rn_call1 c220_32 rfl (Nat.le_of_ble_eq_true rfl) rfl rfl (Nat.le_of_ble_eq_true rfl)
theorem c220_35 : mcode 220 35 = some (.ifCond .eq 52, 3, 0, 0, 0) := rfl
theorem r220_35 : Rn 220 (35, [x0, x1, x2], .int i :: st, a, h) = if i = 0 then Rn 220 (87, [x0, x1, x2], st, a, h) else Rn 220 (38, [x0, x1, x2], st, a, h) := Rn_ifc c220_35 mc_eq rfl rfl
theorem c220_38 : mcode 220 38 = some (.aload_n 0, 1, 0, 0, 0) := rfl
theorem r220_38 : Rn 220 (38, [some (.ref q), x1, x2], st, a, h) = Rn 220 (39, [some (.ref q), x1, x2], .ref q :: st, a, h) := Rn_go c220_38 rfl
theorem c220_39 : mcode 220 39 = some (.getfield 34, 3, 6, 10, 0) := rfl
theorem r220_39 : Rn 220 (39, [x0, x1, x2], .ref q :: st, a, h) = Kv 220 42 [x0, x1, x2] st a h (mgf h q 6 10) := Rn_getf c220_39 rfl
theorem c220_42 : mcode 220 42 = some (.bipush 40, 2, 0, 0, 0) := rfl
theorem r220_42 : Rn 220 (42, [x0, x1, x2], st, a, h) = Rn 220 (44, [x0, x1, x2], .int (40 : Int32) :: st, a, h) := Rn_go c220_42 rfl
theorem c220_44 : mcode 220 44 = some (.iload_n 1, 1, 0, 0, 0) := rfl
theorem r220_44 : Rn 220 (44, [x0, some (.int i), x2], st, a, h) = Rn 220 (45, [x0, some (.int i), x2], .int i :: st, a, h) := Rn_go c220_44 rfl
theorem c220_45 : mcode 220 45 = some (.imul, 1, 0, 0, 0) := rfl
theorem r220_45 : Rn 220 (45, [x0, x1, x2], .int j :: .int i :: st, a, h) = Rn 220 (46, [x0, x1, x2], .int (i * j) :: st, a, h) := Rn_go c220_45 rfl
theorem c220_46 : mcode 220 46 = some (.iload_n 2, 1, 0, 0, 0) := rfl
theorem r220_46 : Rn 220 (46, [x0, x1, some (.int i)], st, a, h) = Rn 220 (47, [x0, x1, some (.int i)], .int i :: st, a, h) := Rn_go c220_46 rfl
theorem c220_47 : mcode 220 47 = some (.iadd, 1, 0, 0, 0) := rfl
theorem r220_47 : Rn 220 (47, [x0, x1, x2], .int j :: .int i :: st, a, h) = Rn 220 (48, [x0, x1, x2], .int (i + j) :: st, a, h) := Rn_go c220_47 rfl
theorem c220_48 : mcode 220 48 = some (.iaload, 1, 0, 0, 0) := rfl
theorem r220_48 : Rn 220 (48, [x0, x1, x2], .int i :: .ref q :: st, a, h) = Ki 220 49 [x0, x1, x2] st a h (mld h q i false) := Rn_iald c220_48 rfl
theorem c220_49 : mcode 220 49 = some (.i2l, 1, 0, 0, 0) := rfl
theorem r220_49 : Rn 220 (49, [x0, x1, x2], .int i :: st, a, h) = Rn 220 (50, [x0, x1, x2], .long i.toInt64 :: st, a, h) := Rn_go c220_49 rfl
theorem c220_50 : mcode 220 50 = some (.lconst 0, 1, 0, 0, 0) := rfl
theorem r220_50 : Rn 220 (50, [x0, x1, x2], st, a, h) = Rn 220 (51, [x0, x1, x2], .long (0 : Int64) :: st, a, h) := Rn_go c220_50 rfl
theorem c220_51 : mcode 220 51 = some (.ldc2_w 50, 3, 0, 0, 999) := rfl
theorem r220_51 : Rn 220 (51, [x0, x1, x2], st, a, h) = Rn 220 (54, [x0, x1, x2], .long (999 : Int64) :: st, a, h) := Rn_go c220_51 rfl
theorem c220_54 : mcode 220 54 = some (.invokestatic 52, 3, 124, 3, 0) := rfl
theorem r220_54 : Rn 220 (54, [x0, x1, x2], [v2, v1, v0], a, h) = Bk 220 57 [x0, x1, x2] [] (Ec 124 [v0, v1, v2] a h) := Rn_call0 c220_54 (fun z => nomatch z) rfl (Nat.le_of_ble_eq_true rfl) rfl rfl (Nat.le_of_ble_eq_true rfl)
theorem c220_57 : mcode 220 57 = some (.ifCond .eq 30, 3, 0, 0, 0) := rfl
theorem r220_57 : Rn 220 (57, [x0, x1, x2], .int i :: st, a, h) = if i = 0 then Rn 220 (87, [x0, x1, x2], st, a, h) else Rn 220 (60, [x0, x1, x2], st, a, h) := Rn_ifc c220_57 mc_eq rfl rfl
theorem c220_60 : mcode 220 60 = some (.aload_n 0, 1, 0, 0, 0) := rfl
theorem r220_60 : Rn 220 (60, [some (.ref q), x1, x2], st, a, h) = Rn 220 (61, [some (.ref q), x1, x2], .ref q :: st, a, h) := Rn_go c220_60 rfl
theorem c220_61 : mcode 220 61 = some (.getfield 7, 3, 6, 0, 0) := rfl
theorem r220_61 : Rn 220 (61, [x0, x1, x2], .ref q :: st, a, h) = Kv 220 64 [x0, x1, x2] st a h (mgf h q 6 0) := Rn_getf c220_61 rfl
theorem c220_64 : mcode 220 64 = some (.iload_n 2, 1, 0, 0, 0) := rfl
theorem r220_64 : Rn 220 (64, [x0, x1, some (.int i)], st, a, h) = Rn 220 (65, [x0, x1, some (.int i)], .int i :: st, a, h) := Rn_go c220_64 rfl
theorem c220_65 : mcode 220 65 = some (.iconst 3, 1, 0, 0, 0) := rfl
theorem r220_65 : Rn 220 (65, [x0, x1, x2], st, a, h) = Rn 220 (66, [x0, x1, x2], .int (3 : Int32) :: st, a, h) := Rn_go c220_65 rfl
theorem c220_66 : mcode 220 66 = some (.invokestatic 79, 3, 131, 2, 0) := rfl
theorem r220_66 : Rn 220 (66, [x0, x1, x2], [v1, v0, .ref q0], a, h) = Bk 220 69 [x0, x1, x2] [.ref q0] (Ec 131 [v0, v1] a h) := Rn_call0 c220_66 (fun z => nomatch z) rfl (Nat.le_of_ble_eq_true rfl) rfl rfl (Nat.le_of_ble_eq_true rfl)
theorem c220_69 : mcode 220 69 = some (.aload_n 0, 1, 0, 0, 0) := rfl
theorem r220_69 : Rn 220 (69, [some (.ref q), x1, x2], st, a, h) = Rn 220 (70, [some (.ref q), x1, x2], .ref q :: st, a, h) := Rn_go c220_69 rfl
theorem c220_70 : mcode 220 70 = some (.getfield 34, 3, 6, 10, 0) := rfl
theorem r220_70 : Rn 220 (70, [x0, x1, x2], .ref q :: st, a, h) = Kv 220 73 [x0, x1, x2] st a h (mgf h q 6 10) := Rn_getf c220_70 rfl
theorem c220_73 : mcode 220 73 = some (.bipush 40, 2, 0, 0, 0) := rfl
theorem r220_73 : Rn 220 (73, [x0, x1, x2], st, a, h) = Rn 220 (75, [x0, x1, x2], .int (40 : Int32) :: st, a, h) := Rn_go c220_73 rfl
theorem c220_75 : mcode 220 75 = some (.iload_n 1, 1, 0, 0, 0) := rfl
theorem r220_75 : Rn 220 (75, [x0, some (.int i), x2], st, a, h) = Rn 220 (76, [x0, some (.int i), x2], .int i :: st, a, h) := Rn_go c220_75 rfl
theorem c220_76 : mcode 220 76 = some (.imul, 1, 0, 0, 0) := rfl
theorem r220_76 : Rn 220 (76, [x0, x1, x2], .int j :: .int i :: st, a, h) = Rn 220 (77, [x0, x1, x2], .int (i * j) :: st, a, h) := Rn_go c220_76 rfl
theorem c220_77 : mcode 220 77 = some (.iload_n 2, 1, 0, 0, 0) := rfl
theorem r220_77 : Rn 220 (77, [x0, x1, some (.int i)], st, a, h) = Rn 220 (78, [x0, x1, some (.int i)], .int i :: st, a, h) := Rn_go c220_77 rfl
theorem c220_78 : mcode 220 78 = some (.iadd, 1, 0, 0, 0) := rfl
theorem r220_78 : Rn 220 (78, [x0, x1, x2], .int j :: .int i :: st, a, h) = Rn 220 (79, [x0, x1, x2], .int (i + j) :: st, a, h) := Rn_go c220_78 rfl
theorem c220_79 : mcode 220 79 = some (.iaload, 1, 0, 0, 0) := rfl
theorem r220_79 : Rn 220 (79, [x0, x1, x2], .int i :: .ref q :: st, a, h) = Ki 220 80 [x0, x1, x2] st a h (mld h q i false) := Rn_iald c220_79 rfl
theorem c220_80 : mcode 220 80 = some (.iastore, 1, 0, 0, 0) := rfl
theorem r220_80 : Rn 220 (80, [x0, x1, x2], .int j :: .int i :: .ref q :: st, a, h) = Kh 220 81 [x0, x1, x2] st a (mias h q i j) := Rn_iast c220_80 rfl
theorem c220_81 : mcode 220 81 = some (.iinc 2 1, 3, 0, 0, 0) := rfl
theorem r220_81 : Rn 220 (81, [x0, x1, some (.int i)], st, a, h) = Nl x1 (Rn 220 (84, [x0, x1, some (.int (i + (1 : Int32)))], st, a, h)) := Rn_st1 (k := 2) (v := .int (i + (1 : Int32))) x1 c220_81 rfl rfl rfl rfl
theorem c220_84 : mcode 220 84 = some (.goto (-64), 3, 0, 0, 0) := rfl
theorem r220_84 : Rn 220 (84, [x0, x1, x2], st, a, h) = Rn 220 (20, [x0, x1, x2], st, a, h) := Rn_goto c220_84 rfl
theorem c220_87 : mcode 220 87 = some (.iload_n 2, 1, 0, 0, 0) := rfl
theorem r220_87 : Rn 220 (87, [x0, x1, some (.int i)], st, a, h) = Rn 220 (88, [x0, x1, some (.int i)], .int i :: st, a, h) := Rn_go c220_87 rfl
theorem c220_88 : mcode 220 88 = some (.ireturn, 1, 0, 0, 0) := rfl
theorem r220_88 : Rn 220 (88, [x0, x1, x2], [.int i], a, h) = some (some (.int i), a, h) := Rn_ireti c220_88
theorem c221_0 : mcode 221 0 = some (.aload_n 0, 1, 0, 0, 0) := rfl
theorem r221_0 : Rn 221 (0, [some (.ref q), x1, x2], st, a, h) = Rn 221 (1, [some (.ref q), x1, x2], .ref q :: st, a, h) := Rn_go c221_0 rfl
theorem c221_1 : mcode 221 1 = some (.iload_n 1, 1, 0, 0, 0) := rfl
theorem r221_1 : Rn 221 (1, [x0, some (.int i), x2], st, a, h) = Rn 221 (2, [x0, some (.int i), x2], .int i :: st, a, h) := Rn_go c221_1 rfl
theorem c221_2 : mcode 221 2 = some (.invokevirtual 194, 3, 219, 1, 6) := rfl
theorem r221_2 : Rn 221 (2, [x0, x1, x2], [v0, .ref q], a, h) = if mis h q 6 = true then Bk 221 5 [x0, x1, x2] [] (Ec 219 [.ref q, v0] a h) else none := Rn_call1 c221_2 rfl (Nat.le_of_ble_eq_true rfl) rfl rfl (Nat.le_of_ble_eq_true rfl)
theorem c221_5 : mcode 221 5 = some (.ifCond .eq 13, 3, 0, 0, 0) := rfl
theorem r221_5 : Rn 221 (5, [x0, x1, x2], .int i :: st, a, h) = if i = 0 then Rn 221 (18, [x0, x1, x2], st, a, h) else Rn 221 (8, [x0, x1, x2], st, a, h) := Rn_ifc c221_5 mc_eq rfl rfl
theorem c221_8 : mcode 221 8 = some (.aload_n 0, 1, 0, 0, 0) := rfl
theorem r221_8 : Rn 221 (8, [some (.ref q), x1, x2], st, a, h) = Rn 221 (9, [some (.ref q), x1, x2], .ref q :: st, a, h) := Rn_go c221_8 rfl
theorem c221_9 : mcode 221 9 = some (.aload_n 0, 1, 0, 0, 0) := rfl
theorem r221_9 : Rn 221 (9, [some (.ref q), x1, x2], st, a, h) = Rn 221 (10, [some (.ref q), x1, x2], .ref q :: st, a, h) := Rn_go c221_9 rfl
theorem c221_10 : mcode 221 10 = some (.iload_n 1, 1, 0, 0, 0) := rfl
theorem r221_10 : Rn 221 (10, [x0, some (.int i), x2], st, a, h) = Rn 221 (11, [x0, some (.int i), x2], .int i :: st, a, h) := Rn_go c221_10 rfl
theorem c221_11 : mcode 221 11 = some (.invokevirtual 194, 3, 219, 1, 6) := rfl
theorem r221_11 : Rn 221 (11, [x0, x1, x2], [v0, .ref q, .ref q0], a, h) = if mis h q 6 = true then Bk 221 14 [x0, x1, x2] [.ref q0] (Ec 219 [.ref q, v0] a h) else none := Rn_call1 c221_11 rfl (Nat.le_of_ble_eq_true rfl) rfl rfl (Nat.le_of_ble_eq_true rfl)
theorem c221_14 : mcode 221 14 = some (.invokevirtual 39, 3, 125, 1, 6) := rfl
theorem r221_14 : Rn 221 (14, [x0, x1, x2], [v0, .ref q], a, h) = if mis h q 6 = true then Bk 221 17 [x0, x1, x2] [] (Ec 125 [.ref q, v0] a h) else none := Rn_call1 c221_14 rfl (Nat.le_of_ble_eq_true rfl) rfl rfl (Nat.le_of_ble_eq_true rfl)
theorem c221_17 : mcode 221 17 = some (.ireturn, 1, 0, 0, 0) := rfl
theorem r221_17 : Rn 221 (17, [x0, x1, x2], [.int i], a, h) = some (some (.int i), a, h) := Rn_ireti c221_17
theorem c221_18 : mcode 221 18 = some (.iconst 0, 1, 0, 0, 0) := rfl
theorem r221_18 : Rn 221 (18, [x0, x1, x2], st, a, h) = Rn 221 (19, [x0, x1, x2], .int (0 : Int32) :: st, a, h) := Rn_go c221_18 rfl
theorem c221_19 : mcode 221 19 = some (.istore_n 2, 1, 0, 0, 0) := rfl
theorem r221_19 : Rn 221 (19, [x0, x1, x2], .int i :: st, a, h) = Nl x1 (Rn 221 (20, [x0, x1, some (.int i)], st, a, h)) := Rn_st1 (k := 2) (v := .int i) x1 c221_19 rfl rfl rfl rfl
theorem c221_20 : mcode 221 20 = some (.iload_n 2, 1, 0, 0, 0) := rfl
theorem r221_20 : Rn 221 (20, [x0, x1, some (.int i)], st, a, h) = Rn 221 (21, [x0, x1, some (.int i)], .int i :: st, a, h) := Rn_go c221_20 rfl
theorem c221_21 : mcode 221 21 = some (.aload_n 0, 1, 0, 0, 0) := rfl
theorem r221_21 : Rn 221 (21, [some (.ref q), x1, x2], st, a, h) = Rn 221 (22, [some (.ref q), x1, x2], .ref q :: st, a, h) := Rn_go c221_21 rfl
theorem c221_22 : mcode 221 22 = some (.getfield 31, 3, 6, 9, 0) := rfl
theorem r221_22 : Rn 221 (22, [x0, x1, x2], .ref q :: st, a, h) = Kv 221 25 [x0, x1, x2] st a h (mgf h q 6 9) := Rn_getf c221_22 rfl
theorem c221_25 : mcode 221 25 = some (.iload_n 1, 1, 0, 0, 0) := rfl
theorem r221_25 : Rn 221 (25, [x0, some (.int i), x2], st, a, h) = Rn 221 (26, [x0, some (.int i), x2], .int i :: st, a, h) := Rn_go c221_25 rfl
theorem c221_26 : mcode 221 26 = some (.iaload, 1, 0, 0, 0) := rfl
theorem r221_26 : Rn 221 (26, [x0, x1, x2], .int i :: .ref q :: st, a, h) = Ki 221 27 [x0, x1, x2] st a h (mld h q i false) := Rn_iald c221_26 rfl
theorem c221_27 : mcode 221 27 = some (.if_icmp .ge 34, 3, 0, 0, 0) := rfl
theorem r221_27 : Rn 221 (27, [x0, x1, x2], .int j :: .int i :: st, a, h) = if i < j then Rn 221 (30, [x0, x1, x2], st, a, h) else Rn 221 (61, [x0, x1, x2], st, a, h) := Rn_icmpn c221_27 mc_ge rfl rfl
theorem c221_30 : mcode 221 30 = some (.iload_n 2, 1, 0, 0, 0) := rfl
theorem r221_30 : Rn 221 (30, [x0, x1, some (.int i)], st, a, h) = Rn 221 (31, [x0, x1, some (.int i)], .int i :: st, a, h) := Rn_go c221_30 rfl
theorem c221_31 : mcode 221 31 = some (.bipush 8, 2, 0, 0, 0) := rfl
theorem r221_31 : Rn 221 (31, [x0, x1, x2], st, a, h) = Rn 221 (33, [x0, x1, x2], .int (8 : Int32) :: st, a, h) := Rn_go c221_31 rfl
theorem c221_33 : mcode 221 33 = some (.if_icmp .ge 28, 3, 0, 0, 0) := rfl
theorem r221_33 : Rn 221 (33, [x0, x1, x2], .int j :: .int i :: st, a, h) = if i < j then Rn 221 (36, [x0, x1, x2], st, a, h) else Rn 221 (61, [x0, x1, x2], st, a, h) := Rn_icmpn c221_33 mc_ge rfl rfl
theorem c221_36 : mcode 221 36 = some (.aload_n 0, 1, 0, 0, 0) := rfl
theorem r221_36 : Rn 221 (36, [some (.ref q), x1, x2], st, a, h) = Rn 221 (37, [some (.ref q), x1, x2], .ref q :: st, a, h) := Rn_go c221_36 rfl
theorem c221_37 : mcode 221 37 = some (.getfield 34, 3, 6, 10, 0) := rfl
theorem r221_37 : Rn 221 (37, [x0, x1, x2], .ref q :: st, a, h) = Kv 221 40 [x0, x1, x2] st a h (mgf h q 6 10) := Rn_getf c221_37 rfl
theorem c221_40 : mcode 221 40 = some (.bipush 40, 2, 0, 0, 0) := rfl
theorem r221_40 : Rn 221 (40, [x0, x1, x2], st, a, h) = Rn 221 (42, [x0, x1, x2], .int (40 : Int32) :: st, a, h) := Rn_go c221_40 rfl
theorem c221_42 : mcode 221 42 = some (.iload_n 1, 1, 0, 0, 0) := rfl
theorem r221_42 : Rn 221 (42, [x0, some (.int i), x2], st, a, h) = Rn 221 (43, [x0, some (.int i), x2], .int i :: st, a, h) := Rn_go c221_42 rfl
theorem c221_43 : mcode 221 43 = some (.imul, 1, 0, 0, 0) := rfl
theorem r221_43 : Rn 221 (43, [x0, x1, x2], .int j :: .int i :: st, a, h) = Rn 221 (44, [x0, x1, x2], .int (i * j) :: st, a, h) := Rn_go c221_43 rfl
theorem c221_44 : mcode 221 44 = some (.iload_n 2, 1, 0, 0, 0) := rfl
theorem r221_44 : Rn 221 (44, [x0, x1, some (.int i)], st, a, h) = Rn 221 (45, [x0, x1, some (.int i)], .int i :: st, a, h) := Rn_go c221_44 rfl
theorem c221_45 : mcode 221 45 = some (.iadd, 1, 0, 0, 0) := rfl
theorem r221_45 : Rn 221 (45, [x0, x1, x2], .int j :: .int i :: st, a, h) = Rn 221 (46, [x0, x1, x2], .int (i + j) :: st, a, h) := Rn_go c221_45 rfl
theorem c221_46 : mcode 221 46 = some (.iaload, 1, 0, 0, 0) := rfl
theorem r221_46 : Rn 221 (46, [x0, x1, x2], .int i :: .ref q :: st, a, h) = Ki 221 47 [x0, x1, x2] st a h (mld h q i false) := Rn_iald c221_46 rfl
theorem c221_47 : mcode 221 47 = some (.aload_n 0, 1, 0, 0, 0) := rfl
theorem r221_47 : Rn 221 (47, [some (.ref q), x1, x2], st, a, h) = Rn 221 (48, [some (.ref q), x1, x2], .ref q :: st, a, h) := Rn_go c221_47 rfl
theorem c221_48 : mcode 221 48 = some (.iload_n 2, 1, 0, 0, 0) := rfl
theorem r221_48 : Rn 221 (48, [x0, x1, some (.int i)], st, a, h) = Rn 221 (49, [x0, x1, some (.int i)], .int i :: st, a, h) := Rn_go c221_48 rfl
theorem c221_49 : mcode 221 49 = some (.invokevirtual 68, 3, 139, 1, 6) := rfl
theorem r221_49 : Rn 221 (49, [x0, x1, x2], [v0, .ref q, .int i0], a, h) = if mis h q 6 = true then Bk 221 52 [x0, x1, x2] [.int i0] (Ec 139 [.ref q, v0] a h) else none := Rn_call1 c221_49 rfl (Nat.le_of_ble_eq_true rfl) rfl rfl (Nat.le_of_ble_eq_true rfl)
theorem c221_52 : mcode 221 52 = some (.if_icmp .ne 9, 3, 0, 0, 0) := rfl
theorem r221_52 : Rn 221 (52, [x0, x1, x2], .int j :: .int i :: st, a, h) = if i = j then Rn 221 (55, [x0, x1, x2], st, a, h) else Rn 221 (61, [x0, x1, x2], st, a, h) := Rn_icmpn c221_52 mc_ne rfl rfl
theorem c221_55 : mcode 221 55 = some (.iinc 2 1, 3, 0, 0, 0) := rfl
theorem r221_55 : Rn 221 (55, [x0, x1, some (.int i)], st, a, h) = Nl x1 (Rn 221 (58, [x0, x1, some (.int (i + (1 : Int32)))], st, a, h)) := Rn_st1 (k := 2) (v := .int (i + (1 : Int32))) x1 c221_55 rfl rfl rfl rfl
theorem c221_58 : mcode 221 58 = some (.goto (-38), 3, 0, 0, 0) := rfl
theorem r221_58 : Rn 221 (58, [x0, x1, x2], st, a, h) = Rn 221 (20, [x0, x1, x2], st, a, h) := Rn_goto c221_58 rfl
theorem c221_61 : mcode 221 61 = some (.iload_n 2, 1, 0, 0, 0) := rfl
theorem r221_61 : Rn 221 (61, [x0, x1, some (.int i)], st, a, h) = Rn 221 (62, [x0, x1, some (.int i)], .int i :: st, a, h) := Rn_go c221_61 rfl
theorem c221_62 : mcode 221 62 = some (.aload_n 0, 1, 0, 0, 0) := rfl
theorem r221_62 : Rn 221 (62, [some (.ref q), x1, x2], st, a, h) = Rn 221 (63, [some (.ref q), x1, x2], .ref q :: st, a, h) := Rn_go c221_62 rfl
theorem c221_63 : mcode 221 63 = some (.getfield 31, 3, 6, 9, 0) := rfl
theorem r221_63 : Rn 221 (63, [x0, x1, x2], .ref q :: st, a, h) = Kv 221 66 [x0, x1, x2] st a h (mgf h q 6 9) := Rn_getf c221_63 rfl
theorem c221_66 : mcode 221 66 = some (.iload_n 1, 1, 0, 0, 0) := rfl
theorem r221_66 : Rn 221 (66, [x0, some (.int i), x2], st, a, h) = Rn 221 (67, [x0, some (.int i), x2], .int i :: st, a, h) := Rn_go c221_66 rfl
theorem c221_67 : mcode 221 67 = some (.iaload, 1, 0, 0, 0) := rfl
theorem r221_67 : Rn 221 (67, [x0, x1, x2], .int i :: .ref q :: st, a, h) = Ki 221 68 [x0, x1, x2] st a h (mld h q i false) := Rn_iald c221_67 rfl
theorem c221_68 : mcode 221 68 = some (.if_icmp .ge 9, 3, 0, 0, 0) := rfl
theorem r221_68 : Rn 221 (68, [x0, x1, x2], .int j :: .int i :: st, a, h) = if i < j then Rn 221 (71, [x0, x1, x2], st, a, h) else Rn 221 (77, [x0, x1, x2], st, a, h) := Rn_icmpn c221_68 mc_ge rfl rfl
theorem c221_71 : mcode 221 71 = some (.iconst 1, 1, 0, 0, 0) := rfl
theorem r221_71 : Rn 221 (71, [x0, x1, x2], st, a, h) = Rn 221 (72, [x0, x1, x2], .int (1 : Int32) :: st, a, h) := Rn_go c221_71 rfl
theorem c221_72 : mcode 221 72 = some (.iload_n 2, 1, 0, 0, 0) := rfl
theorem r221_72 : Rn 221 (72, [x0, x1, some (.int i)], st, a, h) = Rn 221 (73, [x0, x1, some (.int i)], .int i :: st, a, h) := Rn_go c221_72 rfl
theorem c221_73 : mcode 221 73 = some (.iadd, 1, 0, 0, 0) := rfl
theorem r221_73 : Rn 221 (73, [x0, x1, x2], .int j :: .int i :: st, a, h) = Rn 221 (74, [x0, x1, x2], .int (i + j) :: st, a, h) := Rn_go c221_73 rfl
theorem c221_74 : mcode 221 74 = some (.goto 4, 3, 0, 0, 0) := rfl
theorem r221_74 : Rn 221 (74, [x0, x1, x2], st, a, h) = Rn 221 (78, [x0, x1, x2], st, a, h) := Rn_goto c221_74 rfl
theorem c221_77 : mcode 221 77 = some (.iconst 0, 1, 0, 0, 0) := rfl
theorem r221_77 : Rn 221 (77, [x0, x1, x2], st, a, h) = Rn 221 (78, [x0, x1, x2], .int (0 : Int32) :: st, a, h) := Rn_go c221_77 rfl
theorem c221_78 : mcode 221 78 = some (.ireturn, 1, 0, 0, 0) := rfl
theorem r221_78 : Rn 221 (78, [x0, x1, x2], [.int i], a, h) = some (some (.int i), a, h) := Rn_ireti c221_78
theorem c222_0 : mcode 222 0 = some (.aload_n 0, 1, 0, 0, 0) := rfl
theorem r222_0 : Rn 222 (0, [some (.ref q)], st, a, h) = Rn 222 (1, [some (.ref q)], .ref q :: st, a, h) := Rn_go c222_0 rfl
theorem c222_1 : mcode 222 1 = some (.getfield 7, 3, 6, 0, 0) := rfl
theorem r222_1 : Rn 222 (1, [x0], .ref q :: st, a, h) = Kv 222 4 [x0] st a h (mgf h q 6 0) := Rn_getf c222_1 rfl
theorem c222_4 : mcode 222 4 = some (.aload_n 0, 1, 0, 0, 0) := rfl
theorem r222_4 : Rn 222 (4, [some (.ref q)], st, a, h) = Rn 222 (5, [some (.ref q)], .ref q :: st, a, h) := Rn_go c222_4 rfl
theorem c222_5 : mcode 222 5 = some (.getfield 13, 3, 6, 1, 0) := rfl
theorem r222_5 : Rn 222 (5, [x0], .ref q :: st, a, h) = Kv 222 8 [x0] st a h (mgf h q 6 1) := Rn_getf c222_5 rfl
theorem c222_8 : mcode 222 8 = some (.invokestatic 157, 3, 127, 2, 0) := rfl
theorem r222_8 : Rn 222 (8, [x0], [v1, v0], a, h) = Bk 222 11 [x0] [] (Ec 127 [v0, v1] a h) := Rn_call0 c222_8 (fun z => nomatch z) rfl (Nat.le_of_ble_eq_true rfl) rfl rfl (Nat.le_of_ble_eq_true rfl)
theorem c222_11 : mcode 222 11 = some (.aload_n 0, 1, 0, 0, 0) := rfl
theorem r222_11 : Rn 222 (11, [some (.ref q)], st, a, h) = Rn 222 (12, [some (.ref q)], .ref q :: st, a, h) := Rn_go c222_11 rfl
theorem c222_12 : mcode 222 12 = some (.iconst 1, 1, 0, 0, 0) := rfl
theorem r222_12 : Rn 222 (12, [x0], st, a, h) = Rn 222 (13, [x0], .int (1 : Int32) :: st, a, h) := Rn_go c222_12 rfl
theorem c222_13 : mcode 222 13 = some (.putfield 295, 3, 6, 4, 1) := rfl
theorem r222_13 : Rn 222 (13, [x0], .int i :: .ref q :: st, a, h) = if mok 1 (.int i) = true then Kh 222 16 [x0] st a (mpf h q 6 4 (.int i)) else none := Rn_putf c222_13 rfl rfl
theorem c222_16 : mcode 222 16 = some (.iconst 1, 1, 0, 0, 0) := rfl
theorem r222_16 : Rn 222 (16, [x0], st, a, h) = Rn 222 (17, [x0], .int (1 : Int32) :: st, a, h) := Rn_go c222_16 rfl
theorem c222_17 : mcode 222 17 = some (.ireturn, 1, 0, 0, 0) := rfl
theorem r222_17 : Rn 222 (17, [x0], [.int i], a, h) = some (some (.int i), a, h) := Rn_ireti c222_17
theorem c223_0 : mcode 223 0 = some (.aload_n 0, 1, 0, 0, 0) := rfl
theorem r223_0 : Rn 223 (0, [some (.ref q)], st, a, h) = Rn 223 (1, [some (.ref q)], .ref q :: st, a, h) := Rn_go c223_0 rfl
theorem c223_1 : mcode 223 1 = some (.getfield 295, 3, 6, 4, 0) := rfl
theorem r223_1 : Rn 223 (1, [x0], .ref q :: st, a, h) = Kv 223 4 [x0] st a h (mgf h q 6 4) := Rn_getf c223_1 rfl
theorem c223_4 : mcode 223 4 = some (.ifCond .ne 10, 3, 0, 0, 0) := rfl
theorem r223_4 : Rn 223 (4, [x0], .int i :: st, a, h) = if i = 0 then Rn 223 (7, [x0], st, a, h) else Rn 223 (14, [x0], st, a, h) := Rn_ifcn c223_4 mc_ne rfl rfl
theorem c223_7 : mcode 223 7 = some (.aload_n 0, 1, 0, 0, 0) := rfl
theorem r223_7 : Rn 223 (7, [some (.ref q)], st, a, h) = Rn 223 (8, [some (.ref q)], .ref q :: st, a, h) := Rn_go c223_7 rfl
theorem c223_8 : mcode 223 8 = some (.ldc 38, 2, 0, 0, -1000004) := rfl
theorem r223_8 : Rn 223 (8, [x0], st, a, h) = Rn 223 (10, [x0], .int (-1000004 : Int32) :: st, a, h) := Rn_go c223_8 rfl
theorem c223_10 : mcode 223 10 = some (.invokevirtual 39, 3, 125, 1, 6) := rfl
theorem r223_10 : Rn 223 (10, [x0], [v0, .ref q], a, h) = if mis h q 6 = true then Bk 223 13 [x0] [] (Ec 125 [.ref q, v0] a h) else none := Rn_call1 c223_10 rfl (Nat.le_of_ble_eq_true rfl) rfl rfl (Nat.le_of_ble_eq_true rfl)
theorem c223_13 : mcode 223 13 = some (.ireturn, 1, 0, 0, 0) := rfl
theorem r223_13 : Rn 223 (13, [x0], [.int i], a, h) = some (some (.int i), a, h) := Rn_ireti c223_13
theorem c223_14 : mcode 223 14 = some (.aload_n 0, 1, 0, 0, 0) := rfl
theorem r223_14 : Rn 223 (14, [some (.ref q)], st, a, h) = Rn 223 (15, [some (.ref q)], .ref q :: st, a, h) := Rn_go c223_14 rfl
theorem c223_15 : mcode 223 15 = some (.getfield 13, 3, 6, 1, 0) := rfl
theorem r223_15 : Rn 223 (15, [x0], .ref q :: st, a, h) = Kv 223 18 [x0] st a h (mgf h q 6 1) := Rn_getf c223_15 rfl
theorem c223_18 : mcode 223 18 = some (.aload_n 0, 1, 0, 0, 0) := rfl
theorem r223_18 : Rn 223 (18, [some (.ref q)], st, a, h) = Rn 223 (19, [some (.ref q)], .ref q :: st, a, h) := Rn_go c223_18 rfl
theorem c223_19 : mcode 223 19 = some (.getfield 7, 3, 6, 0, 0) := rfl
theorem r223_19 : Rn 223 (19, [x0], .ref q :: st, a, h) = Kv 223 22 [x0] st a h (mgf h q 6 0) := Rn_getf c223_19 rfl
theorem c223_22 : mcode 223 22 = some (.invokestatic 157, 3, 127, 2, 0) := rfl
theorem r223_22 : Rn 223 (22, [x0], [v1, v0], a, h) = Bk 223 25 [x0] [] (Ec 127 [v0, v1] a h) := Rn_call0 c223_22 (fun z => nomatch z) rfl (Nat.le_of_ble_eq_true rfl) rfl rfl (Nat.le_of_ble_eq_true rfl)
theorem c223_25 : mcode 223 25 = some (.aload_n 0, 1, 0, 0, 0) := rfl
theorem r223_25 : Rn 223 (25, [some (.ref q)], st, a, h) = Rn 223 (26, [some (.ref q)], .ref q :: st, a, h) := Rn_go c223_25 rfl
theorem c223_26 : mcode 223 26 = some (.getfield 7, 3, 6, 0, 0) := rfl
theorem r223_26 : Rn 223 (26, [x0], .ref q :: st, a, h) = Kv 223 29 [x0] st a h (mgf h q 6 0) := Rn_getf c223_26 rfl
theorem c223_29 : mcode 223 29 = some (.iconst 1, 1, 0, 0, 0) := rfl
theorem r223_29 : Rn 223 (29, [x0], st, a, h) = Rn 223 (30, [x0], .int (1 : Int32) :: st, a, h) := Rn_go c223_29 rfl
theorem c223_30 : mcode 223 30 = some (.iaload, 1, 0, 0, 0) := rfl
theorem r223_30 : Rn 223 (30, [x0], .int i :: .ref q :: st, a, h) = Ki 223 31 [x0] st a h (mld h q i false) := Rn_iald c223_30 rfl
theorem c223_31 : mcode 223 31 = some (.ireturn, 1, 0, 0, 0) := rfl
theorem r223_31 : Rn 223 (31, [x0], [.int i], a, h) = some (some (.int i), a, h) := Rn_ireti c223_31
theorem c224_0 : mcode 224 0 = some (.aload_n 0, 1, 0, 0, 0) := rfl
theorem r224_0 : Rn 224 (0, [some (.ref q), x1], st, a, h) = Rn 224 (1, [some (.ref q), x1], .ref q :: st, a, h) := Rn_go c224_0 rfl
theorem c224_1 : mcode 224 1 = some (.getfield 295, 3, 6, 4, 0) := rfl
theorem r224_1 : Rn 224 (1, [x0, x1], .ref q :: st, a, h) = Kv 224 4 [x0, x1] st a h (mgf h q 6 4) := Rn_getf c224_1 rfl
theorem c224_4 : mcode 224 4 = some (.istore_n 1, 1, 0, 0, 0) := rfl
theorem r224_4 : Rn 224 (4, [x0, x1], .int i :: st, a, h) = Nl x0 (Rn 224 (5, [x0, some (.int i)], st, a, h)) := Rn_st1 (k := 1) (v := .int i) x0 c224_4 rfl rfl rfl rfl
theorem c224_5 : mcode 224 5 = some (.aload_n 0, 1, 0, 0, 0) := rfl
theorem r224_5 : Rn 224 (5, [some (.ref q), x1], st, a, h) = Rn 224 (6, [some (.ref q), x1], .ref q :: st, a, h) := Rn_go c224_5 rfl
theorem c224_6 : mcode 224 6 = some (.iconst 0, 1, 0, 0, 0) := rfl
theorem r224_6 : Rn 224 (6, [x0, x1], st, a, h) = Rn 224 (7, [x0, x1], .int (0 : Int32) :: st, a, h) := Rn_go c224_6 rfl
theorem c224_7 : mcode 224 7 = some (.putfield 295, 3, 6, 4, 1) := rfl
theorem r224_7 : Rn 224 (7, [x0, x1], .int i :: .ref q :: st, a, h) = if mok 1 (.int i) = true then Kh 224 10 [x0, x1] st a (mpf h q 6 4 (.int i)) else none := Rn_putf c224_7 rfl rfl
theorem c224_10 : mcode 224 10 = some (.iload_n 1, 1, 0, 0, 0) := rfl
theorem r224_10 : Rn 224 (10, [x0, some (.int i)], st, a, h) = Rn 224 (11, [x0, some (.int i)], .int i :: st, a, h) := Rn_go c224_10 rfl
theorem c224_11 : mcode 224 11 = some (.ifCond .eq 7, 3, 0, 0, 0) := rfl
theorem r224_11 : Rn 224 (11, [x0, x1], .int i :: st, a, h) = if i = 0 then Rn 224 (18, [x0, x1], st, a, h) else Rn 224 (14, [x0, x1], st, a, h) := Rn_ifc c224_11 mc_eq rfl rfl
theorem c224_14 : mcode 224 14 = some (.iconst 1, 1, 0, 0, 0) := rfl
theorem r224_14 : Rn 224 (14, [x0, x1], st, a, h) = Rn 224 (15, [x0, x1], .int (1 : Int32) :: st, a, h) := Rn_go c224_14 rfl
theorem c224_15 : mcode 224 15 = some (.goto 4, 3, 0, 0, 0) := rfl
theorem r224_15 : Rn 224 (15, [x0, x1], st, a, h) = Rn 224 (19, [x0, x1], st, a, h) := Rn_goto c224_15 rfl
theorem c224_18 : mcode 224 18 = some (.iconst 0, 1, 0, 0, 0) := rfl
theorem r224_18 : Rn 224 (18, [x0, x1], st, a, h) = Rn 224 (19, [x0, x1], .int (0 : Int32) :: st, a, h) := Rn_go c224_18 rfl
theorem c224_19 : mcode 224 19 = some (.ireturn, 1, 0, 0, 0) := rfl
theorem r224_19 : Rn 224 (19, [x0, x1], [.int i], a, h) = some (some (.int i), a, h) := Rn_ireti c224_19
theorem c225_0 : mcode 225 0 = some (.iconst 0, 1, 0, 0, 0) := rfl
theorem r225_0 : Rn 225 (0, [x0, x1, x2, x3], st, a, h) = Rn 225 (1, [x0, x1, x2, x3], .int (0 : Int32) :: st, a, h) := Rn_go c225_0 rfl
theorem c225_1 : mcode 225 1 = some (.istore_n 2, 1, 0, 0, 0) := rfl
theorem r225_1 : Rn 225 (1, [x0, x1, x2, x3], .int i :: st, a, h) = Nl x1 (Rn 225 (2, [x0, x1, some (.int i), x3], st, a, h)) := Rn_st1 (k := 2) (v := .int i) x1 c225_1 rfl rfl rfl rfl
theorem c225_2 : mcode 225 2 = some (.iload_n 1, 1, 0, 0, 0) := rfl
theorem r225_2 : Rn 225 (2, [x0, some (.int i), x2, x3], st, a, h) = Rn 225 (3, [x0, some (.int i), x2, x3], .int i :: st, a, h) := Rn_go c225_2 rfl
theorem c225_3 : mcode 225 3 = some (.tableswitch 124 0 7 #[45, 52, 59, 65, 71, 76, 81, 88], 45, 0, 0, 0) := rfl
theorem r225_3_0 : Rn 225 (3, [x0, x1, x2, x3], .int (0 : Int32) :: st, a, h) = Rn 225 (48, [x0, x1, x2, x3], st, a, h) := Rn_swAt c225_3 rfl rfl
theorem r225_3_1 : Rn 225 (3, [x0, x1, x2, x3], .int (1 : Int32) :: st, a, h) = Rn 225 (55, [x0, x1, x2, x3], st, a, h) := Rn_swAt c225_3 rfl rfl
theorem r225_3_2 : Rn 225 (3, [x0, x1, x2, x3], .int (2 : Int32) :: st, a, h) = Rn 225 (62, [x0, x1, x2, x3], st, a, h) := Rn_swAt c225_3 rfl rfl
theorem r225_3_3 : Rn 225 (3, [x0, x1, x2, x3], .int (3 : Int32) :: st, a, h) = Rn 225 (68, [x0, x1, x2, x3], st, a, h) := Rn_swAt c225_3 rfl rfl
theorem r225_3_4 : Rn 225 (3, [x0, x1, x2, x3], .int (4 : Int32) :: st, a, h) = Rn 225 (74, [x0, x1, x2, x3], st, a, h) := Rn_swAt c225_3 rfl rfl
theorem r225_3_5 : Rn 225 (3, [x0, x1, x2, x3], .int (5 : Int32) :: st, a, h) = Rn 225 (79, [x0, x1, x2, x3], st, a, h) := Rn_swAt c225_3 rfl rfl
theorem r225_3_6 : Rn 225 (3, [x0, x1, x2, x3], .int (6 : Int32) :: st, a, h) = Rn 225 (84, [x0, x1, x2, x3], st, a, h) := Rn_swAt c225_3 rfl rfl
theorem r225_3_7 : Rn 225 (3, [x0, x1, x2, x3], .int (7 : Int32) :: st, a, h) = Rn 225 (91, [x0, x1, x2, x3], st, a, h) := Rn_swAt c225_3 rfl rfl
theorem r225_3_d (hi : i.toInt < 0 ∨ 7 < i.toInt) : Rn 225 (3, [x0, x1, x2, x3], .int i :: st, a, h) = Rn 225 (127, [x0, x1, x2, x3], st, a, h) := Rn_swAt c225_3 (if_pos hi) rfl
theorem c225_48 : mcode 225 48 = some (.aload_n 0, 1, 0, 0, 0) := rfl
theorem r225_48 : Rn 225 (48, [some (.ref q), x1, x2, x3], st, a, h) = Rn 225 (49, [some (.ref q), x1, x2, x3], .ref q :: st, a, h) := Rn_go c225_48 rfl
theorem c225_49 : mcode 225 49 = some (.getfield 7, 3, 6, 0, 0) := rfl
theorem r225_49 : Rn 225 (49, [x0, x1, x2, x3], .ref q :: st, a, h) = Kv 225 52 [x0, x1, x2, x3] st a h (mgf h q 6 0) := Rn_getf c225_49 rfl
theorem c225_52 : mcode 225 52 = some (.iconst 1, 1, 0, 0, 0) := rfl
theorem r225_52 : Rn 225 (52, [x0, x1, x2, x3], st, a, h) = Rn 225 (53, [x0, x1, x2, x3], .int (1 : Int32) :: st, a, h) := Rn_go c225_52 rfl
theorem c225_53 : mcode 225 53 = some (.iaload, 1, 0, 0, 0) := rfl
theorem r225_53 : Rn 225 (53, [x0, x1, x2, x3], .int i :: .ref q :: st, a, h) = Ki 225 54 [x0, x1, x2, x3] st a h (mld h q i false) := Rn_iald c225_53 rfl
theorem c225_54 : mcode 225 54 = some (.ireturn, 1, 0, 0, 0) := rfl
theorem r225_54 : Rn 225 (54, [x0, x1, x2, x3], [.int i], a, h) = some (some (.int i), a, h) := Rn_ireti c225_54
theorem c225_55 : mcode 225 55 = some (.aload_n 0, 1, 0, 0, 0) := rfl
theorem r225_55 : Rn 225 (55, [some (.ref q), x1, x2, x3], st, a, h) = Rn 225 (56, [some (.ref q), x1, x2, x3], .ref q :: st, a, h) := Rn_go c225_55 rfl
theorem c225_56 : mcode 225 56 = some (.getfield 7, 3, 6, 0, 0) := rfl
theorem r225_56 : Rn 225 (56, [x0, x1, x2, x3], .ref q :: st, a, h) = Kv 225 59 [x0, x1, x2, x3] st a h (mgf h q 6 0) := Rn_getf c225_56 rfl
theorem c225_59 : mcode 225 59 = some (.iconst 0, 1, 0, 0, 0) := rfl
theorem r225_59 : Rn 225 (59, [x0, x1, x2, x3], st, a, h) = Rn 225 (60, [x0, x1, x2, x3], .int (0 : Int32) :: st, a, h) := Rn_go c225_59 rfl
theorem c225_60 : mcode 225 60 = some (.iaload, 1, 0, 0, 0) := rfl
theorem r225_60 : Rn 225 (60, [x0, x1, x2, x3], .int i :: .ref q :: st, a, h) = Ki 225 61 [x0, x1, x2, x3] st a h (mld h q i false) := Rn_iald c225_60 rfl
theorem c225_61 : mcode 225 61 = some (.ireturn, 1, 0, 0, 0) := rfl
theorem r225_61 : Rn 225 (61, [x0, x1, x2, x3], [.int i], a, h) = some (some (.int i), a, h) := Rn_ireti c225_61
theorem c225_62 : mcode 225 62 = some (.aload_n 0, 1, 0, 0, 0) := rfl
theorem r225_62 : Rn 225 (62, [some (.ref q), x1, x2, x3], st, a, h) = Rn 225 (63, [some (.ref q), x1, x2, x3], .ref q :: st, a, h) := Rn_go c225_62 rfl
theorem c225_63 : mcode 225 63 = some (.iconst 3, 1, 0, 0, 0) := rfl
theorem r225_63 : Rn 225 (63, [x0, x1, x2, x3], st, a, h) = Rn 225 (64, [x0, x1, x2, x3], .int (3 : Int32) :: st, a, h) := Rn_go c225_63 rfl
theorem c225_64 : mcode 225 64 = some (.invokevirtual 148, 3, 161, 1, 6) := rfl
theorem r225_64 : Rn 225 (64, [x0, x1, x2, x3], [v0, .ref q], a, h) = if mis h q 6 = true then Bk 225 67 [x0, x1, x2, x3] [] (Ec 161 [.ref q, v0] a h) else none := Rn_call1 c225_64 rfl (Nat.le_of_ble_eq_true rfl) rfl rfl (Nat.le_of_ble_eq_true rfl)
theorem c225_67 : mcode 225 67 = some (.ireturn, 1, 0, 0, 0) := rfl
theorem r225_67 : Rn 225 (67, [x0, x1, x2, x3], [.int i], a, h) = some (some (.int i), a, h) := Rn_ireti c225_67
theorem c225_68 : mcode 225 68 = some (.aload_n 0, 1, 0, 0, 0) := rfl
theorem r225_68 : Rn 225 (68, [some (.ref q), x1, x2, x3], st, a, h) = Rn 225 (69, [some (.ref q), x1, x2, x3], .ref q :: st, a, h) := Rn_go c225_68 rfl
theorem c225_69 : mcode 225 69 = some (.iconst 5, 1, 0, 0, 0) := rfl
theorem r225_69 : Rn 225 (69, [x0, x1, x2, x3], st, a, h) = Rn 225 (70, [x0, x1, x2, x3], .int (5 : Int32) :: st, a, h) := Rn_go c225_69 rfl
theorem c225_70 : mcode 225 70 = some (.invokevirtual 148, 3, 161, 1, 6) := rfl
theorem r225_70 : Rn 225 (70, [x0, x1, x2, x3], [v0, .ref q], a, h) = if mis h q 6 = true then Bk 225 73 [x0, x1, x2, x3] [] (Ec 161 [.ref q, v0] a h) else none := Rn_call1 c225_70 rfl (Nat.le_of_ble_eq_true rfl) rfl rfl (Nat.le_of_ble_eq_true rfl)
theorem c225_73 : mcode 225 73 = some (.ireturn, 1, 0, 0, 0) := rfl
theorem r225_73 : Rn 225 (73, [x0, x1, x2, x3], [.int i], a, h) = some (some (.int i), a, h) := Rn_ireti c225_73
theorem c225_74 : mcode 225 74 = some (.aload_n 0, 1, 0, 0, 0) := rfl
theorem r225_74 : Rn 225 (74, [some (.ref q), x1, x2, x3], st, a, h) = Rn 225 (75, [some (.ref q), x1, x2, x3], .ref q :: st, a, h) := Rn_go c225_74 rfl
theorem c225_75 : mcode 225 75 = some (.invokevirtual 141, 3, 160, 0, 6) := rfl
theorem r225_75 : Rn 225 (75, [x0, x1, x2, x3], [.ref q], a, h) = if mis h q 6 = true then Bk 225 78 [x0, x1, x2, x3] [] (Ec 160 [.ref q] a h) else none := Rn_call1 c225_75 rfl (Nat.le_of_ble_eq_true rfl) rfl rfl (Nat.le_of_ble_eq_true rfl)
theorem c225_78 : mcode 225 78 = some (.ireturn, 1, 0, 0, 0) := rfl
theorem r225_78 : Rn 225 (78, [x0, x1, x2, x3], [.int i], a, h) = some (some (.int i), a, h) := Rn_ireti c225_78
theorem c225_79 : mcode 225 79 = some (.aload_n 0, 1, 0, 0, 0) := rfl
theorem r225_79 : Rn 225 (79, [some (.ref q), x1, x2, x3], st, a, h) = Rn 225 (80, [some (.ref q), x1, x2, x3], .ref q :: st, a, h) := Rn_go c225_79 rfl
theorem c225_80 : mcode 225 80 = some (.getfield 213, 3, 6, 7, 0) := rfl
theorem r225_80 : Rn 225 (80, [x0, x1, x2, x3], .ref q :: st, a, h) = Kv 225 83 [x0, x1, x2, x3] st a h (mgf h q 6 7) := Rn_getf c225_80 rfl
theorem c225_83 : mcode 225 83 = some (.ireturn, 1, 0, 0, 0) := rfl
theorem r225_83 : Rn 225 (83, [x0, x1, x2, x3], [.int i], a, h) = some (some (.int i), a, h) := Rn_ireti c225_83
theorem c225_84 : mcode 225 84 = some (.aload_n 0, 1, 0, 0, 0) := rfl
theorem r225_84 : Rn 225 (84, [some (.ref q), x1, x2, x3], st, a, h) = Rn 225 (85, [some (.ref q), x1, x2, x3], .ref q :: st, a, h) := Rn_go c225_84 rfl
theorem c225_85 : mcode 225 85 = some (.getfield 7, 3, 6, 0, 0) := rfl
theorem r225_85 : Rn 225 (85, [x0, x1, x2, x3], .ref q :: st, a, h) = Kv 225 88 [x0, x1, x2, x3] st a h (mgf h q 6 0) := Rn_getf c225_85 rfl
theorem c225_88 : mcode 225 88 = some (.iconst 2, 1, 0, 0, 0) := rfl
theorem r225_88 : Rn 225 (88, [x0, x1, x2, x3], st, a, h) = Rn 225 (89, [x0, x1, x2, x3], .int (2 : Int32) :: st, a, h) := Rn_go c225_88 rfl
theorem c225_89 : mcode 225 89 = some (.iaload, 1, 0, 0, 0) := rfl
theorem r225_89 : Rn 225 (89, [x0, x1, x2, x3], .int i :: .ref q :: st, a, h) = Ki 225 90 [x0, x1, x2, x3] st a h (mld h q i false) := Rn_iald c225_89 rfl
theorem c225_90 : mcode 225 90 = some (.ireturn, 1, 0, 0, 0) := rfl
theorem r225_90 : Rn 225 (90, [x0, x1, x2, x3], [.int i], a, h) = some (some (.int i), a, h) := Rn_ireti c225_90
theorem c225_91 : mcode 225 91 = some (.iconst 0, 1, 0, 0, 0) := rfl
theorem r225_91 : Rn 225 (91, [x0, x1, x2, x3], st, a, h) = Rn 225 (92, [x0, x1, x2, x3], .int (0 : Int32) :: st, a, h) := Rn_go c225_91 rfl
theorem c225_92 : mcode 225 92 = some (.istore_n 3, 1, 0, 0, 0) := rfl
theorem r225_92 : Rn 225 (92, [x0, x1, x2, x3], .int i :: st, a, h) = Nl x2 (Rn 225 (93, [x0, x1, x2, some (.int i)], st, a, h)) := Rn_st1 (k := 3) (v := .int i) x2 c225_92 rfl rfl rfl rfl
theorem c225_93 : mcode 225 93 = some (.iload_n 3, 1, 0, 0, 0) := rfl
theorem r225_93 : Rn 225 (93, [x0, x1, x2, some (.int i)], st, a, h) = Rn 225 (94, [x0, x1, x2, some (.int i)], .int i :: st, a, h) := Rn_go c225_93 rfl
theorem c225_94 : mcode 225 94 = some (.bipush 10, 2, 0, 0, 0) := rfl
theorem r225_94 : Rn 225 (94, [x0, x1, x2, x3], st, a, h) = Rn 225 (96, [x0, x1, x2, x3], .int (10 : Int32) :: st, a, h) := Rn_go c225_94 rfl
theorem c225_96 : mcode 225 96 = some (.if_icmp .ge 29, 3, 0, 0, 0) := rfl
theorem r225_96 : Rn 225 (96, [x0, x1, x2, x3], .int j :: .int i :: st, a, h) = if i < j then Rn 225 (99, [x0, x1, x2, x3], st, a, h) else Rn 225 (125, [x0, x1, x2, x3], st, a, h) := Rn_icmpn c225_96 mc_ge rfl rfl
theorem c225_99 : mcode 225 99 = some (.iload_n 2, 1, 0, 0, 0) := rfl
theorem r225_99 : Rn 225 (99, [x0, x1, some (.int i), x3], st, a, h) = Rn 225 (100, [x0, x1, some (.int i), x3], .int i :: st, a, h) := Rn_go c225_99 rfl
theorem c225_100 : mcode 225 100 = some (.aload_n 0, 1, 0, 0, 0) := rfl
theorem r225_100 : Rn 225 (100, [some (.ref q), x1, x2, x3], st, a, h) = Rn 225 (101, [some (.ref q), x1, x2, x3], .ref q :: st, a, h) := Rn_go c225_100 rfl
theorem c225_101 : mcode 225 101 = some (.getfield 7, 3, 6, 0, 0) := rfl
theorem r225_101 : Rn 225 (101, [x0, x1, x2, x3], .ref q :: st, a, h) = Kv 225 104 [x0, x1, x2, x3] st a h (mgf h q 6 0) := Rn_getf c225_101 rfl
theorem c225_104 : mcode 225 104 = some (.bipush 76, 2, 0, 0, 0) := rfl
theorem r225_104 : Rn 225 (104, [x0, x1, x2, x3], st, a, h) = Rn 225 (106, [x0, x1, x2, x3], .int (76 : Int32) :: st, a, h) := Rn_go c225_104 rfl
theorem c225_106 : mcode 225 106 = some (.iload_n 3, 1, 0, 0, 0) := rfl
theorem r225_106 : Rn 225 (106, [x0, x1, x2, some (.int i)], st, a, h) = Rn 225 (107, [x0, x1, x2, some (.int i)], .int i :: st, a, h) := Rn_go c225_106 rfl
theorem c225_107 : mcode 225 107 = some (.iadd, 1, 0, 0, 0) := rfl
theorem r225_107 : Rn 225 (107, [x0, x1, x2, x3], .int j :: .int i :: st, a, h) = Rn 225 (108, [x0, x1, x2, x3], .int (i + j) :: st, a, h) := Rn_go c225_107 rfl
theorem c225_108 : mcode 225 108 = some (.iaload, 1, 0, 0, 0) := rfl
theorem r225_108 : Rn 225 (108, [x0, x1, x2, x3], .int i :: .ref q :: st, a, h) = Ki 225 109 [x0, x1, x2, x3] st a h (mld h q i false) := Rn_iald c225_108 rfl
theorem c225_109 : mcode 225 109 = some (.ifCond .ge 7, 3, 0, 0, 0) := rfl
theorem r225_109 : Rn 225 (109, [x0, x1, x2, x3], .int i :: st, a, h) = if i < 0 then Rn 225 (112, [x0, x1, x2, x3], st, a, h) else Rn 225 (116, [x0, x1, x2, x3], st, a, h) := Rn_ifcn c225_109 mc_ge rfl rfl
theorem c225_112 : mcode 225 112 = some (.iconst 0, 1, 0, 0, 0) := rfl
theorem r225_112 : Rn 225 (112, [x0, x1, x2, x3], st, a, h) = Rn 225 (113, [x0, x1, x2, x3], .int (0 : Int32) :: st, a, h) := Rn_go c225_112 rfl
theorem c225_113 : mcode 225 113 = some (.goto 4, 3, 0, 0, 0) := rfl
theorem r225_113 : Rn 225 (113, [x0, x1, x2, x3], st, a, h) = Rn 225 (117, [x0, x1, x2, x3], st, a, h) := Rn_goto c225_113 rfl
theorem c225_116 : mcode 225 116 = some (.iconst 1, 1, 0, 0, 0) := rfl
theorem r225_116 : Rn 225 (116, [x0, x1, x2, x3], st, a, h) = Rn 225 (117, [x0, x1, x2, x3], .int (1 : Int32) :: st, a, h) := Rn_go c225_116 rfl
theorem c225_117 : mcode 225 117 = some (.iadd, 1, 0, 0, 0) := rfl
theorem r225_117 : Rn 225 (117, [x0, x1, x2, x3], .int j :: .int i :: st, a, h) = Rn 225 (118, [x0, x1, x2, x3], .int (i + j) :: st, a, h) := Rn_go c225_117 rfl
theorem c225_118 : mcode 225 118 = some (.istore_n 2, 1, 0, 0, 0) := rfl
theorem r225_118 : Rn 225 (118, [x0, x1, x2, x3], .int i :: st, a, h) = Nl x1 (Rn 225 (119, [x0, x1, some (.int i), x3], st, a, h)) := Rn_st1 (k := 2) (v := .int i) x1 c225_118 rfl rfl rfl rfl
theorem c225_119 : mcode 225 119 = some (.iinc 3 1, 3, 0, 0, 0) := rfl
theorem r225_119 : Rn 225 (119, [x0, x1, x2, some (.int i)], st, a, h) = Nl x2 (Rn 225 (122, [x0, x1, x2, some (.int (i + (1 : Int32)))], st, a, h)) := Rn_st1 (k := 3) (v := .int (i + (1 : Int32))) x2 c225_119 rfl rfl rfl rfl
theorem c225_122 : mcode 225 122 = some (.goto (-29), 3, 0, 0, 0) := rfl
theorem r225_122 : Rn 225 (122, [x0, x1, x2, x3], st, a, h) = Rn 225 (93, [x0, x1, x2, x3], st, a, h) := Rn_goto c225_122 rfl
theorem c225_125 : mcode 225 125 = some (.iload_n 2, 1, 0, 0, 0) := rfl
theorem r225_125 : Rn 225 (125, [x0, x1, some (.int i), x3], st, a, h) = Rn 225 (126, [x0, x1, some (.int i), x3], .int i :: st, a, h) := Rn_go c225_125 rfl
theorem c225_126 : mcode 225 126 = some (.ireturn, 1, 0, 0, 0) := rfl
theorem r225_126 : Rn 225 (126, [x0, x1, x2, x3], [.int i], a, h) = some (some (.int i), a, h) := Rn_ireti c225_126
theorem c225_127 : mcode 225 127 = some (.aload_n 0, 1, 0, 0, 0) := rfl
theorem r225_127 : Rn 225 (127, [some (.ref q), x1, x2, x3], st, a, h) = Rn 225 (128, [some (.ref q), x1, x2, x3], .ref q :: st, a, h) := Rn_go c225_127 rfl
theorem c225_128 : mcode 225 128 = some (.ldc 37, 2, 0, 0, -1000001) := rfl
theorem r225_128 : Rn 225 (128, [x0, x1, x2, x3], st, a, h) = Rn 225 (130, [x0, x1, x2, x3], .int (-1000001 : Int32) :: st, a, h) := Rn_go c225_128 rfl
theorem c225_130 : mcode 225 130 = some (.invokevirtual 39, 3, 125, 1, 6) := rfl
theorem r225_130 : Rn 225 (130, [x0, x1, x2, x3], [v0, .ref q], a, h) = if mis h q 6 = true then Bk 225 133 [x0, x1, x2, x3] [] (Ec 125 [.ref q, v0] a h) else none := Rn_call1 c225_130 rfl (Nat.le_of_ble_eq_true rfl) rfl rfl (Nat.le_of_ble_eq_true rfl)
theorem c225_133 : mcode 225 133 = some (.ireturn, 1, 0, 0, 0) := rfl
theorem r225_133 : Rn 225 (133, [x0, x1, x2, x3], [.int i], a, h) = some (some (.int i), a, h) := Rn_ireti c225_133
theorem c226_0 : mcode 226 0 = some (.iload_n 1, 1, 0, 0, 0) := rfl
theorem r226_0 : Rn 226 (0, [x0, some (.int i)], st, a, h) = Rn 226 (1, [x0, some (.int i)], .int i :: st, a, h) := Rn_go c226_0 rfl
theorem c226_1 : mcode 226 1 = some (.i2l, 1, 0, 0, 0) := rfl
theorem r226_1 : Rn 226 (1, [x0, x1], .int i :: st, a, h) = Rn 226 (2, [x0, x1], .long i.toInt64 :: st, a, h) := Rn_go c226_1 rfl
theorem c226_2 : mcode 226 2 = some (.ldc2_w 299, 3, 0, 0, -1) := rfl
theorem r226_2 : Rn 226 (2, [x0, x1], st, a, h) = Rn 226 (5, [x0, x1], .long (-1 : Int64) :: st, a, h) := Rn_go c226_2 rfl
theorem c226_5 : mcode 226 5 = some (.ldc2_w 89, 3, 0, 0, 6) := rfl
theorem r226_5 : Rn 226 (5, [x0, x1], st, a, h) = Rn 226 (8, [x0, x1], .long (6 : Int64) :: st, a, h) := Rn_go c226_5 rfl
theorem c226_8 : mcode 226 8 = some (.invokestatic 52, 3, 124, 3, 0) := rfl
theorem r226_8 : Rn 226 (8, [x0, x1], [v2, v1, v0], a, h) = Bk 226 11 [x0, x1] [] (Ec 124 [v0, v1, v2] a h) := Rn_call0 c226_8 (fun z => nomatch z) rfl (Nat.le_of_ble_eq_true rfl) rfl rfl (Nat.le_of_ble_eq_true rfl)
theorem c226_11 : mcode 226 11 = some (.ifCond .eq 14, 3, 0, 0, 0) := rfl
theorem r226_11 : Rn 226 (11, [x0, x1], .int i :: st, a, h) = if i = 0 then Rn 226 (25, [x0, x1], st, a, h) else Rn 226 (14, [x0, x1], st, a, h) := Rn_ifc c226_11 mc_eq rfl rfl
theorem c226_14 : mcode 226 14 = some (.aload_n 0, 1, 0, 0, 0) := rfl
theorem r226_14 : Rn 226 (14, [some (.ref q), x1], st, a, h) = Rn 226 (15, [some (.ref q), x1], .ref q :: st, a, h) := Rn_go c226_14 rfl
theorem c226_15 : mcode 226 15 = some (.getfield 22, 3, 6, 5, 0) := rfl
theorem r226_15 : Rn 226 (15, [x0, x1], .ref q :: st, a, h) = Kv 226 18 [x0, x1] st a h (mgf h q 6 5) := Rn_getf c226_15 rfl
theorem c226_18 : mcode 226 18 = some (.iload_n 1, 1, 0, 0, 0) := rfl
theorem r226_18 : Rn 226 (18, [x0, some (.int i)], st, a, h) = Rn 226 (19, [x0, some (.int i)], .int i :: st, a, h) := Rn_go c226_18 rfl
theorem c226_19 : mcode 226 19 = some (.iconst 1, 1, 0, 0, 0) := rfl
theorem r226_19 : Rn 226 (19, [x0, x1], st, a, h) = Rn 226 (20, [x0, x1], .int (1 : Int32) :: st, a, h) := Rn_go c226_19 rfl
theorem c226_20 : mcode 226 20 = some (.iadd, 1, 0, 0, 0) := rfl
theorem r226_20 : Rn 226 (20, [x0, x1], .int j :: .int i :: st, a, h) = Rn 226 (21, [x0, x1], .int (i + j) :: st, a, h) := Rn_go c226_20 rfl
theorem c226_21 : mcode 226 21 = some (.iaload, 1, 0, 0, 0) := rfl
theorem r226_21 : Rn 226 (21, [x0, x1], .int i :: .ref q :: st, a, h) = Ki 226 22 [x0, x1] st a h (mld h q i false) := Rn_iald c226_21 rfl
theorem c226_22 : mcode 226 22 = some (.goto 9, 3, 0, 0, 0) := rfl
theorem r226_22 : Rn 226 (22, [x0, x1], st, a, h) = Rn 226 (31, [x0, x1], st, a, h) := Rn_goto c226_22 rfl
theorem c226_25 : mcode 226 25 = some (.aload_n 0, 1, 0, 0, 0) := rfl
theorem r226_25 : Rn 226 (25, [some (.ref q), x1], st, a, h) = Rn 226 (26, [some (.ref q), x1], .ref q :: st, a, h) := Rn_go c226_25 rfl
theorem c226_26 : mcode 226 26 = some (.ldc 37, 2, 0, 0, -1000001) := rfl
theorem r226_26 : Rn 226 (26, [x0, x1], st, a, h) = Rn 226 (28, [x0, x1], .int (-1000001 : Int32) :: st, a, h) := Rn_go c226_26 rfl
theorem c226_28 : mcode 226 28 = some (.invokevirtual 39, 3, 125, 1, 6) := rfl
theorem r226_28 : Rn 226 (28, [x0, x1], [v0, .ref q], a, h) = if mis h q 6 = true then Bk 226 31 [x0, x1] [] (Ec 125 [.ref q, v0] a h) else none := Rn_call1 c226_28 rfl (Nat.le_of_ble_eq_true rfl) rfl rfl (Nat.le_of_ble_eq_true rfl)
theorem c226_31 : mcode 226 31 = some (.ireturn, 1, 0, 0, 0) := rfl
theorem r226_31 : Rn 226 (31, [x0, x1], [.int i], a, h) = some (some (.int i), a, h) := Rn_ireti c226_31
end
