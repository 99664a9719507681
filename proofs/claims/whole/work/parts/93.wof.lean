/-! ===== the words of each method, by their places ===== -/
def wof (M : Nat) : List Cond := match mnfo M with
  | some f => .code f.2.1 f.2.2.1 (mml M) f.2.2.2.1 :: .initialized f.2.1.cls :: (if f.2.2.2.2.2 = 0 then [.static f.2.1] else if f.2.2.2.2.2 = 1 then [.instanceMethod f.2.1, .selects f.2.1.cls f.2.1 f.2.1] else [.instanceMethod f.2.1])
  | none => []
def wofOk (M : Nat) : Prop := ∀ w ∈ wof M, w ∈ wtbl
set_option maxRecDepth 100000 in
theorem wof_0 : wofOk 0 := wt_of (ws := wof 0) (ps := [209, 78, 208]) (by decide +kernel) (by decide +kernel)
set_option maxRecDepth 100000 in
theorem wof_1 : wofOk 1 := wt_of (ws := wof 1) (ps := [535, 78, 533, 534]) (by decide +kernel) (by decide +kernel)
set_option maxRecDepth 100000 in
theorem wof_2 : wofOk 2 := wt_of (ws := wof 2) (ps := [762, 78, 760, 761]) (by decide +kernel) (by decide +kernel)
set_option maxRecDepth 100000 in
theorem wof_3 : wofOk 3 := wt_of (ws := wof 3) (ps := [552, 78, 550, 551]) (by decide +kernel) (by decide +kernel)
set_option maxRecDepth 100000 in
theorem wof_4 : wofOk 4 := wt_of (ws := wof 4) (ps := [779, 78, 777, 778]) (by decide +kernel) (by decide +kernel)
set_option maxRecDepth 100000 in
theorem wof_5 : wofOk 5 := wt_of (ws := wof 5) (ps := [548, 78, 546, 547]) (by decide +kernel) (by decide +kernel)
set_option maxRecDepth 100000 in
theorem wof_6 : wofOk 6 := wt_of (ws := wof 6) (ps := [771, 78, 769, 770]) (by decide +kernel) (by decide +kernel)
set_option maxRecDepth 100000 in
theorem wof_7 : wofOk 7 := wt_of (ws := wof 7) (ps := [544, 78, 542, 543]) (by decide +kernel) (by decide +kernel)
set_option maxRecDepth 100000 in
theorem wof_8 : wofOk 8 := wt_of (ws := wof 8) (ps := [176, 77, 175]) (by decide +kernel) (by decide +kernel)
set_option maxRecDepth 100000 in
theorem wof_9 : wofOk 9 := wt_of (ws := wof 9) (ps := [592, 77, 590, 591]) (by decide +kernel) (by decide +kernel)
set_option maxRecDepth 100000 in
theorem wof_10 : wofOk 10 := wt_of (ws := wof 10) (ps := [612, 77, 610, 611]) (by decide +kernel) (by decide +kernel)
set_option maxRecDepth 100000 in
theorem wof_11 : wofOk 11 := wt_of (ws := wof 11) (ps := [170, 76, 169]) (by decide +kernel) (by decide +kernel)
set_option maxRecDepth 100000 in
theorem wof_12 : wofOk 12 := wt_of (ws := wof 12) (ps := [604, 76, 602, 603]) (by decide +kernel) (by decide +kernel)
set_option maxRecDepth 100000 in
theorem wof_13 : wofOk 13 := wt_of (ws := wof 13) (ps := [623, 76, 622, 14]) (by decide +kernel) (by decide +kernel)
set_option maxRecDepth 100000 in
theorem wof_14 : wofOk 14 := wt_of (ws := wof 14) (ps := [690, 76, 689, 17]) (by decide +kernel) (by decide +kernel)
set_option maxRecDepth 100000 in
theorem wof_15 : wofOk 15 := wt_of (ws := wof 15) (ps := [697, 76, 696, 18]) (by decide +kernel) (by decide +kernel)
set_option maxRecDepth 100000 in
theorem wof_16 : wofOk 16 := wt_of (ws := wof 16) (ps := [715, 76, 714, 21]) (by decide +kernel) (by decide +kernel)
set_option maxRecDepth 100000 in
theorem wof_17 : wofOk 17 := wt_of (ws := wof 17) (ps := [721, 76, 720, 22]) (by decide +kernel) (by decide +kernel)
set_option maxRecDepth 100000 in
theorem wof_18 : wofOk 18 := wt_of (ws := wof 18) (ps := [726, 76, 725, 23]) (by decide +kernel) (by decide +kernel)
set_option maxRecDepth 100000 in
theorem wof_19 : wofOk 19 := wt_of (ws := wof 19) (ps := [701, 76, 700, 19]) (by decide +kernel) (by decide +kernel)
set_option maxRecDepth 100000 in
theorem wof_20 : wofOk 20 := wt_of (ws := wof 20) (ps := [706, 76, 705, 20]) (by decide +kernel) (by decide +kernel)
set_option maxRecDepth 100000 in
theorem wof_21 : wofOk 21 := wt_of (ws := wof 21) (ps := [627, 76, 626, 15]) (by decide +kernel) (by decide +kernel)
set_option maxRecDepth 100000 in
theorem wof_22 : wofOk 22 := wt_of (ws := wof 22) (ps := [632, 76, 631, 16]) (by decide +kernel) (by decide +kernel)
set_option maxRecDepth 100000 in
theorem wof_23 : wofOk 23 := wt_of (ws := wof 23) (ps := [608, 76, 607, 13]) (by decide +kernel) (by decide +kernel)
set_option maxRecDepth 100000 in
theorem wof_24 : wofOk 24 := wt_of (ws := wof 24) (ps := [615, 76, 614]) (by decide +kernel) (by decide +kernel)
set_option maxRecDepth 100000 in
theorem wof_25 : wofOk 25 := wt_of (ws := wof 25) (ps := [618, 76, 617]) (by decide +kernel) (by decide +kernel)
set_option maxRecDepth 100000 in
theorem wof_26 : wofOk 26 := wt_of (ws := wof 26) (ps := [106, 75, 105]) (by decide +kernel) (by decide +kernel)
set_option maxRecDepth 100000 in
theorem wof_27 : wofOk 27 := wt_of (ws := wof 27) (ps := [335, 75, 333, 334]) (by decide +kernel) (by decide +kernel)
set_option maxRecDepth 100000 in
theorem wof_28 : wofOk 28 := wt_of (ws := wof 28) (ps := [457, 75, 455, 456]) (by decide +kernel) (by decide +kernel)
set_option maxRecDepth 100000 in
theorem wof_29 : wofOk 29 := wt_of (ws := wof 29) (ps := [352, 75, 350, 351]) (by decide +kernel) (by decide +kernel)
set_option maxRecDepth 100000 in
theorem wof_30 : wofOk 30 := wt_of (ws := wof 30) (ps := [357, 75, 355, 356]) (by decide +kernel) (by decide +kernel)
set_option maxRecDepth 100000 in
theorem wof_31 : wofOk 31 := wt_of (ws := wof 31) (ps := [361, 75, 359, 360]) (by decide +kernel) (by decide +kernel)
set_option maxRecDepth 100000 in
theorem wof_32 : wofOk 32 := wt_of (ws := wof 32) (ps := [399, 75, 397, 398]) (by decide +kernel) (by decide +kernel)
set_option maxRecDepth 100000 in
theorem wof_33 : wofOk 33 := wt_of (ws := wof 33) (ps := [407, 75, 405, 406]) (by decide +kernel) (by decide +kernel)
set_option maxRecDepth 100000 in
theorem wof_34 : wofOk 34 := wt_of (ws := wof 34) (ps := [99, 74, 98]) (by decide +kernel) (by decide +kernel)
set_option maxRecDepth 100000 in
theorem wof_35 : wofOk 35 := wt_of (ws := wof 35) (ps := [450, 74, 448, 449]) (by decide +kernel) (by decide +kernel)
set_option maxRecDepth 100000 in
theorem wof_36 : wofOk 36 := wt_of (ws := wof 36) (ps := [343, 74, 341, 342]) (by decide +kernel) (by decide +kernel)
set_option maxRecDepth 100000 in
theorem wof_37 : wofOk 37 := wt_of (ws := wof 37) (ps := [326, 74, 324, 325]) (by decide +kernel) (by decide +kernel)
set_option maxRecDepth 100000 in
theorem wof_38 : wofOk 38 := wt_of (ws := wof 38) (ps := [331, 74, 329, 330]) (by decide +kernel) (by decide +kernel)
set_option maxRecDepth 100000 in
theorem wof_39 : wofOk 39 := wt_of (ws := wof 39) (ps := [347, 74, 345, 346]) (by decide +kernel) (by decide +kernel)
set_option maxRecDepth 100000 in
theorem wof_40 : wofOk 40 := wt_of (ws := wof 40) (ps := [372, 74, 370, 371]) (by decide +kernel) (by decide +kernel)
set_option maxRecDepth 100000 in
theorem wof_41 : wofOk 41 := wt_of (ws := wof 41) (ps := [270, 74, 268, 269]) (by decide +kernel) (by decide +kernel)
set_option maxRecDepth 100000 in
theorem wof_42 : wofOk 42 := wt_of (ws := wof 42) (ps := [276, 74, 274, 275]) (by decide +kernel) (by decide +kernel)
set_option maxRecDepth 100000 in
theorem wof_43 : wofOk 43 := wt_of (ws := wof 43) (ps := [287, 74, 285, 286]) (by decide +kernel) (by decide +kernel)
set_option maxRecDepth 100000 in
theorem wof_44 : wofOk 44 := wt_of (ws := wof 44) (ps := [416, 74, 414, 415]) (by decide +kernel) (by decide +kernel)
set_option maxRecDepth 100000 in
theorem wof_45 : wofOk 45 := wt_of (ws := wof 45) (ps := [434, 74, 432, 433]) (by decide +kernel) (by decide +kernel)
set_option maxRecDepth 100000 in
theorem wof_46 : wofOk 46 := wt_of (ws := wof 46) (ps := [430, 74, 428, 429]) (by decide +kernel) (by decide +kernel)
set_option maxRecDepth 100000 in
theorem wof_47 : wofOk 47 := wt_of (ws := wof 47) (ps := [296, 74, 294, 295]) (by decide +kernel) (by decide +kernel)
set_option maxRecDepth 100000 in
theorem wof_48 : wofOk 48 := wt_of (ws := wof 48) (ps := [292, 74, 290, 291]) (by decide +kernel) (by decide +kernel)
set_option maxRecDepth 100000 in
theorem wof_49 : wofOk 49 := wt_of (ws := wof 49) (ps := [438, 74, 436, 437]) (by decide +kernel) (by decide +kernel)
set_option maxRecDepth 100000 in
theorem wof_50 : wofOk 50 := wt_of (ws := wof 50) (ps := [425, 74, 423, 424]) (by decide +kernel) (by decide +kernel)
set_option maxRecDepth 100000 in
theorem wof_51 : wofOk 51 := wt_of (ws := wof 51) (ps := [483, 74, 481, 482]) (by decide +kernel) (by decide +kernel)
set_option maxRecDepth 100000 in
theorem wof_52 : wofOk 52 := wt_of (ws := wof 52) (ps := [308, 74, 306, 307]) (by decide +kernel) (by decide +kernel)
set_option maxRecDepth 100000 in
theorem wof_53 : wofOk 53 := wt_of (ws := wof 53) (ps := [382, 74, 380, 381]) (by decide +kernel) (by decide +kernel)
set_option maxRecDepth 100000 in
theorem wof_54 : wofOk 54 := wt_of (ws := wof 54) (ps := [386, 74, 385, 1]) (by decide +kernel) (by decide +kernel)
set_option maxRecDepth 100000 in
theorem wof_55 : wofOk 55 := wt_of (ws := wof 55) (ps := [390, 74, 389, 2]) (by decide +kernel) (by decide +kernel)
set_option maxRecDepth 100000 in
theorem wof_56 : wofOk 56 := wt_of (ws := wof 56) (ps := [394, 74, 393, 3]) (by decide +kernel) (by decide +kernel)
set_option maxRecDepth 100000 in
theorem wof_57 : wofOk 57 := wt_of (ws := wof 57) (ps := [403, 74, 402, 4]) (by decide +kernel) (by decide +kernel)
set_option maxRecDepth 100000 in
theorem wof_58 : wofOk 58 := wt_of (ws := wof 58) (ps := [572, 74, 570, 571]) (by decide +kernel) (by decide +kernel)
set_option maxRecDepth 100000 in
theorem wof_59 : wofOk 59 := wt_of (ws := wof 59) (ps := [739, 74, 737, 738]) (by decide +kernel) (by decide +kernel)
set_option maxRecDepth 100000 in
theorem wof_60 : wofOk 60 := wt_of (ws := wof 60) (ps := [747, 74, 745, 746]) (by decide +kernel) (by decide +kernel)
set_option maxRecDepth 100000 in
theorem wof_61 : wofOk 61 := wt_of (ws := wof 61) (ps := [809, 74, 807, 808]) (by decide +kernel) (by decide +kernel)
set_option maxRecDepth 100000 in
theorem wof_62 : wofOk 62 := wt_of (ws := wof 62) (ps := [91, 73, 90]) (by decide +kernel) (by decide +kernel)
set_option maxRecDepth 100000 in
theorem wof_63 : wofOk 63 := wt_of (ws := wof 63) (ps := [252, 73, 250, 251]) (by decide +kernel) (by decide +kernel)
set_option maxRecDepth 100000 in
theorem wof_64 : wofOk 64 := wt_of (ws := wof 64) (ps := [283, 73, 281, 282]) (by decide +kernel) (by decide +kernel)
set_option maxRecDepth 100000 in
theorem wof_65 : wofOk 65 := wt_of (ws := wof 65) (ps := [300, 73, 298, 299]) (by decide +kernel) (by decide +kernel)
set_option maxRecDepth 100000 in
theorem wof_66 : wofOk 66 := wt_of (ws := wof 66) (ps := [304, 73, 302, 303]) (by decide +kernel) (by decide +kernel)
set_option maxRecDepth 100000 in
theorem wof_67 : wofOk 67 := wt_of (ws := wof 67) (ps := [319, 73, 317, 318]) (by decide +kernel) (by decide +kernel)
set_option maxRecDepth 100000 in
theorem wof_68 : wofOk 68 := wt_of (ws := wof 68) (ps := [339, 73, 337, 338]) (by decide +kernel) (by decide +kernel)
set_option maxRecDepth 100000 in
theorem wof_69 : wofOk 69 := wt_of (ws := wof 69) (ps := [365, 73, 363, 364]) (by decide +kernel) (by decide +kernel)
set_option maxRecDepth 100000 in
theorem wof_70 : wofOk 70 := wt_of (ws := wof 70) (ps := [376, 73, 374, 375]) (by decide +kernel) (by decide +kernel)
set_option maxRecDepth 100000 in
theorem wof_71 : wofOk 71 := wt_of (ws := wof 71) (ps := [421, 73, 419, 420]) (by decide +kernel) (by decide +kernel)
set_option maxRecDepth 100000 in
theorem wof_72 : wofOk 72 := wt_of (ws := wof 72) (ps := [442, 73, 440, 441]) (by decide +kernel) (by decide +kernel)
set_option maxRecDepth 100000 in
theorem wof_73 : wofOk 73 := wt_of (ws := wof 73) (ps := [461, 73, 459, 460]) (by decide +kernel) (by decide +kernel)
set_option maxRecDepth 100000 in
theorem wof_74 : wofOk 74 := wt_of (ws := wof 74) (ps := [465, 73, 463, 464]) (by decide +kernel) (by decide +kernel)
set_option maxRecDepth 100000 in
theorem wof_75 : wofOk 75 := wt_of (ws := wof 75) (ps := [470, 73, 468, 469]) (by decide +kernel) (by decide +kernel)
set_option maxRecDepth 100000 in
theorem wof_76 : wofOk 76 := wt_of (ws := wof 76) (ps := [474, 73, 472, 473]) (by decide +kernel) (by decide +kernel)
set_option maxRecDepth 100000 in
theorem wof_77 : wofOk 77 := wt_of (ws := wof 77) (ps := [479, 73, 477, 478]) (by decide +kernel) (by decide +kernel)
set_option maxRecDepth 100000 in
theorem wof_78 : wofOk 78 := wt_of (ws := wof 78) (ps := [487, 73, 485, 486]) (by decide +kernel) (by decide +kernel)
set_option maxRecDepth 100000 in
theorem wof_79 : wofOk 79 := wt_of (ws := wof 79) (ps := [491, 73, 489, 490]) (by decide +kernel) (by decide +kernel)
set_option maxRecDepth 100000 in
theorem wof_80 : wofOk 80 := wt_of (ws := wof 80) (ps := [499, 73, 497, 498]) (by decide +kernel) (by decide +kernel)
set_option maxRecDepth 100000 in
theorem wof_81 : wofOk 81 := wt_of (ws := wof 81) (ps := [503, 73, 501, 502]) (by decide +kernel) (by decide +kernel)
set_option maxRecDepth 100000 in
theorem wof_82 : wofOk 82 := wt_of (ws := wof 82) (ps := [507, 73, 505, 506]) (by decide +kernel) (by decide +kernel)
set_option maxRecDepth 100000 in
theorem wof_83 : wofOk 83 := wt_of (ws := wof 83) (ps := [511, 73, 509, 510]) (by decide +kernel) (by decide +kernel)
set_option maxRecDepth 100000 in
theorem wof_84 : wofOk 84 := wt_of (ws := wof 84) (ps := [519, 73, 517, 518]) (by decide +kernel) (by decide +kernel)
set_option maxRecDepth 100000 in
theorem wof_85 : wofOk 85 := wt_of (ws := wof 85) (ps := [556, 73, 554, 555]) (by decide +kernel) (by decide +kernel)
set_option maxRecDepth 100000 in
theorem wof_86 : wofOk 86 := wt_of (ws := wof 86) (ps := [560, 73, 558, 559]) (by decide +kernel) (by decide +kernel)
set_option maxRecDepth 100000 in
theorem wof_87 : wofOk 87 := wt_of (ws := wof 87) (ps := [568, 73, 566, 567]) (by decide +kernel) (by decide +kernel)
set_option maxRecDepth 100000 in
theorem wof_88 : wofOk 88 := wt_of (ws := wof 88) (ps := [577, 73, 575, 576]) (by decide +kernel) (by decide +kernel)
set_option maxRecDepth 100000 in
theorem wof_89 : wofOk 89 := wt_of (ws := wof 89) (ps := [584, 73, 582, 583]) (by decide +kernel) (by decide +kernel)
set_option maxRecDepth 100000 in
theorem wof_90 : wofOk 90 := wt_of (ws := wof 90) (ps := [588, 73, 586, 587]) (by decide +kernel) (by decide +kernel)
set_option maxRecDepth 100000 in
theorem wof_91 : wofOk 91 := wt_of (ws := wof 91) (ps := [596, 73, 594, 595]) (by decide +kernel) (by decide +kernel)
set_option maxRecDepth 100000 in
theorem wof_92 : wofOk 92 := wt_of (ws := wof 92) (ps := [600, 73, 598, 599]) (by decide +kernel) (by decide +kernel)
set_option maxRecDepth 100000 in
theorem wof_93 : wofOk 93 := wt_of (ws := wof 93) (ps := [732, 73, 730, 731]) (by decide +kernel) (by decide +kernel)
set_option maxRecDepth 100000 in
theorem wof_94 : wofOk 94 := wt_of (ws := wof 94) (ps := [743, 73, 741, 742]) (by decide +kernel) (by decide +kernel)
set_option maxRecDepth 100000 in
theorem wof_95 : wofOk 95 := wt_of (ws := wof 95) (ps := [757, 73, 755, 756]) (by decide +kernel) (by decide +kernel)
set_option maxRecDepth 100000 in
theorem wof_96 : wofOk 96 := wt_of (ws := wof 96) (ps := [766, 73, 764, 765]) (by decide +kernel) (by decide +kernel)
set_option maxRecDepth 100000 in
theorem wof_97 : wofOk 97 := wt_of (ws := wof 97) (ps := [775, 73, 773, 774]) (by decide +kernel) (by decide +kernel)
set_option maxRecDepth 100000 in
theorem wof_98 : wofOk 98 := wt_of (ws := wof 98) (ps := [784, 73, 782, 783]) (by decide +kernel) (by decide +kernel)
set_option maxRecDepth 100000 in
theorem wof_99 : wofOk 99 := wt_of (ws := wof 99) (ps := [789, 73, 787, 788]) (by decide +kernel) (by decide +kernel)
set_option maxRecDepth 100000 in
theorem wof_100 : wofOk 100 := wt_of (ws := wof 100) (ps := [793, 73, 791, 792]) (by decide +kernel) (by decide +kernel)
set_option maxRecDepth 100000 in
theorem wof_101 : wofOk 101 := wt_of (ws := wof 101) (ps := [797, 73, 795, 796]) (by decide +kernel) (by decide +kernel)
set_option maxRecDepth 100000 in
theorem wof_102 : wofOk 102 := wt_of (ws := wof 102) (ps := [801, 73, 799, 800]) (by decide +kernel) (by decide +kernel)
set_option maxRecDepth 100000 in
theorem wof_103 : wofOk 103 := wt_of (ws := wof 103) (ps := [805, 73, 803, 804]) (by decide +kernel) (by decide +kernel)
set_option maxRecDepth 100000 in
theorem wof_104 : wofOk 104 := wt_of (ws := wof 104) (ps := [813, 73, 811, 812]) (by decide +kernel) (by decide +kernel)
set_option maxRecDepth 100000 in
theorem wof_105 : wofOk 105 := wt_of (ws := wof 105) (ps := [266, 73, 265, 0]) (by decide +kernel) (by decide +kernel)
set_option maxRecDepth 100000 in
theorem wof_106 : wofOk 106 := wt_of (ws := wof 106) (ps := [261, 73, 260]) (by decide +kernel) (by decide +kernel)
set_option maxRecDepth 100000 in
theorem wof_107 : wofOk 107 := wt_of (ws := wof 107) (ps := [255, 73, 254]) (by decide +kernel) (by decide +kernel)
set_option maxRecDepth 100000 in
theorem wof_108 : wofOk 108 := wt_of (ws := wof 108) (ps := [258, 73, 257]) (by decide +kernel) (by decide +kernel)
set_option maxRecDepth 100000 in
theorem wof_109 : wofOk 109 := wt_of (ws := wof 109) (ps := [322, 73, 321]) (by decide +kernel) (by decide +kernel)
set_option maxRecDepth 100000 in
theorem wof_110 : wofOk 110 := wt_of (ws := wof 110) (ps := [735, 73, 734]) (by decide +kernel) (by decide +kernel)
set_option maxRecDepth 100000 in
theorem wof_111 : wofOk 111 := wt_of (ws := wof 111) (ps := [368, 73, 367]) (by decide +kernel) (by decide +kernel)
set_option maxRecDepth 100000 in
theorem wof_112 : wofOk 112 := wt_of (ws := wof 112) (ps := [750, 73, 749]) (by decide +kernel) (by decide +kernel)
set_option maxRecDepth 100000 in
theorem wof_113 : wofOk 113 := wt_of (ws := wof 113) (ps := [580, 73, 579]) (by decide +kernel) (by decide +kernel)
set_option maxRecDepth 100000 in
theorem wof_114 : wofOk 114 := wt_of (ws := wof 114) (ps := [446, 73, 445, 5]) (by decide +kernel) (by decide +kernel)
set_option maxRecDepth 100000 in
theorem wof_115 : wofOk 115 := wt_of (ws := wof 115) (ps := [495, 73, 494, 6]) (by decide +kernel) (by decide +kernel)
set_option maxRecDepth 100000 in
theorem wof_116 : wofOk 116 := wt_of (ws := wof 116) (ps := [515, 73, 514, 7]) (by decide +kernel) (by decide +kernel)
set_option maxRecDepth 100000 in
theorem wof_117 : wofOk 117 := wt_of (ws := wof 117) (ps := [531, 73, 530, 10]) (by decide +kernel) (by decide +kernel)
set_option maxRecDepth 100000 in
theorem wof_118 : wofOk 118 := wt_of (ws := wof 118) (ps := [527, 73, 526, 9]) (by decide +kernel) (by decide +kernel)
set_option maxRecDepth 100000 in
theorem wof_119 : wofOk 119 := wt_of (ws := wof 119) (ps := [523, 73, 522, 8]) (by decide +kernel) (by decide +kernel)
set_option maxRecDepth 100000 in
theorem wof_120 : wofOk 120 := wt_of (ws := wof 120) (ps := [540, 73, 539, 11]) (by decide +kernel) (by decide +kernel)
set_option maxRecDepth 100000 in
theorem wof_121 : wofOk 121 := wt_of (ws := wof 121) (ps := [564, 73, 563, 12]) (by decide +kernel) (by decide +kernel)
set_option maxRecDepth 100000 in
theorem wof_122 : wofOk 122 := wt_of (ws := wof 122) (ps := [818, 79, 817]) (by decide +kernel) (by decide +kernel)
set_option maxRecDepth 100000 in
theorem wof_123 : wofOk 123 := wt_of (ws := wof 123) (ps := [888, 79, 887]) (by decide +kernel) (by decide +kernel)
set_option maxRecDepth 100000 in
theorem wof_124 : wofOk 124 := wt_of (ws := wof 124) (ps := [897, 79, 896, 25]) (by decide +kernel) (by decide +kernel)
set_option maxRecDepth 100000 in
theorem wof_125 : wofOk 125 := wt_of (ws := wof 125) (ps := [892, 79, 891, 24]) (by decide +kernel) (by decide +kernel)
set_option maxRecDepth 100000 in
theorem wof_126 : wofOk 126 := wt_of (ws := wof 126) (ps := [1052, 79, 1051]) (by decide +kernel) (by decide +kernel)
set_option maxRecDepth 100000 in
theorem wof_127 : wofOk 127 := wt_of (ws := wof 127) (ps := [881, 79, 880]) (by decide +kernel) (by decide +kernel)
set_option maxRecDepth 100000 in
theorem wof_128 : wofOk 128 := wt_of (ws := wof 128) (ps := [884, 79, 883]) (by decide +kernel) (by decide +kernel)
set_option maxRecDepth 100000 in
theorem wof_129 : wofOk 129 := wt_of (ws := wof 129) (ps := [959, 79, 958, 33]) (by decide +kernel) (by decide +kernel)
set_option maxRecDepth 100000 in
theorem wof_130 : wofOk 130 := wt_of (ws := wof 130) (ps := [938, 79, 937]) (by decide +kernel) (by decide +kernel)
set_option maxRecDepth 100000 in
theorem wof_131 : wofOk 131 := wt_of (ws := wof 131) (ps := [918, 79, 917, 29]) (by decide +kernel) (by decide +kernel)
set_option maxRecDepth 100000 in
theorem wof_132 : wofOk 132 := wt_of (ws := wof 132) (ps := [906, 79, 905, 26]) (by decide +kernel) (by decide +kernel)
set_option maxRecDepth 100000 in
theorem wof_133 : wofOk 133 := wt_of (ws := wof 133) (ps := [967, 79, 966]) (by decide +kernel) (by decide +kernel)
set_option maxRecDepth 100000 in
theorem wof_134 : wofOk 134 := wt_of (ws := wof 134) (ps := [1016, 79, 1015]) (by decide +kernel) (by decide +kernel)
set_option maxRecDepth 100000 in
theorem wof_135 : wofOk 135 := wt_of (ws := wof 135) (ps := [1099, 79, 1098, 50]) (by decide +kernel) (by decide +kernel)
set_option maxRecDepth 100000 in
theorem wof_136 : wofOk 136 := wt_of (ws := wof 136) (ps := [941, 79, 940]) (by decide +kernel) (by decide +kernel)
set_option maxRecDepth 100000 in
theorem wof_137 : wofOk 137 := wt_of (ws := wof 137) (ps := [878, 79, 876, 877]) (by decide +kernel) (by decide +kernel)
set_option maxRecDepth 100000 in
theorem wof_138 : wofOk 138 := wt_of (ws := wof 138) (ps := [910, 79, 909, 27]) (by decide +kernel) (by decide +kernel)
set_option maxRecDepth 100000 in
theorem wof_139 : wofOk 139 := wt_of (ws := wof 139) (ps := [914, 79, 913, 28]) (by decide +kernel) (by decide +kernel)
set_option maxRecDepth 100000 in
theorem wof_140 : wofOk 140 := wt_of (ws := wof 140) (ps := [922, 79, 921, 30]) (by decide +kernel) (by decide +kernel)
set_option maxRecDepth 100000 in
theorem wof_141 : wofOk 141 := wt_of (ws := wof 141) (ps := [901, 79, 899, 900]) (by decide +kernel) (by decide +kernel)
set_option maxRecDepth 100000 in
theorem wof_142 : wofOk 142 := wt_of (ws := wof 142) (ps := [926, 79, 924, 925]) (by decide +kernel) (by decide +kernel)
set_option maxRecDepth 100000 in
theorem wof_143 : wofOk 143 := wt_of (ws := wof 143) (ps := [935, 79, 934, 31]) (by decide +kernel) (by decide +kernel)
set_option maxRecDepth 100000 in
theorem wof_144 : wofOk 144 := wt_of (ws := wof 144) (ps := [931, 79, 929, 930]) (by decide +kernel) (by decide +kernel)
set_option maxRecDepth 100000 in
theorem wof_145 : wofOk 145 := wt_of (ws := wof 145) (ps := [951, 79, 950, 32]) (by decide +kernel) (by decide +kernel)
set_option maxRecDepth 100000 in
theorem wof_146 : wofOk 146 := wt_of (ws := wof 146) (ps := [945, 79, 943, 944]) (by decide +kernel) (by decide +kernel)
set_option maxRecDepth 100000 in
theorem wof_147 : wofOk 147 := wt_of (ws := wof 147) (ps := [964, 79, 963, 34]) (by decide +kernel) (by decide +kernel)
set_option maxRecDepth 100000 in
theorem wof_148 : wofOk 148 := wt_of (ws := wof 148) (ps := [971, 79, 970, 35]) (by decide +kernel) (by decide +kernel)
set_option maxRecDepth 100000 in
theorem wof_149 : wofOk 149 := wt_of (ws := wof 149) (ps := [975, 79, 974, 36]) (by decide +kernel) (by decide +kernel)
set_option maxRecDepth 100000 in
theorem wof_150 : wofOk 150 := wt_of (ws := wof 150) (ps := [955, 79, 953, 954]) (by decide +kernel) (by decide +kernel)
set_option maxRecDepth 100000 in
theorem wof_151 : wofOk 151 := wt_of (ws := wof 151) (ps := [982, 79, 981]) (by decide +kernel) (by decide +kernel)
set_option maxRecDepth 100000 in
theorem wof_152 : wofOk 152 := wt_of (ws := wof 152) (ps := [979, 79, 977, 978]) (by decide +kernel) (by decide +kernel)
set_option maxRecDepth 100000 in
theorem wof_153 : wofOk 153 := wt_of (ws := wof 153) (ps := [1001, 79, 1000, 39]) (by decide +kernel) (by decide +kernel)
set_option maxRecDepth 100000 in
theorem wof_154 : wofOk 154 := wt_of (ws := wof 154) (ps := [1005, 79, 1004, 40]) (by decide +kernel) (by decide +kernel)
set_option maxRecDepth 100000 in
theorem wof_155 : wofOk 155 := wt_of (ws := wof 155) (ps := [1009, 79, 1008, 41]) (by decide +kernel) (by decide +kernel)
set_option maxRecDepth 100000 in
theorem wof_156 : wofOk 156 := wt_of (ws := wof 156) (ps := [1013, 79, 1012, 42]) (by decide +kernel) (by decide +kernel)
set_option maxRecDepth 100000 in
theorem wof_157 : wofOk 157 := wt_of (ws := wof 157) (ps := [997, 79, 996, 38]) (by decide +kernel) (by decide +kernel)
set_option maxRecDepth 100000 in
theorem wof_158 : wofOk 158 := wt_of (ws := wof 158) (ps := [993, 79, 992, 37]) (by decide +kernel) (by decide +kernel)
set_option maxRecDepth 100000 in
theorem wof_159 : wofOk 159 := wt_of (ws := wof 159) (ps := [1020, 79, 1019, 43]) (by decide +kernel) (by decide +kernel)
set_option maxRecDepth 100000 in
theorem wof_160 : wofOk 160 := wt_of (ws := wof 160) (ps := [1028, 79, 1027, 44]) (by decide +kernel) (by decide +kernel)
set_option maxRecDepth 100000 in
theorem wof_161 : wofOk 161 := wt_of (ws := wof 161) (ps := [986, 79, 984, 985]) (by decide +kernel) (by decide +kernel)
set_option maxRecDepth 100000 in
theorem wof_162 : wofOk 162 := wt_of (ws := wof 162) (ps := [1036, 79, 1035, 46]) (by decide +kernel) (by decide +kernel)
set_option maxRecDepth 100000 in
theorem wof_163 : wofOk 163 := wt_of (ws := wof 163) (ps := [1032, 79, 1031, 45]) (by decide +kernel) (by decide +kernel)
set_option maxRecDepth 100000 in
theorem wof_164 : wofOk 164 := wt_of (ws := wof 164) (ps := [1040, 79, 1039, 47]) (by decide +kernel) (by decide +kernel)
set_option maxRecDepth 100000 in
theorem wof_165 : wofOk 165 := wt_of (ws := wof 165) (ps := [1024, 79, 1022, 1023]) (by decide +kernel) (by decide +kernel)
set_option maxRecDepth 100000 in
theorem wof_166 : wofOk 166 := wt_of (ws := wof 166) (ps := [1049, 79, 1048, 48]) (by decide +kernel) (by decide +kernel)
set_option maxRecDepth 100000 in
theorem wof_167 : wofOk 167 := wt_of (ws := wof 167) (ps := [1044, 79, 1042, 1043]) (by decide +kernel) (by decide +kernel)
set_option maxRecDepth 100000 in
theorem wof_168 : wofOk 168 := wt_of (ws := wof 168) (ps := [1056, 79, 1054, 1055]) (by decide +kernel) (by decide +kernel)
set_option maxRecDepth 100000 in
theorem wof_169 : wofOk 169 := wt_of (ws := wof 169) (ps := [1060, 79, 1058, 1059]) (by decide +kernel) (by decide +kernel)
set_option maxRecDepth 100000 in
theorem wof_170 : wofOk 170 := wt_of (ws := wof 170) (ps := [1065, 79, 1063, 1064]) (by decide +kernel) (by decide +kernel)
set_option maxRecDepth 100000 in
theorem wof_171 : wofOk 171 := wt_of (ws := wof 171) (ps := [1069, 79, 1067, 1068]) (by decide +kernel) (by decide +kernel)
set_option maxRecDepth 100000 in
theorem wof_172 : wofOk 172 := wt_of (ws := wof 172) (ps := [1073, 79, 1071, 1072]) (by decide +kernel) (by decide +kernel)
set_option maxRecDepth 100000 in
theorem wof_173 : wofOk 173 := wt_of (ws := wof 173) (ps := [1077, 79, 1075, 1076]) (by decide +kernel) (by decide +kernel)
set_option maxRecDepth 100000 in
theorem wof_174 : wofOk 174 := wt_of (ws := wof 174) (ps := [1086, 79, 1085, 49]) (by decide +kernel) (by decide +kernel)
set_option maxRecDepth 100000 in
theorem wof_175 : wofOk 175 := wt_of (ws := wof 175) (ps := [1082, 79, 1080, 1081]) (by decide +kernel) (by decide +kernel)
set_option maxRecDepth 100000 in
theorem wof_176 : wofOk 176 := wt_of (ws := wof 176) (ps := [1090, 79, 1088, 1089]) (by decide +kernel) (by decide +kernel)
set_option maxRecDepth 100000 in
theorem wof_177 : wofOk 177 := wt_of (ws := wof 177) (ps := [1095, 79, 1093, 1094]) (by decide +kernel) (by decide +kernel)
set_option maxRecDepth 100000 in
theorem wof_178 : wofOk 178 := wt_of (ws := wof 178) (ps := [1107, 79, 1106, 51]) (by decide +kernel) (by decide +kernel)
set_option maxRecDepth 100000 in
theorem wof_179 : wofOk 179 := wt_of (ws := wof 179) (ps := [1103, 79, 1101, 1102]) (by decide +kernel) (by decide +kernel)
set_option maxRecDepth 100000 in
theorem wof_180 : wofOk 180 := wt_of (ws := wof 180) (ps := [1111, 79, 1109, 1110]) (by decide +kernel) (by decide +kernel)
set_option maxRecDepth 100000 in
theorem wof_181 : wofOk 181 := wt_of (ws := wof 181) (ps := [1136, 79, 1135, 55]) (by decide +kernel) (by decide +kernel)
set_option maxRecDepth 100000 in
theorem wof_182 : wofOk 182 := wt_of (ws := wof 182) (ps := [1132, 79, 1131, 54]) (by decide +kernel) (by decide +kernel)
set_option maxRecDepth 100000 in
theorem wof_183 : wofOk 183 := wt_of (ws := wof 183) (ps := [1120, 79, 1119, 52]) (by decide +kernel) (by decide +kernel)
set_option maxRecDepth 100000 in
theorem wof_184 : wofOk 184 := wt_of (ws := wof 184) (ps := [1116, 79, 1114, 1115]) (by decide +kernel) (by decide +kernel)
set_option maxRecDepth 100000 in
theorem wof_185 : wofOk 185 := wt_of (ws := wof 185) (ps := [1140, 79, 1138, 1139]) (by decide +kernel) (by decide +kernel)
set_option maxRecDepth 100000 in
theorem wof_186 : wofOk 186 := wt_of (ws := wof 186) (ps := [1144, 79, 1142, 1143]) (by decide +kernel) (by decide +kernel)
set_option maxRecDepth 100000 in
theorem wof_187 : wofOk 187 := wt_of (ws := wof 187) (ps := [1152, 79, 1151, 56]) (by decide +kernel) (by decide +kernel)
set_option maxRecDepth 100000 in
theorem wof_188 : wofOk 188 := wt_of (ws := wof 188) (ps := [1148, 79, 1146, 1147]) (by decide +kernel) (by decide +kernel)
set_option maxRecDepth 100000 in
theorem wof_189 : wofOk 189 := wt_of (ws := wof 189) (ps := [1157, 79, 1155, 1156]) (by decide +kernel) (by decide +kernel)
set_option maxRecDepth 100000 in
theorem wof_190 : wofOk 190 := wt_of (ws := wof 190) (ps := [1162, 79, 1160, 1161]) (by decide +kernel) (by decide +kernel)
set_option maxRecDepth 100000 in
theorem wof_191 : wofOk 191 := wt_of (ws := wof 191) (ps := [1166, 79, 1164, 1165]) (by decide +kernel) (by decide +kernel)
set_option maxRecDepth 100000 in
theorem wof_192 : wofOk 192 := wt_of (ws := wof 192) (ps := [1171, 79, 1169, 1170]) (by decide +kernel) (by decide +kernel)
set_option maxRecDepth 100000 in
theorem wof_193 : wofOk 193 := wt_of (ws := wof 193) (ps := [1186, 79, 1185]) (by decide +kernel) (by decide +kernel)
set_option maxRecDepth 100000 in
theorem wof_194 : wofOk 194 := wt_of (ws := wof 194) (ps := [1189, 79, 1188]) (by decide +kernel) (by decide +kernel)
set_option maxRecDepth 100000 in
theorem wof_195 : wofOk 195 := wt_of (ws := wof 195) (ps := [1183, 79, 1182, 58]) (by decide +kernel) (by decide +kernel)
set_option maxRecDepth 100000 in
theorem wof_196 : wofOk 196 := wt_of (ws := wof 196) (ps := [1179, 79, 1178, 57]) (by decide +kernel) (by decide +kernel)
set_option maxRecDepth 100000 in
theorem wof_197 : wofOk 197 := wt_of (ws := wof 197) (ps := [1209, 79, 1208, 63]) (by decide +kernel) (by decide +kernel)
set_option maxRecDepth 100000 in
theorem wof_198 : wofOk 198 := wt_of (ws := wof 198) (ps := [1205, 79, 1204, 62]) (by decide +kernel) (by decide +kernel)
set_option maxRecDepth 100000 in
theorem wof_199 : wofOk 199 := wt_of (ws := wof 199) (ps := [1221, 79, 1220, 66]) (by decide +kernel) (by decide +kernel)
set_option maxRecDepth 100000 in
theorem wof_200 : wofOk 200 := wt_of (ws := wof 200) (ps := [1213, 79, 1212, 64]) (by decide +kernel) (by decide +kernel)
set_option maxRecDepth 100000 in
theorem wof_201 : wofOk 201 := wt_of (ws := wof 201) (ps := [1201, 79, 1200, 61]) (by decide +kernel) (by decide +kernel)
set_option maxRecDepth 100000 in
theorem wof_202 : wofOk 202 := wt_of (ws := wof 202) (ps := [1233, 79, 1232, 69]) (by decide +kernel) (by decide +kernel)
set_option maxRecDepth 100000 in
theorem wof_203 : wofOk 203 := wt_of (ws := wof 203) (ps := [1197, 79, 1196, 60]) (by decide +kernel) (by decide +kernel)
set_option maxRecDepth 100000 in
theorem wof_204 : wofOk 204 := wt_of (ws := wof 204) (ps := [1225, 79, 1224, 67]) (by decide +kernel) (by decide +kernel)
set_option maxRecDepth 100000 in
theorem wof_205 : wofOk 205 := wt_of (ws := wof 205) (ps := [1229, 79, 1228, 68]) (by decide +kernel) (by decide +kernel)
set_option maxRecDepth 100000 in
theorem wof_206 : wofOk 206 := wt_of (ws := wof 206) (ps := [1217, 79, 1216, 65]) (by decide +kernel) (by decide +kernel)
set_option maxRecDepth 100000 in
theorem wof_207 : wofOk 207 := wt_of (ws := wof 207) (ps := [1237, 79, 1236, 70]) (by decide +kernel) (by decide +kernel)
set_option maxRecDepth 100000 in
theorem wof_208 : wofOk 208 := wt_of (ws := wof 208) (ps := [1241, 79, 1240, 71]) (by decide +kernel) (by decide +kernel)
set_option maxRecDepth 100000 in
theorem wof_209 : wofOk 209 := wt_of (ws := wof 209) (ps := [1193, 79, 1192, 59]) (by decide +kernel) (by decide +kernel)
set_option maxRecDepth 100000 in
theorem wof_210 : wofOk 210 := wt_of (ws := wof 210) (ps := [1175, 79, 1173, 1174]) (by decide +kernel) (by decide +kernel)
set_option maxRecDepth 100000 in
theorem wof_211 : wofOk 211 := wt_of (ws := wof 211) (ps := [1245, 79, 1243, 1244]) (by decide +kernel) (by decide +kernel)
set_option maxRecDepth 100000 in
theorem wof_212 : wofOk 212 := wt_of (ws := wof 212) (ps := [1252, 79, 1251]) (by decide +kernel) (by decide +kernel)
set_option maxRecDepth 100000 in
theorem wof_213 : wofOk 213 := wt_of (ws := wof 213) (ps := [1249, 79, 1247, 1248]) (by decide +kernel) (by decide +kernel)
set_option maxRecDepth 100000 in
theorem wof_214 : wofOk 214 := wt_of (ws := wof 214) (ps := [1127, 79, 1126]) (by decide +kernel) (by decide +kernel)
set_option maxRecDepth 100000 in
theorem wof_215 : wofOk 215 := wt_of (ws := wof 215) (ps := [1257, 79, 1255, 1256]) (by decide +kernel) (by decide +kernel)
set_option maxRecDepth 100000 in
theorem wof_216 : wofOk 216 := wt_of (ws := wof 216) (ps := [1262, 79, 1260, 1261]) (by decide +kernel) (by decide +kernel)
set_option maxRecDepth 100000 in
theorem wof_217 : wofOk 217 := wt_of (ws := wof 217) (ps := [1266, 79, 1264, 1265]) (by decide +kernel) (by decide +kernel)
set_option maxRecDepth 100000 in
theorem wof_218 : wofOk 218 := wt_of (ws := wof 218) (ps := [1124, 79, 1123, 53]) (by decide +kernel) (by decide +kernel)
set_option maxRecDepth 100000 in
theorem wof_219 : wofOk 219 := wt_of (ws := wof 219) (ps := [1270, 79, 1268, 1269]) (by decide +kernel) (by decide +kernel)
set_option maxRecDepth 100000 in
theorem wof_220 : wofOk 220 := wt_of (ws := wof 220) (ps := [1274, 79, 1272, 1273]) (by decide +kernel) (by decide +kernel)
set_option maxRecDepth 100000 in
theorem wof_221 : wofOk 221 := wt_of (ws := wof 221) (ps := [1278, 79, 1276, 1277]) (by decide +kernel) (by decide +kernel)
set_option maxRecDepth 100000 in
theorem wof_222 : wofOk 222 := wt_of (ws := wof 222) (ps := [1282, 79, 1280, 1281]) (by decide +kernel) (by decide +kernel)
set_option maxRecDepth 100000 in
theorem wof_223 : wofOk 223 := wt_of (ws := wof 223) (ps := [1286, 79, 1284, 1285]) (by decide +kernel) (by decide +kernel)
set_option maxRecDepth 100000 in
theorem wof_224 : wofOk 224 := wt_of (ws := wof 224) (ps := [1290, 79, 1288, 1289]) (by decide +kernel) (by decide +kernel)
set_option maxRecDepth 100000 in
theorem wof_225 : wofOk 225 := wt_of (ws := wof 225) (ps := [1294, 79, 1292, 1293]) (by decide +kernel) (by decide +kernel)
set_option maxRecDepth 100000 in
theorem wof_226 : wofOk 226 := wt_of (ws := wof 226) (ps := [312, 81, 311]) (by decide +kernel) (by decide +kernel)
set_option maxRecDepth 100000 in
theorem wof_227 : wofOk 227 := wt_of (ws := wof 227) (ps := [411, 80, 410]) (by decide +kernel) (by decide +kernel)
set_option maxRecDepth 100000 in
theorem wof_228 : wofOk 228 := wt_of (ws := wof 228) (ps := [279, 80, 278]) (by decide +kernel) (by decide +kernel)
set_option maxRecDepth 100000 in
theorem wof_229 : wofOk 229 := wt_of (ws := wof 229) (ps := [636, 83, 634, 635]) (by decide +kernel) (by decide +kernel)
set_option maxRecDepth 100000 in
theorem wof_230 : wofOk 230 := wt_of (ws := wof 230) (ps := [646, 83, 644, 645]) (by decide +kernel) (by decide +kernel)
set_option maxRecDepth 100000 in
theorem wof_231 : wofOk 231 := wt_of (ws := wof 231) (ps := [640, 83, 638, 639]) (by decide +kernel) (by decide +kernel)
set_option maxRecDepth 100000 in
theorem wof_232 : wofOk 232 := wt_of (ws := wof 232) (ps := [650, 83, 648, 649]) (by decide +kernel) (by decide +kernel)
set_option maxRecDepth 100000 in
theorem wof_233 : wofOk 233 := wt_of (ws := wof 233) (ps := [656, 83, 655]) (by decide +kernel) (by decide +kernel)
set_option maxRecDepth 100000 in
theorem wof_234 : wofOk 234 := wt_of (ws := wof 234) (ps := [653, 84, 652]) (by decide +kernel) (by decide +kernel)
set_option maxRecDepth 100000 in
theorem wof_235 : wofOk 235 := wt_of (ws := wof 235) (ps := [661, 85, 660]) (by decide +kernel) (by decide +kernel)
theorem wof_b0 : ∀ k, k < 16 → wofOk (0 + k) := by
  intro k hk
  match k, hk with
  | 0, _ => exact wof_0
  | 1, _ => exact wof_1
  | 2, _ => exact wof_2
  | 3, _ => exact wof_3
  | 4, _ => exact wof_4
  | 5, _ => exact wof_5
  | 6, _ => exact wof_6
  | 7, _ => exact wof_7
  | 8, _ => exact wof_8
  | 9, _ => exact wof_9
  | 10, _ => exact wof_10
  | 11, _ => exact wof_11
  | 12, _ => exact wof_12
  | 13, _ => exact wof_13
  | 14, _ => exact wof_14
  | 15, _ => exact wof_15
  | k + 16, hk => exact absurd hk (by omega)
theorem wof_b1 : ∀ k, k < 16 → wofOk (16 + k) := by
  intro k hk
  match k, hk with
  | 0, _ => exact wof_16
  | 1, _ => exact wof_17
  | 2, _ => exact wof_18
  | 3, _ => exact wof_19
  | 4, _ => exact wof_20
  | 5, _ => exact wof_21
  | 6, _ => exact wof_22
  | 7, _ => exact wof_23
  | 8, _ => exact wof_24
  | 9, _ => exact wof_25
  | 10, _ => exact wof_26
  | 11, _ => exact wof_27
  | 12, _ => exact wof_28
  | 13, _ => exact wof_29
  | 14, _ => exact wof_30
  | 15, _ => exact wof_31
  | k + 16, hk => exact absurd hk (by omega)
theorem wof_b2 : ∀ k, k < 16 → wofOk (32 + k) := by
  intro k hk
  match k, hk with
  | 0, _ => exact wof_32
  | 1, _ => exact wof_33
  | 2, _ => exact wof_34
  | 3, _ => exact wof_35
  | 4, _ => exact wof_36
  | 5, _ => exact wof_37
  | 6, _ => exact wof_38
  | 7, _ => exact wof_39
  | 8, _ => exact wof_40
  | 9, _ => exact wof_41
  | 10, _ => exact wof_42
  | 11, _ => exact wof_43
  | 12, _ => exact wof_44
  | 13, _ => exact wof_45
  | 14, _ => exact wof_46
  | 15, _ => exact wof_47
  | k + 16, hk => exact absurd hk (by omega)
theorem wof_b3 : ∀ k, k < 16 → wofOk (48 + k) := by
  intro k hk
  match k, hk with
  | 0, _ => exact wof_48
  | 1, _ => exact wof_49
  | 2, _ => exact wof_50
  | 3, _ => exact wof_51
  | 4, _ => exact wof_52
  | 5, _ => exact wof_53
  | 6, _ => exact wof_54
  | 7, _ => exact wof_55
  | 8, _ => exact wof_56
  | 9, _ => exact wof_57
  | 10, _ => exact wof_58
  | 11, _ => exact wof_59
  | 12, _ => exact wof_60
  | 13, _ => exact wof_61
  | 14, _ => exact wof_62
  | 15, _ => exact wof_63
  | k + 16, hk => exact absurd hk (by omega)
theorem wof_b4 : ∀ k, k < 16 → wofOk (64 + k) := by
  intro k hk
  match k, hk with
  | 0, _ => exact wof_64
  | 1, _ => exact wof_65
  | 2, _ => exact wof_66
  | 3, _ => exact wof_67
  | 4, _ => exact wof_68
  | 5, _ => exact wof_69
  | 6, _ => exact wof_70
  | 7, _ => exact wof_71
  | 8, _ => exact wof_72
  | 9, _ => exact wof_73
  | 10, _ => exact wof_74
  | 11, _ => exact wof_75
  | 12, _ => exact wof_76
  | 13, _ => exact wof_77
  | 14, _ => exact wof_78
  | 15, _ => exact wof_79
  | k + 16, hk => exact absurd hk (by omega)
theorem wof_b5 : ∀ k, k < 16 → wofOk (80 + k) := by
  intro k hk
  match k, hk with
  | 0, _ => exact wof_80
  | 1, _ => exact wof_81
  | 2, _ => exact wof_82
  | 3, _ => exact wof_83
  | 4, _ => exact wof_84
  | 5, _ => exact wof_85
  | 6, _ => exact wof_86
  | 7, _ => exact wof_87
  | 8, _ => exact wof_88
  | 9, _ => exact wof_89
  | 10, _ => exact wof_90
  | 11, _ => exact wof_91
  | 12, _ => exact wof_92
  | 13, _ => exact wof_93
  | 14, _ => exact wof_94
  | 15, _ => exact wof_95
  | k + 16, hk => exact absurd hk (by omega)
theorem wof_b6 : ∀ k, k < 16 → wofOk (96 + k) := by
  intro k hk
  match k, hk with
  | 0, _ => exact wof_96
  | 1, _ => exact wof_97
  | 2, _ => exact wof_98
  | 3, _ => exact wof_99
  | 4, _ => exact wof_100
  | 5, _ => exact wof_101
  | 6, _ => exact wof_102
  | 7, _ => exact wof_103
  | 8, _ => exact wof_104
  | 9, _ => exact wof_105
  | 10, _ => exact wof_106
  | 11, _ => exact wof_107
  | 12, _ => exact wof_108
  | 13, _ => exact wof_109
  | 14, _ => exact wof_110
  | 15, _ => exact wof_111
  | k + 16, hk => exact absurd hk (by omega)
theorem wof_b7 : ∀ k, k < 16 → wofOk (112 + k) := by
  intro k hk
  match k, hk with
  | 0, _ => exact wof_112
  | 1, _ => exact wof_113
  | 2, _ => exact wof_114
  | 3, _ => exact wof_115
  | 4, _ => exact wof_116
  | 5, _ => exact wof_117
  | 6, _ => exact wof_118
  | 7, _ => exact wof_119
  | 8, _ => exact wof_120
  | 9, _ => exact wof_121
  | 10, _ => exact wof_122
  | 11, _ => exact wof_123
  | 12, _ => exact wof_124
  | 13, _ => exact wof_125
  | 14, _ => exact wof_126
  | 15, _ => exact wof_127
  | k + 16, hk => exact absurd hk (by omega)
theorem wof_b8 : ∀ k, k < 16 → wofOk (128 + k) := by
  intro k hk
  match k, hk with
  | 0, _ => exact wof_128
  | 1, _ => exact wof_129
  | 2, _ => exact wof_130
  | 3, _ => exact wof_131
  | 4, _ => exact wof_132
  | 5, _ => exact wof_133
  | 6, _ => exact wof_134
  | 7, _ => exact wof_135
  | 8, _ => exact wof_136
  | 9, _ => exact wof_137
  | 10, _ => exact wof_138
  | 11, _ => exact wof_139
  | 12, _ => exact wof_140
  | 13, _ => exact wof_141
  | 14, _ => exact wof_142
  | 15, _ => exact wof_143
  | k + 16, hk => exact absurd hk (by omega)
theorem wof_b9 : ∀ k, k < 16 → wofOk (144 + k) := by
  intro k hk
  match k, hk with
  | 0, _ => exact wof_144
  | 1, _ => exact wof_145
  | 2, _ => exact wof_146
  | 3, _ => exact wof_147
  | 4, _ => exact wof_148
  | 5, _ => exact wof_149
  | 6, _ => exact wof_150
  | 7, _ => exact wof_151
  | 8, _ => exact wof_152
  | 9, _ => exact wof_153
  | 10, _ => exact wof_154
  | 11, _ => exact wof_155
  | 12, _ => exact wof_156
  | 13, _ => exact wof_157
  | 14, _ => exact wof_158
  | 15, _ => exact wof_159
  | k + 16, hk => exact absurd hk (by omega)
theorem wof_b10 : ∀ k, k < 16 → wofOk (160 + k) := by
  intro k hk
  match k, hk with
  | 0, _ => exact wof_160
  | 1, _ => exact wof_161
  | 2, _ => exact wof_162
  | 3, _ => exact wof_163
  | 4, _ => exact wof_164
  | 5, _ => exact wof_165
  | 6, _ => exact wof_166
  | 7, _ => exact wof_167
  | 8, _ => exact wof_168
  | 9, _ => exact wof_169
  | 10, _ => exact wof_170
  | 11, _ => exact wof_171
  | 12, _ => exact wof_172
  | 13, _ => exact wof_173
  | 14, _ => exact wof_174
  | 15, _ => exact wof_175
  | k + 16, hk => exact absurd hk (by omega)
theorem wof_b11 : ∀ k, k < 16 → wofOk (176 + k) := by
  intro k hk
  match k, hk with
  | 0, _ => exact wof_176
  | 1, _ => exact wof_177
  | 2, _ => exact wof_178
  | 3, _ => exact wof_179
  | 4, _ => exact wof_180
  | 5, _ => exact wof_181
  | 6, _ => exact wof_182
  | 7, _ => exact wof_183
  | 8, _ => exact wof_184
  | 9, _ => exact wof_185
  | 10, _ => exact wof_186
  | 11, _ => exact wof_187
  | 12, _ => exact wof_188
  | 13, _ => exact wof_189
  | 14, _ => exact wof_190
  | 15, _ => exact wof_191
  | k + 16, hk => exact absurd hk (by omega)
theorem wof_b12 : ∀ k, k < 16 → wofOk (192 + k) := by
  intro k hk
  match k, hk with
  | 0, _ => exact wof_192
  | 1, _ => exact wof_193
  | 2, _ => exact wof_194
  | 3, _ => exact wof_195
  | 4, _ => exact wof_196
  | 5, _ => exact wof_197
  | 6, _ => exact wof_198
  | 7, _ => exact wof_199
  | 8, _ => exact wof_200
  | 9, _ => exact wof_201
  | 10, _ => exact wof_202
  | 11, _ => exact wof_203
  | 12, _ => exact wof_204
  | 13, _ => exact wof_205
  | 14, _ => exact wof_206
  | 15, _ => exact wof_207
  | k + 16, hk => exact absurd hk (by omega)
theorem wof_b13 : ∀ k, k < 16 → wofOk (208 + k) := by
  intro k hk
  match k, hk with
  | 0, _ => exact wof_208
  | 1, _ => exact wof_209
  | 2, _ => exact wof_210
  | 3, _ => exact wof_211
  | 4, _ => exact wof_212
  | 5, _ => exact wof_213
  | 6, _ => exact wof_214
  | 7, _ => exact wof_215
  | 8, _ => exact wof_216
  | 9, _ => exact wof_217
  | 10, _ => exact wof_218
  | 11, _ => exact wof_219
  | 12, _ => exact wof_220
  | 13, _ => exact wof_221
  | 14, _ => exact wof_222
  | 15, _ => exact wof_223
  | k + 16, hk => exact absurd hk (by omega)
theorem wof_b14 : ∀ k, k < 12 → wofOk (224 + k) := by
  intro k hk
  match k, hk with
  | 0, _ => exact wof_224
  | 1, _ => exact wof_225
  | 2, _ => exact wof_226
  | 3, _ => exact wof_227
  | 4, _ => exact wof_228
  | 5, _ => exact wof_229
  | 6, _ => exact wof_230
  | 7, _ => exact wof_231
  | 8, _ => exact wof_232
  | 9, _ => exact wof_233
  | 10, _ => exact wof_234
  | 11, _ => exact wof_235
  | k + 12, hk => exact absurd hk (by omega)
theorem wof_in : ∀ M, M < 236 → wofOk M := by
  intro M hM
  have e : M = 16 * (M / 16) + M % 16 := by omega
  have h2 : M % 16 < 16 := by omega
  have h1 : M / 16 < 15 := by omega
  rw [e]
  generalize M / 16 = q at *
  generalize M % 16 = k at *
  match q, h1 with
  | 0, _ => exact wof_b0 k (by omega)
  | 1, _ => exact wof_b1 k (by omega)
  | 2, _ => exact wof_b2 k (by omega)
  | 3, _ => exact wof_b3 k (by omega)
  | 4, _ => exact wof_b4 k (by omega)
  | 5, _ => exact wof_b5 k (by omega)
  | 6, _ => exact wof_b6 k (by omega)
  | 7, _ => exact wof_b7 k (by omega)
  | 8, _ => exact wof_b8 k (by omega)
  | 9, _ => exact wof_b9 k (by omega)
  | 10, _ => exact wof_b10 k (by omega)
  | 11, _ => exact wof_b11 k (by omega)
  | 12, _ => exact wof_b12 k (by omega)
  | 13, _ => exact wof_b13 k (by omega)
  | 14, _ => exact wof_b14 k (by omega)
  | q + 15, hq => exact absurd hq (by omega)
