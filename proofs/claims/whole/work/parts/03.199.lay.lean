theorem y_1 (L : Nat) : mj_lay L 1 = (21, 11) := rfl
theorem y_2 (L : Nat) : mj_lay L 2 = (19, 9) := rfl
theorem y_3 (L : Nat) : mj_lay L 3 = (2, 200) := rfl
theorem y_4 (L : Nat) : mj_lay L 4 = (12, 8) := rfl
theorem y_5 (L : Nat) : mj_lay L 5 = (20, 8) := rfl
theorem y_6 (L : Nat) : mj_lay L 6 = (1, 6) := rfl
theorem y_7 (L : Nat) : mj_lay L 7 = (1, 12) := rfl
theorem y_8 (L : Nat) : mj_lay L 8 = (1, 12) := rfl
theorem y_9 (L : Nat) : mj_lay L 9 = (1, 12) := rfl
theorem y_10 (L : Nat) : mj_lay L 10 = (1, 12) := rfl
theorem y_11 (L : Nat) : mj_lay L 11 = (1, 96) := rfl
theorem y_12 (L : Nat) : mj_lay L 12 = (10, 6) := rfl
theorem y_13 (L : Nat) : mj_lay L 13 = (1, 24) := rfl
theorem y_14 (L : Nat) : mj_lay L 14 = (1, 24) := rfl
theorem y_15 (L : Nat) : mj_lay L 15 = (1, 24) := rfl
theorem y_16 (L : Nat) : mj_lay L 16 = (1, 24) := rfl
theorem y_17 (L : Nat) : mj_lay L 17 = (1, 24) := rfl
theorem y_18 (L : Nat) : mj_lay L 18 = (13, 5) := rfl
theorem y_19 (L : Nat) : mj_lay L 19 = (1, 10) := rfl
theorem y_20 (L : Nat) : mj_lay L 20 = (1, 10) := rfl
theorem y_21 (L : Nat) : mj_lay L 21 = (1, 10) := rfl
theorem y_22 (L : Nat) : mj_lay L 22 = (1, 120) := rfl
theorem y_23 (L : Nat) : mj_lay L 23 = (16, 6) := rfl
theorem y_24 (L : Nat) : mj_lay L 24 = (1, 30) := rfl
theorem y_25 (L : Nat) : mj_lay L 25 = (1, 30) := rfl
theorem y_26 (L : Nat) : mj_lay L 26 = (1, 30) := rfl
theorem y_27 (L : Nat) : mj_lay L 27 = (1, 30) := rfl
theorem y_28 (L : Nat) : mj_lay L 28 = (1, 30) := rfl
theorem y_29 (L : Nat) : mj_lay L 29 = (1, 30) := rfl
theorem y_30 (L : Nat) : mj_lay L 30 = (1, 100) := rfl
theorem y_31 (L : Nat) : mj_lay L 31 = (17, 5) := rfl
theorem y_32 (L : Nat) : mj_lay L 32 = (1, 5) := rfl
theorem y_33 (L : Nat) : mj_lay L 33 = (1, 5) := rfl
theorem y_34 (L : Nat) : mj_lay L 34 = (1, 12) := rfl
theorem y_35 (L : Nat) : mj_lay L 35 = (1, 12) := rfl
theorem y_36 (L : Nat) : mj_lay L 36 = (11, 6) := rfl
theorem y_37 (L : Nat) : mj_lay L 37 = (1, 40) := rfl
theorem y_38 (L : Nat) : mj_lay L 38 = (1, 40) := rfl
theorem y_39 (L : Nat) : mj_lay L 39 = (1, 40) := rfl
theorem y_40 (L : Nat) : mj_lay L 40 = (1, 40) := rfl
theorem y_41 (L : Nat) : mj_lay L 41 = (1, 40) := rfl
theorem y_42 (L : Nat) : mj_lay L 42 = (14, 11) := rfl
theorem y_43 (L : Nat) : mj_lay L 43 = (1, 12) := rfl
theorem y_44 (L : Nat) : mj_lay L 44 = (1, 12) := rfl
theorem y_45 (L : Nat) : mj_lay L 45 = (1, 12) := rfl
theorem y_46 (L : Nat) : mj_lay L 46 = (1, 10) := rfl
theorem y_47 (L : Nat) : mj_lay L 47 = (1, 10) := rfl
theorem y_48 (L : Nat) : mj_lay L 48 = (1, 10) := rfl
theorem y_49 (L : Nat) : mj_lay L 49 = (3, 120) := rfl
theorem y_50 (L : Nat) : mj_lay L 50 = (3, 120) := rfl
theorem y_51 (L : Nat) : mj_lay L 51 = (1, 120) := rfl
theorem y_52 (L : Nat) : mj_lay L 52 = (15, 12) := rfl
theorem y_53 (L : Nat) : mj_lay L 53 = (1, 12) := rfl
theorem y_54 (L : Nat) : mj_lay L 54 = (1, 12) := rfl
theorem y_55 (L : Nat) : mj_lay L 55 = (1, 12) := rfl
theorem y_56 (L : Nat) : mj_lay L 56 = (1, 12) := rfl
theorem y_57 (L : Nat) : mj_lay L 57 = (1, 12) := rfl
theorem y_58 (L : Nat) : mj_lay L 58 = (18, 3) := rfl
theorem y_59 (L : Nat) : mj_lay L 59 = (1, 4) := rfl
theorem y_60 (L : Nat) : mj_lay L 60 = (1, 4) := rfl
theorem y_61 (L : Nat) : mj_lay L 61 = (1, 240) := rfl
theorem y_62 (L : Nat) : mj_lay L 62 = (17, 5) := rfl
theorem y_63 (L : Nat) : mj_lay L 63 = (1, 5) := rfl
theorem y_64 (L : Nat) : mj_lay L 64 = (1, 5) := rfl
theorem y_65 (L : Nat) : mj_lay L 65 = (1, 12) := rfl
theorem y_66 (L : Nat) : mj_lay L 66 = (1, 12) := rfl
theorem y_67 (L : Nat) : mj_lay L 67 = (22, 56) := rfl
theorem y_68 (L : Nat) : mj_lay L 68 = (1, 35) := rfl
theorem y_69 (L : Nat) : mj_lay L 69 = (1, 35) := rfl
theorem y_70 (L : Nat) : mj_lay L 70 = (3, 6) := rfl
theorem y_71 (L : Nat) : mj_lay L 71 = (1, 200) := rfl
theorem y_72 (L : Nat) : mj_lay L 72 = (1, 6) := rfl
theorem y_73 (L : Nat) : mj_lay L 73 = (1, 12) := rfl
theorem y_74 (L : Nat) : mj_lay L 74 = (1, 12) := rfl
theorem y_75 (L : Nat) : mj_lay L 75 = (1, 12) := rfl
theorem y_76 (L : Nat) : mj_lay L 76 = (1, 12) := rfl
theorem y_77 (L : Nat) : mj_lay L 77 = (1, 96) := rfl
theorem y_78 (L : Nat) : mj_lay L 78 = (1, 24) := rfl
theorem y_79 (L : Nat) : mj_lay L 79 = (1, 24) := rfl
theorem y_80 (L : Nat) : mj_lay L 80 = (1, 24) := rfl
theorem y_81 (L : Nat) : mj_lay L 81 = (1, 24) := rfl
theorem y_82 (L : Nat) : mj_lay L 82 = (1, 24) := rfl
theorem y_83 (L : Nat) : mj_lay L 83 = (1, 100) := rfl
theorem y_84 (L : Nat) : mj_lay L 84 = (1, 10) := rfl
theorem y_85 (L : Nat) : mj_lay L 85 = (1, 10) := rfl
theorem y_86 (L : Nat) : mj_lay L 86 = (1, 10) := rfl
theorem y_87 (L : Nat) : mj_lay L 87 = (1, 120) := rfl
theorem y_88 (L : Nat) : mj_lay L 88 = (1, 30) := rfl
theorem y_89 (L : Nat) : mj_lay L 89 = (1, 30) := rfl
theorem y_90 (L : Nat) : mj_lay L 90 = (1, 30) := rfl
theorem y_91 (L : Nat) : mj_lay L 91 = (1, 30) := rfl
theorem y_92 (L : Nat) : mj_lay L 92 = (1, 30) := rfl
theorem y_93 (L : Nat) : mj_lay L 93 = (1, 576) := rfl
theorem y_94 (L : Nat) : mj_lay L 94 = (1, 576) := rfl
theorem y_95 (L : Nat) : mj_lay L 95 = (1, 24) := rfl
theorem y_96 (L : Nat) : mj_lay L 96 = (1, 24) := rfl
theorem y_97 (L : Nat) : mj_lay L 97 = (1, 12) := rfl
theorem y_98 (L : Nat) : mj_lay L 98 = (1, 12) := rfl
theorem y_99 (L : Nat) : mj_lay L 99 = (1, 13) := rfl
theorem y_100 (L : Nat) : mj_lay L 100 = (1, 40) := rfl
theorem y_101 (L : Nat) : mj_lay L 101 = (1, 40) := rfl
theorem y_102 (L : Nat) : mj_lay L 102 = (1, 40) := rfl
theorem y_103 (L : Nat) : mj_lay L 103 = (1, 40) := rfl
theorem y_104 (L : Nat) : mj_lay L 104 = (1, 40) := rfl
theorem y_105 (L : Nat) : mj_lay L 105 = (1, 4) := rfl
theorem y_106 (L : Nat) : mj_lay L 106 = (1, 4) := rfl
theorem y_107 (L : Nat) : mj_lay L 107 = (1, 240) := rfl
theorem y_108 (L : Nat) : mj_lay L 108 = (1, 12) := rfl
theorem y_109 (L : Nat) : mj_lay L 109 = (3, 12) := rfl
theorem y_1000 (L : Nat) : mj_lay L 1000 = (1, L) := rfl
theorem y_1001 (L : Nat) : mj_lay L 1001 = (1, 5) := rfl
theorem y_1002 (L : Nat) : mj_lay L 1002 = (1, 5) := rfl
theorem y_1003 (L : Nat) : mj_lay L 1003 = (1, 5) := rfl
theorem w_28_11 : mj_sw 28 11 = ([(0, 40), (1, 55), (2, 65), (3, 71)], 94) := by decide +kernel
theorem w_83_1 : mj_sw 83 1 = ([(0, 28), (1, 31)], 34) := by decide +kernel
theorem w_116_14 : mj_sw 116 14 = ([(0, 64), (1, 74), (2, 84), (3, 94), (4, 104), (5, 113), (6, 122), (7, 131), (8, 140)], 149) := by decide +kernel
theorem w_118_14 : mj_sw 118 14 = ([(0, 48), (1, 58), (2, 68), (3, 78), (4, 88)], 98) := by decide +kernel
theorem w_122_14 : mj_sw 122 14 = ([(0, 60), (1, 70), (2, 80), (3, 89), (4, 98), (5, 107), (6, 116), (7, 126)], 135) := by decide +kernel
theorem w_125_14 : mj_sw 125 14 = ([(0, 48), (1, 58), (2, 68), (3, 78), (4, 88)], 98) := by decide +kernel
theorem w_133_14 : mj_sw 133 14 = ([(0, 52), (1, 62), (2, 72), (3, 82), (4, 92), (5, 102)], 120) := by decide +kernel
theorem w_141_1 : mj_sw 141 1 = ([(0, 68), (1, 76), (2, 84), (3, 92), (4, 100), (5, 108), (6, 116), (7, 124), (8, 132), (9, 141), (10, 150), (11, 159), (12, 167)], 177) := by decide +kernel
theorem w_179_44 : mj_sw 179 44 = ([(0, 96), (1, 103), (2, 110), (3, 117), (4, 124), (5, 130), (6, 138), (7, 145), (8, 151)], 158) := by decide +kernel
theorem w_193_121 : mj_sw 193 121 = ([(0, 164), (1, 171), (2, 178), (3, 184), (4, 191), (5, 197), (6, 199)], 206) := by decide +kernel
theorem w_226_99 : mj_sw 226 99 = ([(0, 164), (1, 169), (2, 174), (3, 179), (4, 184), (5, 189), (6, 191), (7, 196), (8, 201), (9, 209), (10, 211), (11, 214), (12, 219)], 242) := by decide +kernel
theorem w_238_33 : mj_sw 238 33 = ([(0, 184), (1, 237), (2, 260), (3, 273), (4, 286), (5, 309), (6, 332), (7, 375), (8, 408), (9, 441), (10, 464), (11, 497), (12, 520), (13, 543), (14, 576), (15, 609), (16, 642), (17, 665), (18, 698), (19, 731), (20, 764), (21, 777), (22, 790), (23, 813), (24, 888), (25, 941), (26, 974), (27, 1007), (28, 1040), (29, 1073), (30, 1106), (31, 1149), (32, 1192), (33, 1255)], 1278) := by decide +kernel
theorem nm_1 : mj_nm 1 = 1 := rfl
theorem nm_2 : mj_nm 2 = 2 := rfl
theorem nm_3 : mj_nm 3 = 3 := rfl
theorem nm_4 : mj_nm 4 = 4 := rfl
theorem nm_5 : mj_nm 5 = 5 := rfl
theorem nm_6 : mj_nm 6 = 6 := rfl
theorem nm_7 : mj_nm 7 = 7 := rfl
theorem nm_8 : mj_nm 8 = 8 := rfl
theorem nm_9 : mj_nm 9 = 9 := rfl
theorem nm_10 : mj_nm 10 = 10 := rfl
theorem nm_11 : mj_nm 11 = 11 := rfl
theorem nm_12 : mj_nm 12 = 12 := rfl
theorem nm_13 : mj_nm 13 = 13 := rfl
theorem nm_14 : mj_nm 14 = 14 := rfl
theorem nm_15 : mj_nm 15 = 15 := rfl
theorem nm_16 : mj_nm 16 = 16 := rfl
theorem nm_17 : mj_nm 17 = 17 := rfl
theorem nm_18 : mj_nm 18 = 18 := rfl
theorem nm_19 : mj_nm 19 = 19 := rfl
theorem nm_20 : mj_nm 20 = 20 := rfl
theorem nm_21 : mj_nm 21 = 21 := rfl
theorem nm_22 : mj_nm 22 = 22 := rfl
theorem nm_23 : mj_nm 23 = 23 := rfl
theorem nm_24 : mj_nm 24 = 24 := rfl
theorem nm_25 : mj_nm 25 = 25 := rfl
theorem nm_26 : mj_nm 26 = 26 := rfl
theorem nm_27 : mj_nm 27 = 27 := rfl
theorem nm_28 : mj_nm 28 = 28 := rfl
theorem nm_29 : mj_nm 29 = 29 := rfl
theorem nm_30 : mj_nm 30 = 30 := rfl
theorem nm_31 : mj_nm 31 = 31 := rfl
theorem nm_32 : mj_nm 32 = 32 := rfl
theorem nm_33 : mj_nm 33 = 33 := rfl
theorem nm_34 : mj_nm 34 = 34 := rfl
theorem nm_35 : mj_nm 35 = 35 := rfl
theorem nm_36 : mj_nm 36 = 36 := rfl
theorem nm_37 : mj_nm 37 = 37 := rfl
theorem nm_38 : mj_nm 38 = 38 := rfl
theorem nm_39 : mj_nm 39 = 39 := rfl
theorem nm_40 : mj_nm 40 = 40 := rfl
theorem nm_41 : mj_nm 41 = 41 := rfl
theorem nm_42 : mj_nm 42 = 42 := rfl
theorem nm_43 : mj_nm 43 = 43 := rfl
theorem nm_44 : mj_nm 44 = 44 := rfl
theorem nm_45 : mj_nm 45 = 45 := rfl
theorem nm_46 : mj_nm 46 = 46 := rfl
theorem nm_47 : mj_nm 47 = 47 := rfl
theorem nm_48 : mj_nm 48 = 48 := rfl
theorem nm_49 : mj_nm 49 = 49 := rfl
theorem nm_50 : mj_nm 50 = 50 := rfl
theorem nm_51 : mj_nm 51 = 51 := rfl
theorem nm_52 : mj_nm 52 = 52 := rfl
theorem nm_53 : mj_nm 53 = 53 := rfl
theorem nm_54 : mj_nm 54 = 108 := rfl
theorem nm_55 : mj_nm 55 = 109 := rfl
theorem nm_56 : mj_nm 56 = 54 := rfl
theorem nm_57 : mj_nm 57 = 55 := rfl
theorem nm_58 : mj_nm 58 = 56 := rfl
theorem nm_59 : mj_nm 59 = 57 := rfl
theorem nm_60 : mj_nm 60 = 58 := rfl
theorem nm_61 : mj_nm 61 = 59 := rfl
theorem nm_62 : mj_nm 62 = 60 := rfl
theorem nm_63 : mj_nm 63 = 61 := rfl
theorem nm_64 : mj_nm 64 = 62 := rfl
theorem nm_65 : mj_nm 65 = 63 := rfl
theorem nm_66 : mj_nm 66 = 64 := rfl
theorem nm_67 : mj_nm 67 = 65 := rfl
theorem nm_68 : mj_nm 68 = 66 := rfl
theorem nm_69 : mj_nm 69 = 67 := rfl
theorem nm_70 : mj_nm 70 = 68 := rfl
theorem nm_71 : mj_nm 71 = 69 := rfl
theorem nm_72 : mj_nm 72 = 70 := rfl
theorem nm_73 : mj_nm 73 = 71 := rfl
theorem nm_74 : mj_nm 74 = 72 := rfl
theorem nm_75 : mj_nm 75 = 73 := rfl
theorem nm_76 : mj_nm 76 = 74 := rfl
theorem nm_77 : mj_nm 77 = 75 := rfl
theorem nm_78 : mj_nm 78 = 76 := rfl
theorem nm_79 : mj_nm 79 = 77 := rfl
theorem nm_80 : mj_nm 80 = 78 := rfl
theorem nm_81 : mj_nm 81 = 79 := rfl
theorem nm_82 : mj_nm 82 = 80 := rfl
theorem nm_83 : mj_nm 83 = 81 := rfl
theorem nm_84 : mj_nm 84 = 82 := rfl
theorem nm_85 : mj_nm 85 = 83 := rfl
theorem nm_86 : mj_nm 86 = 84 := rfl
theorem nm_87 : mj_nm 87 = 85 := rfl
theorem nm_88 : mj_nm 88 = 86 := rfl
theorem nm_89 : mj_nm 89 = 87 := rfl
theorem nm_90 : mj_nm 90 = 88 := rfl
theorem nm_91 : mj_nm 91 = 89 := rfl
theorem nm_92 : mj_nm 92 = 90 := rfl
theorem nm_93 : mj_nm 93 = 91 := rfl
theorem nm_94 : mj_nm 94 = 92 := rfl
theorem nm_95 : mj_nm 95 = 93 := rfl
theorem nm_96 : mj_nm 96 = 94 := rfl
theorem nm_97 : mj_nm 97 = 95 := rfl
theorem nm_98 : mj_nm 98 = 96 := rfl
theorem nm_99 : mj_nm 99 = 97 := rfl
theorem nm_100 : mj_nm 100 = 98 := rfl
theorem nm_101 : mj_nm 101 = 99 := rfl
theorem nm_102 : mj_nm 102 = 100 := rfl
theorem nm_103 : mj_nm 103 = 101 := rfl
theorem nm_104 : mj_nm 104 = 102 := rfl
theorem nm_105 : mj_nm 105 = 103 := rfl
theorem nm_106 : mj_nm 106 = 104 := rfl
theorem nm_107 : mj_nm 107 = 105 := rfl
theorem nm_108 : mj_nm 108 = 106 := rfl
theorem nm_109 : mj_nm 109 = 107 := rfl
