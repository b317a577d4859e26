theorem mj_all_td {α : Type} {p : α → Bool} (n : Nat) {l : List α} (h1 : (l.take n).all p = true) (h2 : (l.drop n).all p = true) : l.all p = true := by
  rw [← List.take_append_drop n l, List.all_append, h1, h2]; rfl
set_option maxRecDepth 20000 in
theorem t_0 : (mj_code 0).all (mj_chk 0) = true := by decide +kernel
set_option maxRecDepth 20000 in
theorem t_1 : (mj_code 1).all (mj_chk 1) = true := by decide +kernel
set_option maxRecDepth 20000 in
theorem t_2 : (mj_code 2).all (mj_chk 2) = true := by decide +kernel
set_option maxRecDepth 20000 in
theorem t_3 : (mj_code 3).all (mj_chk 3) = true := by decide +kernel
set_option maxRecDepth 20000 in
theorem t_4 : (mj_code 4).all (mj_chk 4) = true := by decide +kernel
set_option maxRecDepth 20000 in
theorem t_5 : (mj_code 5).all (mj_chk 5) = true := by decide +kernel
set_option maxRecDepth 20000 in
theorem t_6 : (mj_code 6).all (mj_chk 6) = true := by decide +kernel
set_option maxRecDepth 20000 in
theorem t_7 : (mj_code 7).all (mj_chk 7) = true := by decide +kernel
set_option maxRecDepth 20000 in
theorem t_8 : (mj_code 8).all (mj_chk 8) = true := by decide +kernel
set_option maxRecDepth 20000 in
theorem t_9 : (mj_code 9).all (mj_chk 9) = true := by decide +kernel
set_option maxRecDepth 20000 in
theorem t_10 : (mj_code 10).all (mj_chk 10) = true := by decide +kernel
set_option maxRecDepth 20000 in
theorem t_11 : (mj_code 11).all (mj_chk 11) = true := by decide +kernel
set_option maxRecDepth 20000 in
theorem t_12 : (mj_code 12).all (mj_chk 12) = true := by decide +kernel
set_option maxRecDepth 20000 in
theorem t_13 : (mj_code 13).all (mj_chk 13) = true := by decide +kernel
set_option maxRecDepth 20000 in
theorem t_14 : (mj_code 14).all (mj_chk 14) = true := by decide +kernel
set_option maxRecDepth 20000 in
theorem t_15 : (mj_code 15).all (mj_chk 15) = true := by decide +kernel
set_option maxRecDepth 20000 in
theorem t_16 : (mj_code 16).all (mj_chk 16) = true := by decide +kernel
set_option maxRecDepth 20000 in
theorem t_17 : (mj_code 17).all (mj_chk 17) = true := by decide +kernel
set_option maxRecDepth 20000 in
theorem t_18 : (mj_code 18).all (mj_chk 18) = true := by decide +kernel
set_option maxRecDepth 20000 in
theorem t_19 : (mj_code 19).all (mj_chk 19) = true := by decide +kernel
set_option maxRecDepth 20000 in
theorem t_20 : (mj_code 20).all (mj_chk 20) = true := by decide +kernel
set_option maxRecDepth 20000 in
theorem t_21 : (mj_code 21).all (mj_chk 21) = true := by decide +kernel
set_option maxRecDepth 20000 in
theorem t_22 : (mj_code 22).all (mj_chk 22) = true := by decide +kernel
set_option maxRecDepth 20000 in
theorem t_23 : (mj_code 23).all (mj_chk 23) = true := by decide +kernel
set_option maxRecDepth 20000 in
theorem t_24 : (mj_code 24).all (mj_chk 24) = true := by decide +kernel
set_option maxRecDepth 20000 in
theorem t_25 : (mj_code 25).all (mj_chk 25) = true := by decide +kernel
set_option maxRecDepth 20000 in
theorem t_26 : (mj_code 26).all (mj_chk 26) = true := by decide +kernel
set_option maxRecDepth 20000 in
theorem t_27 : (mj_code 27).all (mj_chk 27) = true := by decide +kernel
set_option maxRecDepth 20000 in
theorem t_28 : (mj_code 28).all (mj_chk 28) = true := by decide +kernel
set_option maxRecDepth 20000 in
theorem t_29 : (mj_code 29).all (mj_chk 29) = true := by decide +kernel
set_option maxRecDepth 20000 in
theorem t_30 : (mj_code 30).all (mj_chk 30) = true := by decide +kernel
set_option maxRecDepth 20000 in
theorem t_31 : (mj_code 31).all (mj_chk 31) = true := by decide +kernel
set_option maxRecDepth 20000 in
theorem t_32 : (mj_code 32).all (mj_chk 32) = true := by decide +kernel
set_option maxRecDepth 20000 in
theorem t_33 : (mj_code 33).all (mj_chk 33) = true := by decide +kernel
set_option maxRecDepth 20000 in
theorem t_34 : (mj_code 34).all (mj_chk 34) = true := by decide +kernel
set_option maxRecDepth 20000 in
theorem t_35 : (mj_code 35).all (mj_chk 35) = true := by decide +kernel
set_option maxRecDepth 20000 in
theorem t_36 : (mj_code 36).all (mj_chk 36) = true := by decide +kernel
set_option maxRecDepth 20000 in
theorem t_37 : (mj_code 37).all (mj_chk 37) = true := by decide +kernel
set_option maxRecDepth 20000 in
theorem t_38 : (mj_code 38).all (mj_chk 38) = true := by decide +kernel
set_option maxRecDepth 20000 in
theorem t_39 : (mj_code 39).all (mj_chk 39) = true := by decide +kernel
set_option maxRecDepth 20000 in
theorem t_40 : (mj_code 40).all (mj_chk 40) = true := by decide +kernel
set_option maxRecDepth 20000 in
theorem t_41 : (mj_code 41).all (mj_chk 41) = true := by decide +kernel
set_option maxRecDepth 20000 in
theorem t_42 : (mj_code 42).all (mj_chk 42) = true := by decide +kernel
set_option maxRecDepth 20000 in
theorem t_43 : (mj_code 43).all (mj_chk 43) = true := by decide +kernel
set_option maxRecDepth 20000 in
theorem t_44 : (mj_code 44).all (mj_chk 44) = true := by decide +kernel
set_option maxRecDepth 20000 in
theorem t_45 : (mj_code 45).all (mj_chk 45) = true := by decide +kernel
set_option maxRecDepth 20000 in
theorem t_46 : (mj_code 46).all (mj_chk 46) = true := by decide +kernel
set_option maxRecDepth 20000 in
theorem t_47 : (mj_code 47).all (mj_chk 47) = true := by decide +kernel
set_option maxRecDepth 20000 in
theorem t_48 : (mj_code 48).all (mj_chk 48) = true := by decide +kernel
set_option maxRecDepth 20000 in
theorem t_49 : (mj_code 49).all (mj_chk 49) = true := by decide +kernel
set_option maxRecDepth 20000 in
theorem t_50 : (mj_code 50).all (mj_chk 50) = true := by decide +kernel
set_option maxRecDepth 20000 in
theorem t_51 : (mj_code 51).all (mj_chk 51) = true := by decide +kernel
set_option maxRecDepth 20000 in
theorem t_52 : (mj_code 52).all (mj_chk 52) = true := by decide +kernel
set_option maxRecDepth 20000 in
theorem t_53 : (mj_code 53).all (mj_chk 53) = true := by decide +kernel
set_option maxRecDepth 20000 in
theorem t_54 : (mj_code 54).all (mj_chk 54) = true := by decide +kernel
set_option maxRecDepth 20000 in
theorem t_55 : (mj_code 55).all (mj_chk 55) = true := by decide +kernel
set_option maxRecDepth 20000 in
theorem t_56 : (mj_code 56).all (mj_chk 56) = true := by decide +kernel
set_option maxRecDepth 20000 in
theorem t_57 : (mj_code 57).all (mj_chk 57) = true := by decide +kernel
set_option maxRecDepth 20000 in
theorem t_58 : (mj_code 58).all (mj_chk 58) = true := by decide +kernel
set_option maxRecDepth 20000 in
theorem t_59 : (mj_code 59).all (mj_chk 59) = true := by decide +kernel
set_option maxRecDepth 20000 in
theorem t_60 : (mj_code 60).all (mj_chk 60) = true := by decide +kernel
set_option maxRecDepth 20000 in
theorem t_61 : (mj_code 61).all (mj_chk 61) = true := by decide +kernel
set_option maxRecDepth 20000 in
theorem t_62 : (mj_code 62).all (mj_chk 62) = true := by decide +kernel
set_option maxRecDepth 20000 in
theorem t_63 : (mj_code 63).all (mj_chk 63) = true := by decide +kernel
set_option maxRecDepth 20000 in
theorem t_64 : (mj_code 64).all (mj_chk 64) = true := by decide +kernel
set_option maxRecDepth 20000 in
theorem t_65 : (mj_code 65).all (mj_chk 65) = true := by decide +kernel
set_option maxRecDepth 20000 in
theorem t_66 : (mj_code 66).all (mj_chk 66) = true := by decide +kernel
set_option maxRecDepth 20000 in
theorem t_67 : (mj_code 67).all (mj_chk 67) = true := by decide +kernel
set_option maxRecDepth 20000 in
theorem t_68 : (mj_code 68).all (mj_chk 68) = true := by decide +kernel
set_option maxRecDepth 20000 in
theorem t_69 : (mj_code 69).all (mj_chk 69) = true := by decide +kernel
set_option maxRecDepth 20000 in
theorem t_70 : (mj_code 70).all (mj_chk 70) = true := by decide +kernel
set_option maxRecDepth 20000 in
theorem t_71 : (mj_code 71).all (mj_chk 71) = true := by decide +kernel
set_option maxRecDepth 20000 in
theorem t_72 : (mj_code 72).all (mj_chk 72) = true := by decide +kernel
set_option maxRecDepth 20000 in
theorem t_73 : (mj_code 73).all (mj_chk 73) = true := by decide +kernel
set_option maxRecDepth 20000 in
theorem t_74 : (mj_code 74).all (mj_chk 74) = true := by decide +kernel
set_option maxRecDepth 20000 in
theorem t_75 : (mj_code 75).all (mj_chk 75) = true := by decide +kernel
set_option maxRecDepth 20000 in
theorem t_76 : (mj_code 76).all (mj_chk 76) = true := by decide +kernel
set_option maxRecDepth 20000 in
theorem t_77 : (mj_code 77).all (mj_chk 77) = true := by decide +kernel
set_option maxRecDepth 20000 in
theorem t_78 : (mj_code 78).all (mj_chk 78) = true := by decide +kernel
set_option maxRecDepth 20000 in
theorem t_79 : (mj_code 79).all (mj_chk 79) = true := by decide +kernel
set_option maxRecDepth 20000 in
theorem t_80 : (mj_code 80).all (mj_chk 80) = true := by decide +kernel
set_option maxRecDepth 20000 in
theorem t_81 : (mj_code 81).all (mj_chk 81) = true := by decide +kernel
set_option maxRecDepth 20000 in
theorem t_82 : (mj_code 82).all (mj_chk 82) = true := by decide +kernel
set_option maxRecDepth 20000 in
theorem t_83 : (mj_code 83).all (mj_chk 83) = true := by decide +kernel
set_option maxRecDepth 20000 in
theorem t_84 : (mj_code 84).all (mj_chk 84) = true := by decide +kernel
set_option maxRecDepth 20000 in
theorem t_85 : (mj_code 85).all (mj_chk 85) = true := by decide +kernel
set_option maxRecDepth 20000 in
theorem t_86 : (mj_code 86).all (mj_chk 86) = true := by decide +kernel
set_option maxRecDepth 20000 in
theorem t_87 : (mj_code 87).all (mj_chk 87) = true := by decide +kernel
set_option maxRecDepth 20000 in
theorem t_88 : (mj_code 88).all (mj_chk 88) = true := by decide +kernel
set_option maxRecDepth 20000 in
theorem t_89 : (mj_code 89).all (mj_chk 89) = true := by decide +kernel
set_option maxRecDepth 20000 in
theorem t_90 : (mj_code 90).all (mj_chk 90) = true := by decide +kernel
set_option maxRecDepth 20000 in
theorem t_91 : (mj_code 91).all (mj_chk 91) = true := by decide +kernel
set_option maxRecDepth 20000 in
theorem t_92 : (mj_code 92).all (mj_chk 92) = true := by decide +kernel
set_option maxRecDepth 20000 in
theorem t_93 : (mj_code 93).all (mj_chk 93) = true := by decide +kernel
set_option maxRecDepth 20000 in
theorem t_94 : (mj_code 94).all (mj_chk 94) = true := by decide +kernel
set_option maxRecDepth 20000 in
theorem t_95 : (mj_code 95).all (mj_chk 95) = true := by decide +kernel
set_option maxRecDepth 20000 in
theorem t_96 : (mj_code 96).all (mj_chk 96) = true := by decide +kernel
set_option maxRecDepth 20000 in
theorem t_97 : (mj_code 97).all (mj_chk 97) = true := by decide +kernel
set_option maxRecDepth 20000 in
theorem t_98 : (mj_code 98).all (mj_chk 98) = true := by decide +kernel
set_option maxRecDepth 20000 in
theorem t_99 : (mj_code 99).all (mj_chk 99) = true := by decide +kernel
set_option maxRecDepth 20000 in
theorem t_100 : (mj_code 100).all (mj_chk 100) = true := by decide +kernel
set_option maxRecDepth 20000 in
theorem t_101 : (mj_code 101).all (mj_chk 101) = true := by decide +kernel
set_option maxRecDepth 20000 in
theorem t_102 : (mj_code 102).all (mj_chk 102) = true := by decide +kernel
set_option maxRecDepth 20000 in
theorem t_103 : (mj_code 103).all (mj_chk 103) = true := by decide +kernel
set_option maxRecDepth 20000 in
theorem t_104 : (mj_code 104).all (mj_chk 104) = true := by decide +kernel
set_option maxRecDepth 20000 in
theorem t_105 : (mj_code 105).all (mj_chk 105) = true := by decide +kernel
set_option maxRecDepth 20000 in
theorem t_106 : (mj_code 106).all (mj_chk 106) = true := by decide +kernel
set_option maxRecDepth 20000 in
theorem t_107 : (mj_code 107).all (mj_chk 107) = true := by decide +kernel
set_option maxRecDepth 20000 in
theorem t_108 : (mj_code 108).all (mj_chk 108) = true := by decide +kernel
set_option maxRecDepth 20000 in
theorem t_109 : (mj_code 109).all (mj_chk 109) = true := by decide +kernel
set_option maxRecDepth 20000 in
theorem t_110 : (mj_code 110).all (mj_chk 110) = true := by decide +kernel
set_option maxRecDepth 20000 in
theorem t_111 : (mj_code 111).all (mj_chk 111) = true := by decide +kernel
set_option maxRecDepth 20000 in
theorem t_112 : (mj_code 112).all (mj_chk 112) = true := by decide +kernel
set_option maxRecDepth 20000 in
theorem t_113 : (mj_code 113).all (mj_chk 113) = true := by decide +kernel
set_option maxRecDepth 20000 in
theorem t_114 : (mj_code 114).all (mj_chk 114) = true := by decide +kernel
set_option maxRecDepth 20000 in
theorem t_115 : (mj_code 115).all (mj_chk 115) = true := by decide +kernel
set_option maxRecDepth 20000 in
theorem t_116 : (mj_code 116).all (mj_chk 116) = true := by decide +kernel
set_option maxRecDepth 20000 in
theorem t_117 : (mj_code 117).all (mj_chk 117) = true := by decide +kernel
set_option maxRecDepth 20000 in
theorem t_118 : (mj_code 118).all (mj_chk 118) = true := by decide +kernel
set_option maxRecDepth 20000 in
theorem t_119 : (mj_code 119).all (mj_chk 119) = true := by decide +kernel
set_option maxRecDepth 20000 in
theorem t_120 : (mj_code 120).all (mj_chk 120) = true := by decide +kernel
set_option maxRecDepth 20000 in
theorem t_121 : (mj_code 121).all (mj_chk 121) = true := by decide +kernel
set_option maxRecDepth 20000 in
theorem t_122 : (mj_code 122).all (mj_chk 122) = true := by decide +kernel
set_option maxRecDepth 20000 in
theorem t_123 : (mj_code 123).all (mj_chk 123) = true := by decide +kernel
set_option maxRecDepth 20000 in
theorem t_124 : (mj_code 124).all (mj_chk 124) = true := by decide +kernel
set_option maxRecDepth 20000 in
theorem t_125 : (mj_code 125).all (mj_chk 125) = true := by decide +kernel
set_option maxRecDepth 20000 in
theorem t_126 : (mj_code 126).all (mj_chk 126) = true := by decide +kernel
set_option maxRecDepth 20000 in
theorem t_127 : (mj_code 127).all (mj_chk 127) = true := by decide +kernel
set_option maxRecDepth 20000 in
theorem t_128 : (mj_code 128).all (mj_chk 128) = true := by decide +kernel
set_option maxRecDepth 20000 in
theorem t_129 : (mj_code 129).all (mj_chk 129) = true := by decide +kernel
set_option maxRecDepth 20000 in
theorem t_130 : (mj_code 130).all (mj_chk 130) = true := by decide +kernel
set_option maxRecDepth 20000 in
theorem t_131 : (mj_code 131).all (mj_chk 131) = true := by decide +kernel
set_option maxRecDepth 20000 in
theorem t_132 : (mj_code 132).all (mj_chk 132) = true := by decide +kernel
set_option maxRecDepth 20000 in
theorem t_133 : (mj_code 133).all (mj_chk 133) = true := by decide +kernel
set_option maxRecDepth 20000 in
theorem t_134 : (mj_code 134).all (mj_chk 134) = true := by decide +kernel
set_option maxRecDepth 20000 in
theorem t_135 : (mj_code 135).all (mj_chk 135) = true := by decide +kernel
set_option maxRecDepth 20000 in
theorem t_136 : (mj_code 136).all (mj_chk 136) = true := by decide +kernel
set_option maxRecDepth 20000 in
theorem t_137 : (mj_code 137).all (mj_chk 137) = true := by decide +kernel
set_option maxRecDepth 20000 in
theorem t_138 : (mj_code 138).all (mj_chk 138) = true := by decide +kernel
set_option maxRecDepth 20000 in
theorem t_139 : (mj_code 139).all (mj_chk 139) = true := by decide +kernel
set_option maxRecDepth 20000 in
theorem t_140 : (mj_code 140).all (mj_chk 140) = true := by decide +kernel
set_option maxRecDepth 20000 in
theorem t_141 : (mj_code 141).all (mj_chk 141) = true := by decide +kernel
set_option maxRecDepth 20000 in
theorem t_142 : (mj_code 142).all (mj_chk 142) = true := by decide +kernel
set_option maxRecDepth 20000 in
theorem t_143 : (mj_code 143).all (mj_chk 143) = true := by decide +kernel
set_option maxRecDepth 20000 in
theorem t_144 : (mj_code 144).all (mj_chk 144) = true := by decide +kernel
set_option maxRecDepth 20000 in
theorem t_145 : (mj_code 145).all (mj_chk 145) = true := by decide +kernel
set_option maxRecDepth 20000 in
theorem t_146 : (mj_code 146).all (mj_chk 146) = true := by decide +kernel
set_option maxRecDepth 20000 in
theorem t_147_0 : ((mj_code 147).take 40).all (mj_chk 147) = true := by decide +kernel
set_option maxRecDepth 20000 in
theorem t_147_1 : (((mj_code 147).drop 40).take 40).all (mj_chk 147) = true := by decide +kernel
set_option maxRecDepth 20000 in
theorem t_147_2 : ((((mj_code 147).drop 40).drop 40).take 40).all (mj_chk 147) = true := by decide +kernel
set_option maxRecDepth 20000 in
theorem t_147_3 : (((((mj_code 147).drop 40).drop 40).drop 40).take 40).all (mj_chk 147) = true := by decide +kernel
set_option maxRecDepth 20000 in
theorem t_147_4 : (((((mj_code 147).drop 40).drop 40).drop 40).drop 40).all (mj_chk 147) = true := by decide +kernel
theorem t_147 : (mj_code 147).all (mj_chk 147) = true := mj_all_td 40 t_147_0 (mj_all_td 40 t_147_1 (mj_all_td 40 t_147_2 (mj_all_td 40 t_147_3 (t_147_4))))
set_option maxRecDepth 20000 in
theorem t_148 : (mj_code 148).all (mj_chk 148) = true := by decide +kernel
set_option maxRecDepth 20000 in
theorem t_149 : (mj_code 149).all (mj_chk 149) = true := by decide +kernel
set_option maxRecDepth 20000 in
theorem t_150 : (mj_code 150).all (mj_chk 150) = true := by decide +kernel
set_option maxRecDepth 20000 in
theorem t_151 : (mj_code 151).all (mj_chk 151) = true := by decide +kernel
set_option maxRecDepth 20000 in
theorem t_152 : (mj_code 152).all (mj_chk 152) = true := by decide +kernel
set_option maxRecDepth 20000 in
theorem t_153 : (mj_code 153).all (mj_chk 153) = true := by decide +kernel
set_option maxRecDepth 20000 in
theorem t_154 : (mj_code 154).all (mj_chk 154) = true := by decide +kernel
set_option maxRecDepth 20000 in
theorem t_155 : (mj_code 155).all (mj_chk 155) = true := by decide +kernel
set_option maxRecDepth 20000 in
theorem t_156 : (mj_code 156).all (mj_chk 156) = true := by decide +kernel
set_option maxRecDepth 20000 in
theorem t_157 : (mj_code 157).all (mj_chk 157) = true := by decide +kernel
set_option maxRecDepth 20000 in
theorem t_158_0 : ((mj_code 158).take 40).all (mj_chk 158) = true := by decide +kernel
set_option maxRecDepth 20000 in
theorem t_158_1 : (((mj_code 158).drop 40).take 40).all (mj_chk 158) = true := by decide +kernel
set_option maxRecDepth 20000 in
theorem t_158_2 : ((((mj_code 158).drop 40).drop 40).take 40).all (mj_chk 158) = true := by decide +kernel
set_option maxRecDepth 20000 in
theorem t_158_3 : (((((mj_code 158).drop 40).drop 40).drop 40).take 40).all (mj_chk 158) = true := by decide +kernel
set_option maxRecDepth 20000 in
theorem t_158_4 : (((((mj_code 158).drop 40).drop 40).drop 40).drop 40).all (mj_chk 158) = true := by decide +kernel
theorem t_158 : (mj_code 158).all (mj_chk 158) = true := mj_all_td 40 t_158_0 (mj_all_td 40 t_158_1 (mj_all_td 40 t_158_2 (mj_all_td 40 t_158_3 (t_158_4))))
set_option maxRecDepth 20000 in
theorem t_159 : (mj_code 159).all (mj_chk 159) = true := by decide +kernel
set_option maxRecDepth 20000 in
theorem t_160 : (mj_code 160).all (mj_chk 160) = true := by decide +kernel
set_option maxRecDepth 20000 in
theorem t_161 : (mj_code 161).all (mj_chk 161) = true := by decide +kernel
set_option maxRecDepth 20000 in
theorem t_162 : (mj_code 162).all (mj_chk 162) = true := by decide +kernel
set_option maxRecDepth 20000 in
theorem t_163 : (mj_code 163).all (mj_chk 163) = true := by decide +kernel
set_option maxRecDepth 20000 in
theorem t_164 : (mj_code 164).all (mj_chk 164) = true := by decide +kernel
set_option maxRecDepth 20000 in
theorem t_165 : (mj_code 165).all (mj_chk 165) = true := by decide +kernel
set_option maxRecDepth 20000 in
theorem t_166 : (mj_code 166).all (mj_chk 166) = true := by decide +kernel
set_option maxRecDepth 20000 in
theorem t_167 : (mj_code 167).all (mj_chk 167) = true := by decide +kernel
set_option maxRecDepth 20000 in
theorem t_168 : (mj_code 168).all (mj_chk 168) = true := by decide +kernel
set_option maxRecDepth 20000 in
theorem t_169 : (mj_code 169).all (mj_chk 169) = true := by decide +kernel
set_option maxRecDepth 20000 in
theorem t_170 : (mj_code 170).all (mj_chk 170) = true := by decide +kernel
set_option maxRecDepth 20000 in
theorem t_171 : (mj_code 171).all (mj_chk 171) = true := by decide +kernel
set_option maxRecDepth 20000 in
theorem t_172 : (mj_code 172).all (mj_chk 172) = true := by decide +kernel
set_option maxRecDepth 20000 in
theorem t_173 : (mj_code 173).all (mj_chk 173) = true := by decide +kernel
set_option maxRecDepth 20000 in
theorem t_174 : (mj_code 174).all (mj_chk 174) = true := by decide +kernel
set_option maxRecDepth 20000 in
theorem t_175 : (mj_code 175).all (mj_chk 175) = true := by decide +kernel
set_option maxRecDepth 20000 in
theorem t_176 : (mj_code 176).all (mj_chk 176) = true := by decide +kernel
set_option maxRecDepth 20000 in
theorem t_177 : (mj_code 177).all (mj_chk 177) = true := by decide +kernel
set_option maxRecDepth 20000 in
theorem t_178 : (mj_code 178).all (mj_chk 178) = true := by decide +kernel
set_option maxRecDepth 20000 in
theorem t_179 : (mj_code 179).all (mj_chk 179) = true := by decide +kernel
set_option maxRecDepth 20000 in
theorem t_180 : (mj_code 180).all (mj_chk 180) = true := by decide +kernel
set_option maxRecDepth 20000 in
theorem t_181 : (mj_code 181).all (mj_chk 181) = true := by decide +kernel
set_option maxRecDepth 20000 in
theorem t_182 : (mj_code 182).all (mj_chk 182) = true := by decide +kernel
set_option maxRecDepth 20000 in
theorem t_183 : (mj_code 183).all (mj_chk 183) = true := by decide +kernel
set_option maxRecDepth 20000 in
theorem t_184 : (mj_code 184).all (mj_chk 184) = true := by decide +kernel
set_option maxRecDepth 20000 in
theorem t_185 : (mj_code 185).all (mj_chk 185) = true := by decide +kernel
set_option maxRecDepth 20000 in
theorem t_186 : (mj_code 186).all (mj_chk 186) = true := by decide +kernel
set_option maxRecDepth 20000 in
theorem t_187 : (mj_code 187).all (mj_chk 187) = true := by decide +kernel
set_option maxRecDepth 20000 in
theorem t_188 : (mj_code 188).all (mj_chk 188) = true := by decide +kernel
set_option maxRecDepth 20000 in
theorem t_189 : (mj_code 189).all (mj_chk 189) = true := by decide +kernel
set_option maxRecDepth 20000 in
theorem t_190 : (mj_code 190).all (mj_chk 190) = true := by decide +kernel
set_option maxRecDepth 20000 in
theorem t_191 : (mj_code 191).all (mj_chk 191) = true := by decide +kernel
set_option maxRecDepth 20000 in
theorem t_192 : (mj_code 192).all (mj_chk 192) = true := by decide +kernel
set_option maxRecDepth 20000 in
theorem t_193 : (mj_code 193).all (mj_chk 193) = true := by decide +kernel
set_option maxRecDepth 20000 in
theorem t_194 : (mj_code 194).all (mj_chk 194) = true := by decide +kernel
set_option maxRecDepth 20000 in
theorem t_195 : (mj_code 195).all (mj_chk 195) = true := by decide +kernel
set_option maxRecDepth 20000 in
theorem t_196 : (mj_code 196).all (mj_chk 196) = true := by decide +kernel
set_option maxRecDepth 20000 in
theorem t_197 : (mj_code 197).all (mj_chk 197) = true := by decide +kernel
set_option maxRecDepth 20000 in
theorem t_198 : (mj_code 198).all (mj_chk 198) = true := by decide +kernel
set_option maxRecDepth 20000 in
theorem t_199 : (mj_code 199).all (mj_chk 199) = true := by decide +kernel
set_option maxRecDepth 20000 in
theorem t_200 : (mj_code 200).all (mj_chk 200) = true := by decide +kernel
set_option maxRecDepth 20000 in
theorem t_201 : (mj_code 201).all (mj_chk 201) = true := by decide +kernel
set_option maxRecDepth 20000 in
theorem t_202 : (mj_code 202).all (mj_chk 202) = true := by decide +kernel
set_option maxRecDepth 20000 in
theorem t_203 : (mj_code 203).all (mj_chk 203) = true := by decide +kernel
set_option maxRecDepth 20000 in
theorem t_204 : (mj_code 204).all (mj_chk 204) = true := by decide +kernel
set_option maxRecDepth 20000 in
theorem t_205 : (mj_code 205).all (mj_chk 205) = true := by decide +kernel
set_option maxRecDepth 20000 in
theorem t_206 : (mj_code 206).all (mj_chk 206) = true := by decide +kernel
set_option maxRecDepth 20000 in
theorem t_207 : (mj_code 207).all (mj_chk 207) = true := by decide +kernel
set_option maxRecDepth 20000 in
theorem t_208 : (mj_code 208).all (mj_chk 208) = true := by decide +kernel
set_option maxRecDepth 20000 in
theorem t_209 : (mj_code 209).all (mj_chk 209) = true := by decide +kernel
set_option maxRecDepth 20000 in
theorem t_210_0 : ((mj_code 210).take 40).all (mj_chk 210) = true := by decide +kernel
set_option maxRecDepth 20000 in
theorem t_210_1 : (((mj_code 210).drop 40).take 40).all (mj_chk 210) = true := by decide +kernel
set_option maxRecDepth 20000 in
theorem t_210_2 : ((((mj_code 210).drop 40).drop 40).take 40).all (mj_chk 210) = true := by decide +kernel
set_option maxRecDepth 20000 in
theorem t_210_3 : (((((mj_code 210).drop 40).drop 40).drop 40).take 40).all (mj_chk 210) = true := by decide +kernel
set_option maxRecDepth 20000 in
theorem t_210_4 : (((((mj_code 210).drop 40).drop 40).drop 40).drop 40).all (mj_chk 210) = true := by decide +kernel
theorem t_210 : (mj_code 210).all (mj_chk 210) = true := mj_all_td 40 t_210_0 (mj_all_td 40 t_210_1 (mj_all_td 40 t_210_2 (mj_all_td 40 t_210_3 (t_210_4))))
set_option maxRecDepth 20000 in
theorem t_211 : (mj_code 211).all (mj_chk 211) = true := by decide +kernel
set_option maxRecDepth 20000 in
theorem t_212_0 : ((mj_code 212).take 40).all (mj_chk 212) = true := by decide +kernel
set_option maxRecDepth 20000 in
theorem t_212_1 : (((mj_code 212).drop 40).take 40).all (mj_chk 212) = true := by decide +kernel
set_option maxRecDepth 20000 in
theorem t_212_2 : ((((mj_code 212).drop 40).drop 40).take 40).all (mj_chk 212) = true := by decide +kernel
set_option maxRecDepth 20000 in
theorem t_212_3 : (((((mj_code 212).drop 40).drop 40).drop 40).take 40).all (mj_chk 212) = true := by decide +kernel
set_option maxRecDepth 20000 in
theorem t_212_4 : ((((((mj_code 212).drop 40).drop 40).drop 40).drop 40).take 40).all (mj_chk 212) = true := by decide +kernel
set_option maxRecDepth 20000 in
theorem t_212_5 : (((((((mj_code 212).drop 40).drop 40).drop 40).drop 40).drop 40).take 40).all (mj_chk 212) = true := by decide +kernel
set_option maxRecDepth 20000 in
theorem t_212_6 : ((((((((mj_code 212).drop 40).drop 40).drop 40).drop 40).drop 40).drop 40).take 40).all (mj_chk 212) = true := by decide +kernel
set_option maxRecDepth 20000 in
theorem t_212_7 : ((((((((mj_code 212).drop 40).drop 40).drop 40).drop 40).drop 40).drop 40).drop 40).all (mj_chk 212) = true := by decide +kernel
theorem t_212 : (mj_code 212).all (mj_chk 212) = true := mj_all_td 40 t_212_0 (mj_all_td 40 t_212_1 (mj_all_td 40 t_212_2 (mj_all_td 40 t_212_3 (mj_all_td 40 t_212_4 (mj_all_td 40 t_212_5 (mj_all_td 40 t_212_6 (t_212_7)))))))
set_option maxRecDepth 20000 in
theorem t_213 : (mj_code 213).all (mj_chk 213) = true := by decide +kernel
set_option maxRecDepth 20000 in
theorem t_214 : (mj_code 214).all (mj_chk 214) = true := by decide +kernel
set_option maxRecDepth 20000 in
theorem t_215 : (mj_code 215).all (mj_chk 215) = true := by decide +kernel
set_option maxRecDepth 20000 in
theorem t_216 : (mj_code 216).all (mj_chk 216) = true := by decide +kernel
set_option maxRecDepth 20000 in
theorem t_217 : (mj_code 217).all (mj_chk 217) = true := by decide +kernel
set_option maxRecDepth 20000 in
theorem t_218 : (mj_code 218).all (mj_chk 218) = true := by decide +kernel
set_option maxRecDepth 20000 in
theorem t_219 : (mj_code 219).all (mj_chk 219) = true := by decide +kernel
set_option maxRecDepth 20000 in
theorem t_220 : (mj_code 220).all (mj_chk 220) = true := by decide +kernel
set_option maxRecDepth 20000 in
theorem t_221 : (mj_code 221).all (mj_chk 221) = true := by decide +kernel
set_option maxRecDepth 20000 in
theorem t_222 : (mj_code 222).all (mj_chk 222) = true := by decide +kernel
set_option maxRecDepth 20000 in
theorem t_223 : (mj_code 223).all (mj_chk 223) = true := by decide +kernel
set_option maxRecDepth 20000 in
theorem t_224 : (mj_code 224).all (mj_chk 224) = true := by decide +kernel
set_option maxRecDepth 20000 in
theorem t_225 : (mj_code 225).all (mj_chk 225) = true := by decide +kernel
set_option maxRecDepth 20000 in
theorem t_226 : (mj_code 226).all (mj_chk 226) = true := by decide +kernel
set_option maxRecDepth 20000 in
theorem t_227 : (mj_code 227).all (mj_chk 227) = true := by decide +kernel
set_option maxRecDepth 20000 in
theorem t_228 : (mj_code 228).all (mj_chk 228) = true := by decide +kernel
set_option maxRecDepth 20000 in
theorem t_229 : (mj_code 229).all (mj_chk 229) = true := by decide +kernel
set_option maxRecDepth 20000 in
theorem t_230 : (mj_code 230).all (mj_chk 230) = true := by decide +kernel
set_option maxRecDepth 20000 in
theorem t_231 : (mj_code 231).all (mj_chk 231) = true := by decide +kernel
set_option maxRecDepth 20000 in
theorem t_232 : (mj_code 232).all (mj_chk 232) = true := by decide +kernel
set_option maxRecDepth 20000 in
theorem t_233 : (mj_code 233).all (mj_chk 233) = true := by decide +kernel
set_option maxRecDepth 20000 in
theorem t_234 : (mj_code 234).all (mj_chk 234) = true := by decide +kernel
set_option maxRecDepth 20000 in
theorem t_235 : (mj_code 235).all (mj_chk 235) = true := by decide +kernel
set_option maxRecDepth 20000 in
theorem t_236 : (mj_code 236).all (mj_chk 236) = true := by decide +kernel
set_option maxRecDepth 20000 in
theorem t_237 : (mj_code 237).all (mj_chk 237) = true := by decide +kernel
set_option maxRecDepth 20000 in
theorem t_238_0 : ((mj_code 238).take 40).all (mj_chk 238) = true := by decide +kernel
set_option maxRecDepth 20000 in
theorem t_238_1 : (((mj_code 238).drop 40).take 40).all (mj_chk 238) = true := by decide +kernel
set_option maxRecDepth 20000 in
theorem t_238_2 : ((((mj_code 238).drop 40).drop 40).take 40).all (mj_chk 238) = true := by decide +kernel
set_option maxRecDepth 20000 in
theorem t_238_3 : (((((mj_code 238).drop 40).drop 40).drop 40).take 40).all (mj_chk 238) = true := by decide +kernel
set_option maxRecDepth 20000 in
theorem t_238_4 : ((((((mj_code 238).drop 40).drop 40).drop 40).drop 40).take 40).all (mj_chk 238) = true := by decide +kernel
set_option maxRecDepth 20000 in
theorem t_238_5 : (((((((mj_code 238).drop 40).drop 40).drop 40).drop 40).drop 40).take 40).all (mj_chk 238) = true := by decide +kernel
set_option maxRecDepth 20000 in
theorem t_238_6 : ((((((((mj_code 238).drop 40).drop 40).drop 40).drop 40).drop 40).drop 40).take 40).all (mj_chk 238) = true := by decide +kernel
set_option maxRecDepth 20000 in
theorem t_238_7 : (((((((((mj_code 238).drop 40).drop 40).drop 40).drop 40).drop 40).drop 40).drop 40).take 40).all (mj_chk 238) = true := by decide +kernel
