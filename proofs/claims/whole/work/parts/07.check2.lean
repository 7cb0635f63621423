set_option maxRecDepth 100000 in
theorem am_ck_61 : (am_cd 61).all (am_ichk 61) = true := by decide +kernel
set_option maxRecDepth 100000 in
theorem am_ck_62 : (am_cd 62).all (am_ichk 62) = true := by decide +kernel
set_option maxRecDepth 100000 in
theorem am_ck_63 : (am_cd 63).all (am_ichk 63) = true := by decide +kernel
set_option maxRecDepth 100000 in
theorem am_ck_64 : (am_cd 64).all (am_ichk 64) = true := by decide +kernel
set_option maxRecDepth 100000 in
theorem am_ck_65 : (am_cd 65).all (am_ichk 65) = true := by decide +kernel
set_option maxRecDepth 100000 in
theorem am_ck_66 : (am_cd 66).all (am_ichk 66) = true := by decide +kernel
set_option maxRecDepth 100000 in
theorem am_ck_67 : (am_cd 67).all (am_ichk 67) = true := by decide +kernel
set_option maxRecDepth 100000 in
theorem am_ck_68 : (am_cd 68).all (am_ichk 68) = true := by decide +kernel
set_option maxRecDepth 100000 in
theorem am_ck_69 : (am_cd 69).all (am_ichk 69) = true := by decide +kernel
set_option maxRecDepth 100000 in
theorem am_ck_70 : (am_cd 70).all (am_ichk 70) = true := by decide +kernel
set_option maxRecDepth 100000 in
theorem am_ck_71 : (am_cd 71).all (am_ichk 71) = true := by decide +kernel
set_option maxRecDepth 100000 in
theorem am_ck_72 : (am_cd 72).all (am_ichk 72) = true := by decide +kernel
set_option maxRecDepth 100000 in
theorem am_ck_73 : (am_cd 73).all (am_ichk 73) = true := by decide +kernel
set_option maxRecDepth 100000 in
theorem am_ck_74 : (am_cd 74).all (am_ichk 74) = true := by decide +kernel
set_option maxRecDepth 100000 in
theorem am_ck_75 : (am_cd 75).all (am_ichk 75) = true := by decide +kernel
set_option maxRecDepth 100000 in
theorem am_ck_76 : (am_cd 76).all (am_ichk 76) = true := by decide +kernel
set_option maxRecDepth 100000 in
theorem am_ck_77 : (am_cd 77).all (am_ichk 77) = true := by decide +kernel
set_option maxRecDepth 100000 in
theorem am_ck_78 : (am_cd 78).all (am_ichk 78) = true := by decide +kernel
set_option maxRecDepth 100000 in
theorem am_ck_79 : (am_cd 79).all (am_ichk 79) = true := by decide +kernel
set_option maxRecDepth 100000 in
theorem am_ck_80 : (am_cd 80).all (am_ichk 80) = true := by decide +kernel
set_option maxRecDepth 100000 in
theorem am_ck_81 : (am_cd 81).all (am_ichk 81) = true := by decide +kernel
set_option maxRecDepth 100000 in
theorem am_ck_82 : (am_cd 82).all (am_ichk 82) = true := by decide +kernel
set_option maxRecDepth 100000 in
theorem am_ck_83 : (am_cd 83).all (am_ichk 83) = true := by decide +kernel
set_option maxRecDepth 100000 in
theorem am_ck_84 : (am_cd 84).all (am_ichk 84) = true := by decide +kernel
set_option maxRecDepth 100000 in
theorem am_ck_85 : (am_cd 85).all (am_ichk 85) = true := by decide +kernel
set_option maxRecDepth 100000 in
theorem am_ck_86 : (am_cd 86).all (am_ichk 86) = true := by decide +kernel
set_option maxRecDepth 100000 in
theorem am_ck_87 : (am_cd 87).all (am_ichk 87) = true := by decide +kernel
set_option maxRecDepth 100000 in
theorem am_ck_88 : (am_cd 88).all (am_ichk 88) = true := by decide +kernel
set_option maxRecDepth 100000 in
theorem am_ck_89 : (am_cd 89).all (am_ichk 89) = true := by decide +kernel
set_option maxRecDepth 100000 in
theorem am_ck_90 : (am_cd 90).all (am_ichk 90) = true := by decide +kernel
set_option maxRecDepth 100000 in
theorem am_ck_91 : (am_cd 91).all (am_ichk 91) = true := by decide +kernel
set_option maxRecDepth 100000 in
theorem am_ck_92 : (am_cd 92).all (am_ichk 92) = true := by decide +kernel
set_option maxRecDepth 100000 in
theorem am_ck_93 : (am_cd 93).all (am_ichk 93) = true := by decide +kernel
set_option maxRecDepth 100000 in
theorem am_ck_94 : (am_cd 94).all (am_ichk 94) = true := by decide +kernel
set_option maxRecDepth 100000 in
theorem am_ck_95 : (am_cd 95).all (am_ichk 95) = true := by decide +kernel
set_option maxRecDepth 100000 in
theorem am_ck_96 : (am_cd 96).all (am_ichk 96) = true := by decide +kernel
set_option maxRecDepth 100000 in
theorem am_ck_97 : (am_cd 97).all (am_ichk 97) = true := by decide +kernel
set_option maxRecDepth 100000 in
theorem am_ck_98 : (am_cd 98).all (am_ichk 98) = true := by decide +kernel
set_option maxRecDepth 100000 in
theorem am_ck_99 : (am_cd 99).all (am_ichk 99) = true := by decide +kernel
set_option maxRecDepth 100000 in
theorem am_ck_100 : (am_cd 100).all (am_ichk 100) = true := by decide +kernel
set_option maxRecDepth 100000 in
theorem am_ck_101 : (am_cd 101).all (am_ichk 101) = true := by decide +kernel
set_option maxRecDepth 100000 in
theorem am_ck_102 : (am_cd 102).all (am_ichk 102) = true := by decide +kernel
set_option maxRecDepth 100000 in
theorem am_ck_103 : (am_cd 103).all (am_ichk 103) = true := by decide +kernel
set_option maxRecDepth 100000 in
theorem am_ck_104 : (am_cd 104).all (am_ichk 104) = true := by decide +kernel
set_option maxRecDepth 100000 in
theorem am_ck_105 : (am_cd 105).all (am_ichk 105) = true := by decide +kernel
set_option maxRecDepth 100000 in
theorem am_ck_106 : (am_cd 106).all (am_ichk 106) = true := by decide +kernel
set_option maxRecDepth 100000 in
theorem am_ck_107 : (am_cd 107).all (am_ichk 107) = true := by decide +kernel
set_option maxRecDepth 100000 in
theorem am_ck_108 : (am_cd 108).all (am_ichk 108) = true := by decide +kernel
set_option maxRecDepth 100000 in
theorem am_ck_109 : (am_cd 109).all (am_ichk 109) = true := by decide +kernel
set_option maxRecDepth 100000 in
theorem am_ck_110 : (am_cd 110).all (am_ichk 110) = true := by decide +kernel
set_option maxRecDepth 100000 in
theorem am_ck_111 : (am_cd 111).all (am_ichk 111) = true := by decide +kernel
set_option maxRecDepth 100000 in
theorem am_ck_112 : (am_cd 112).all (am_ichk 112) = true := by decide +kernel
set_option maxRecDepth 100000 in
theorem am_ck_113 : (am_cd 113).all (am_ichk 113) = true := by decide +kernel
set_option maxRecDepth 100000 in
theorem am_ck_114 : (am_cd 114).all (am_ichk 114) = true := by decide +kernel
set_option maxRecDepth 100000 in
theorem am_ck_115 : (am_cd 115).all (am_ichk 115) = true := by decide +kernel
set_option maxRecDepth 100000 in
theorem am_ck_116 : (am_cd 116).all (am_ichk 116) = true := by decide +kernel
set_option maxRecDepth 100000 in
theorem am_ck_117 : (am_cd 117).all (am_ichk 117) = true := by decide +kernel
set_option maxRecDepth 100000 in
theorem am_ck_118 : (am_cd 118).all (am_ichk 118) = true := by decide +kernel
set_option maxRecDepth 100000 in
theorem am_ck_119 : (am_cd 119).all (am_ichk 119) = true := by decide +kernel
set_option maxRecDepth 100000 in
theorem am_ck_120 : (am_cd 120).all (am_ichk 120) = true := by decide +kernel
set_option maxRecDepth 100000 in
theorem am_ck_121 : (am_cd 121).all (am_ichk 121) = true := by decide +kernel
set_option maxRecDepth 100000 in
theorem am_ck_122 : (am_cd 122).all (am_ichk 122) = true := by decide +kernel
set_option maxRecDepth 100000 in
theorem am_ck_123 : (am_cd 123).all (am_ichk 123) = true := by decide +kernel
set_option maxRecDepth 100000 in
theorem am_ck_124 : (am_cd 124).all (am_ichk 124) = true := by decide +kernel
set_option maxRecDepth 100000 in
theorem am_ck_125 : (am_cd 125).all (am_ichk 125) = true := by decide +kernel
set_option maxRecDepth 100000 in
theorem am_ck_126 : (am_cd 126).all (am_ichk 126) = true := by decide +kernel
set_option maxRecDepth 100000 in
theorem am_ck_127 : (am_cd 127).all (am_ichk 127) = true := by decide +kernel
set_option maxRecDepth 100000 in
theorem am_ck_128 : (am_cd 128).all (am_ichk 128) = true := by decide +kernel
set_option maxRecDepth 100000 in
theorem am_ck_129 : (am_cd 129).all (am_ichk 129) = true := by decide +kernel
set_option maxRecDepth 100000 in
theorem am_ck_130 : (am_cd 130).all (am_ichk 130) = true := by decide +kernel
