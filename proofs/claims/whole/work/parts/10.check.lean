theorem am_ck_take {α : Type} {p : α → Bool} {l : List α} {n : Nat} (h : (l.take n).all p = true) (h2 : (l.drop n).all p = true) : l.all p = true := by
  rw [← List.take_append_drop n l, List.all_append, h, h2]
  rfl
theorem am_ckT_1020 : ((am_cd 0).drop 1020).all (am_ichk 0) = true := am_ck_take am_ckL_1020 (by rw [List.drop_drop]; rfl)
theorem am_ckT_960 : ((am_cd 0).drop 960).all (am_ichk 0) = true := am_ck_take am_ckL_960 (by rw [List.drop_drop]; exact am_ckT_1020)
theorem am_ckT_900 : ((am_cd 0).drop 900).all (am_ichk 0) = true := am_ck_take am_ckL_900 (by rw [List.drop_drop]; exact am_ckT_960)
theorem am_ckT_840 : ((am_cd 0).drop 840).all (am_ichk 0) = true := am_ck_take am_ckL_840 (by rw [List.drop_drop]; exact am_ckT_900)
theorem am_ckT_780 : ((am_cd 0).drop 780).all (am_ichk 0) = true := am_ck_take am_ckL_780 (by rw [List.drop_drop]; exact am_ckT_840)
theorem am_ckT_720 : ((am_cd 0).drop 720).all (am_ichk 0) = true := am_ck_take am_ckL_720 (by rw [List.drop_drop]; exact am_ckT_780)
theorem am_ckT_660 : ((am_cd 0).drop 660).all (am_ichk 0) = true := am_ck_take am_ckL_660 (by rw [List.drop_drop]; exact am_ckT_720)
theorem am_ckT_600 : ((am_cd 0).drop 600).all (am_ichk 0) = true := am_ck_take am_ckL_600 (by rw [List.drop_drop]; exact am_ckT_660)
theorem am_ckT_540 : ((am_cd 0).drop 540).all (am_ichk 0) = true := am_ck_take am_ckL_540 (by rw [List.drop_drop]; exact am_ckT_600)
theorem am_ckT_480 : ((am_cd 0).drop 480).all (am_ichk 0) = true := am_ck_take am_ckL_480 (by rw [List.drop_drop]; exact am_ckT_540)
theorem am_ckT_420 : ((am_cd 0).drop 420).all (am_ichk 0) = true := am_ck_take am_ckL_420 (by rw [List.drop_drop]; exact am_ckT_480)
theorem am_ckT_360 : ((am_cd 0).drop 360).all (am_ichk 0) = true := am_ck_take am_ckL_360 (by rw [List.drop_drop]; exact am_ckT_420)
theorem am_ckT_300 : ((am_cd 0).drop 300).all (am_ichk 0) = true := am_ck_take am_ckL_300 (by rw [List.drop_drop]; exact am_ckT_360)
theorem am_ckT_240 : ((am_cd 0).drop 240).all (am_ichk 0) = true := am_ck_take am_ckL_240 (by rw [List.drop_drop]; exact am_ckT_300)
theorem am_ckT_180 : ((am_cd 0).drop 180).all (am_ichk 0) = true := am_ck_take am_ckL_180 (by rw [List.drop_drop]; exact am_ckT_240)
theorem am_ckT_120 : ((am_cd 0).drop 120).all (am_ichk 0) = true := am_ck_take am_ckL_120 (by rw [List.drop_drop]; exact am_ckT_180)
theorem am_ckT_60 : ((am_cd 0).drop 60).all (am_ichk 0) = true := am_ck_take am_ckL_60 (by rw [List.drop_drop]; exact am_ckT_120)
theorem am_ckT_0 : ((am_cd 0).drop 0).all (am_ichk 0) = true := am_ck_take am_ckL_0 (by rw [List.drop_drop]; exact am_ckT_60)
theorem am_ck_0 : (am_cd 0).all (am_ichk 0) = true := am_ckT_0
theorem am_ck_two {P : Nat → Prop} {a c : Nat} (b : Nat) (h1 : ∀ y, a ≤ y → y < b → P y) (h2 : ∀ y, b ≤ y → y < c → P y) : ∀ y, a ≤ y → y < c → P y := fun y ha hc => (Nat.lt_or_ge y b).elim (h1 y ha) (fun h => h2 y h hc)
theorem am_ck_all : ∀ y, 0 ≤ y → y < 205 → (am_cd y).all (am_ichk y) = true := (am_ck_two 102 (am_ck_two 51 (am_ck_two 25 (am_ck_two 12 (am_ck_two 6 (am_ck_two 3 (am_ck_two 1 (fun y h1 h2 => by obtain rfl : y = 0 := by omega
    exact am_ck_0) (am_ck_two 2 (fun y h1 h2 => by obtain rfl : y = 1 := by omega
    exact am_ck_1) (fun y h1 h2 => by obtain rfl : y = 2 := by omega
    exact am_ck_2))) (am_ck_two 4 (fun y h1 h2 => by obtain rfl : y = 3 := by omega
    exact am_ck_3) (am_ck_two 5 (fun y h1 h2 => by obtain rfl : y = 4 := by omega
    exact am_ck_4) (fun y h1 h2 => by obtain rfl : y = 5 := by omega
    exact am_ck_5)))) (am_ck_two 9 (am_ck_two 7 (fun y h1 h2 => by obtain rfl : y = 6 := by omega
    exact am_ck_6) (am_ck_two 8 (fun y h1 h2 => by obtain rfl : y = 7 := by omega
    exact am_ck_7) (fun y h1 h2 => by obtain rfl : y = 8 := by omega
    exact am_ck_8))) (am_ck_two 10 (fun y h1 h2 => by obtain rfl : y = 9 := by omega
    exact am_ck_9) (am_ck_two 11 (fun y h1 h2 => by obtain rfl : y = 10 := by omega
    exact am_ck_10) (fun y h1 h2 => by obtain rfl : y = 11 := by omega
    exact am_ck_11))))) (am_ck_two 18 (am_ck_two 15 (am_ck_two 13 (fun y h1 h2 => by obtain rfl : y = 12 := by omega
    exact am_ck_12) (am_ck_two 14 (fun y h1 h2 => by obtain rfl : y = 13 := by omega
    exact am_ck_13) (fun y h1 h2 => by obtain rfl : y = 14 := by omega
    exact am_ck_14))) (am_ck_two 16 (fun y h1 h2 => by obtain rfl : y = 15 := by omega
    exact am_ck_15) (am_ck_two 17 (fun y h1 h2 => by obtain rfl : y = 16 := by omega
    exact am_ck_16) (fun y h1 h2 => by obtain rfl : y = 17 := by omega
    exact am_ck_17)))) (am_ck_two 21 (am_ck_two 19 (fun y h1 h2 => by obtain rfl : y = 18 := by omega
    exact am_ck_18) (am_ck_two 20 (fun y h1 h2 => by obtain rfl : y = 19 := by omega
    exact am_ck_19) (fun y h1 h2 => by obtain rfl : y = 20 := by omega
    exact am_ck_20))) (am_ck_two 23 (am_ck_two 22 (fun y h1 h2 => by obtain rfl : y = 21 := by omega
    exact am_ck_21) (fun y h1 h2 => by obtain rfl : y = 22 := by omega
    exact am_ck_22)) (am_ck_two 24 (fun y h1 h2 => by obtain rfl : y = 23 := by omega
    exact am_ck_23) (fun y h1 h2 => by obtain rfl : y = 24 := by omega
    exact am_ck_24)))))) (am_ck_two 38 (am_ck_two 31 (am_ck_two 28 (am_ck_two 26 (fun y h1 h2 => by obtain rfl : y = 25 := by omega
    exact am_ck_25) (am_ck_two 27 (fun y h1 h2 => by obtain rfl : y = 26 := by omega
    exact am_ck_26) (fun y h1 h2 => by obtain rfl : y = 27 := by omega
    exact am_ck_27))) (am_ck_two 29 (fun y h1 h2 => by obtain rfl : y = 28 := by omega
    exact am_ck_28) (am_ck_two 30 (fun y h1 h2 => by obtain rfl : y = 29 := by omega
    exact am_ck_29) (fun y h1 h2 => by obtain rfl : y = 30 := by omega
    exact am_ck_30)))) (am_ck_two 34 (am_ck_two 32 (fun y h1 h2 => by obtain rfl : y = 31 := by omega
    exact am_ck_31) (am_ck_two 33 (fun y h1 h2 => by obtain rfl : y = 32 := by omega
    exact am_ck_32) (fun y h1 h2 => by obtain rfl : y = 33 := by omega
    exact am_ck_33))) (am_ck_two 36 (am_ck_two 35 (fun y h1 h2 => by obtain rfl : y = 34 := by omega
    exact am_ck_34) (fun y h1 h2 => by obtain rfl : y = 35 := by omega
    exact am_ck_35)) (am_ck_two 37 (fun y h1 h2 => by obtain rfl : y = 36 := by omega
    exact am_ck_36) (fun y h1 h2 => by obtain rfl : y = 37 := by omega
    exact am_ck_37))))) (am_ck_two 44 (am_ck_two 41 (am_ck_two 39 (fun y h1 h2 => by obtain rfl : y = 38 := by omega
    exact am_ck_38) (am_ck_two 40 (fun y h1 h2 => by obtain rfl : y = 39 := by omega
    exact am_ck_39) (fun y h1 h2 => by obtain rfl : y = 40 := by omega
    exact am_ck_40))) (am_ck_two 42 (fun y h1 h2 => by obtain rfl : y = 41 := by omega
    exact am_ck_41) (am_ck_two 43 (fun y h1 h2 => by obtain rfl : y = 42 := by omega
    exact am_ck_42) (fun y h1 h2 => by obtain rfl : y = 43 := by omega
    exact am_ck_43)))) (am_ck_two 47 (am_ck_two 45 (fun y h1 h2 => by obtain rfl : y = 44 := by omega
    exact am_ck_44) (am_ck_two 46 (fun y h1 h2 => by obtain rfl : y = 45 := by omega
    exact am_ck_45) (fun y h1 h2 => by obtain rfl : y = 46 := by omega
    exact am_ck_46))) (am_ck_two 49 (am_ck_two 48 (fun y h1 h2 => by obtain rfl : y = 47 := by omega
    exact am_ck_47) (fun y h1 h2 => by obtain rfl : y = 48 := by omega
    exact am_ck_48)) (am_ck_two 50 (fun y h1 h2 => by obtain rfl : y = 49 := by omega
    exact am_ck_49) (fun y h1 h2 => by obtain rfl : y = 50 := by omega
    exact am_ck_50))))))) (am_ck_two 76 (am_ck_two 63 (am_ck_two 57 (am_ck_two 54 (am_ck_two 52 (fun y h1 h2 => by obtain rfl : y = 51 := by omega
    exact am_ck_51) (am_ck_two 53 (fun y h1 h2 => by obtain rfl : y = 52 := by omega
    exact am_ck_52) (fun y h1 h2 => by obtain rfl : y = 53 := by omega
    exact am_ck_53))) (am_ck_two 55 (fun y h1 h2 => by obtain rfl : y = 54 := by omega
    exact am_ck_54) (am_ck_two 56 (fun y h1 h2 => by obtain rfl : y = 55 := by omega
    exact am_ck_55) (fun y h1 h2 => by obtain rfl : y = 56 := by omega
    exact am_ck_56)))) (am_ck_two 60 (am_ck_two 58 (fun y h1 h2 => by obtain rfl : y = 57 := by omega
    exact am_ck_57) (am_ck_two 59 (fun y h1 h2 => by obtain rfl : y = 58 := by omega
    exact am_ck_58) (fun y h1 h2 => by obtain rfl : y = 59 := by omega
    exact am_ck_59))) (am_ck_two 61 (fun y h1 h2 => by obtain rfl : y = 60 := by omega
    exact am_ck_60) (am_ck_two 62 (fun y h1 h2 => by obtain rfl : y = 61 := by omega
    exact am_ck_61) (fun y h1 h2 => by obtain rfl : y = 62 := by omega
    exact am_ck_62))))) (am_ck_two 69 (am_ck_two 66 (am_ck_two 64 (fun y h1 h2 => by obtain rfl : y = 63 := by omega
    exact am_ck_63) (am_ck_two 65 (fun y h1 h2 => by obtain rfl : y = 64 := by omega
    exact am_ck_64) (fun y h1 h2 => by obtain rfl : y = 65 := by omega
    exact am_ck_65))) (am_ck_two 67 (fun y h1 h2 => by obtain rfl : y = 66 := by omega
    exact am_ck_66) (am_ck_two 68 (fun y h1 h2 => by obtain rfl : y = 67 := by omega
    exact am_ck_67) (fun y h1 h2 => by obtain rfl : y = 68 := by omega
    exact am_ck_68)))) (am_ck_two 72 (am_ck_two 70 (fun y h1 h2 => by obtain rfl : y = 69 := by omega
    exact am_ck_69) (am_ck_two 71 (fun y h1 h2 => by obtain rfl : y = 70 := by omega
    exact am_ck_70) (fun y h1 h2 => by obtain rfl : y = 71 := by omega
    exact am_ck_71))) (am_ck_two 74 (am_ck_two 73 (fun y h1 h2 => by obtain rfl : y = 72 := by omega
    exact am_ck_72) (fun y h1 h2 => by obtain rfl : y = 73 := by omega
    exact am_ck_73)) (am_ck_two 75 (fun y h1 h2 => by obtain rfl : y = 74 := by omega
    exact am_ck_74) (fun y h1 h2 => by obtain rfl : y = 75 := by omega
    exact am_ck_75)))))) (am_ck_two 89 (am_ck_two 82 (am_ck_two 79 (am_ck_two 77 (fun y h1 h2 => by obtain rfl : y = 76 := by omega
    exact am_ck_76) (am_ck_two 78 (fun y h1 h2 => by obtain rfl : y = 77 := by omega
    exact am_ck_77) (fun y h1 h2 => by obtain rfl : y = 78 := by omega
    exact am_ck_78))) (am_ck_two 80 (fun y h1 h2 => by obtain rfl : y = 79 := by omega
    exact am_ck_79) (am_ck_two 81 (fun y h1 h2 => by obtain rfl : y = 80 := by omega
    exact am_ck_80) (fun y h1 h2 => by obtain rfl : y = 81 := by omega
    exact am_ck_81)))) (am_ck_two 85 (am_ck_two 83 (fun y h1 h2 => by obtain rfl : y = 82 := by omega
    exact am_ck_82) (am_ck_two 84 (fun y h1 h2 => by obtain rfl : y = 83 := by omega
    exact am_ck_83) (fun y h1 h2 => by obtain rfl : y = 84 := by omega
    exact am_ck_84))) (am_ck_two 87 (am_ck_two 86 (fun y h1 h2 => by obtain rfl : y = 85 := by omega
    exact am_ck_85) (fun y h1 h2 => by obtain rfl : y = 86 := by omega
    exact am_ck_86)) (am_ck_two 88 (fun y h1 h2 => by obtain rfl : y = 87 := by omega
    exact am_ck_87) (fun y h1 h2 => by obtain rfl : y = 88 := by omega
    exact am_ck_88))))) (am_ck_two 95 (am_ck_two 92 (am_ck_two 90 (fun y h1 h2 => by obtain rfl : y = 89 := by omega
    exact am_ck_89) (am_ck_two 91 (fun y h1 h2 => by obtain rfl : y = 90 := by omega
    exact am_ck_90) (fun y h1 h2 => by obtain rfl : y = 91 := by omega
    exact am_ck_91))) (am_ck_two 93 (fun y h1 h2 => by obtain rfl : y = 92 := by omega
    exact am_ck_92) (am_ck_two 94 (fun y h1 h2 => by obtain rfl : y = 93 := by omega
    exact am_ck_93) (fun y h1 h2 => by obtain rfl : y = 94 := by omega
    exact am_ck_94)))) (am_ck_two 98 (am_ck_two 96 (fun y h1 h2 => by obtain rfl : y = 95 := by omega
    exact am_ck_95) (am_ck_two 97 (fun y h1 h2 => by obtain rfl : y = 96 := by omega
    exact am_ck_96) (fun y h1 h2 => by obtain rfl : y = 97 := by omega
    exact am_ck_97))) (am_ck_two 100 (am_ck_two 99 (fun y h1 h2 => by obtain rfl : y = 98 := by omega
    exact am_ck_98) (fun y h1 h2 => by obtain rfl : y = 99 := by omega
    exact am_ck_99)) (am_ck_two 101 (fun y h1 h2 => by obtain rfl : y = 100 := by omega
    exact am_ck_100) (fun y h1 h2 => by obtain rfl : y = 101 := by omega
    exact am_ck_101)))))))) (am_ck_two 153 (am_ck_two 127 (am_ck_two 114 (am_ck_two 108 (am_ck_two 105 (am_ck_two 103 (fun y h1 h2 => by obtain rfl : y = 102 := by omega
    exact am_ck_102) (am_ck_two 104 (fun y h1 h2 => by obtain rfl : y = 103 := by omega
    exact am_ck_103) (fun y h1 h2 => by obtain rfl : y = 104 := by omega
    exact am_ck_104))) (am_ck_two 106 (fun y h1 h2 => by obtain rfl : y = 105 := by omega
    exact am_ck_105) (am_ck_two 107 (fun y h1 h2 => by obtain rfl : y = 106 := by omega
    exact am_ck_106) (fun y h1 h2 => by obtain rfl : y = 107 := by omega
    exact am_ck_107)))) (am_ck_two 111 (am_ck_two 109 (fun y h1 h2 => by obtain rfl : y = 108 := by omega
    exact am_ck_108) (am_ck_two 110 (fun y h1 h2 => by obtain rfl : y = 109 := by omega
    exact am_ck_109) (fun y h1 h2 => by obtain rfl : y = 110 := by omega
    exact am_ck_110))) (am_ck_two 112 (fun y h1 h2 => by obtain rfl : y = 111 := by omega
    exact am_ck_111) (am_ck_two 113 (fun y h1 h2 => by obtain rfl : y = 112 := by omega
    exact am_ck_112) (fun y h1 h2 => by obtain rfl : y = 113 := by omega
    exact am_ck_113))))) (am_ck_two 120 (am_ck_two 117 (am_ck_two 115 (fun y h1 h2 => by obtain rfl : y = 114 := by omega
    exact am_ck_114) (am_ck_two 116 (fun y h1 h2 => by obtain rfl : y = 115 := by omega
    exact am_ck_115) (fun y h1 h2 => by obtain rfl : y = 116 := by omega
    exact am_ck_116))) (am_ck_two 118 (fun y h1 h2 => by obtain rfl : y = 117 := by omega
    exact am_ck_117) (am_ck_two 119 (fun y h1 h2 => by obtain rfl : y = 118 := by omega
    exact am_ck_118) (fun y h1 h2 => by obtain rfl : y = 119 := by omega
    exact am_ck_119)))) (am_ck_two 123 (am_ck_two 121 (fun y h1 h2 => by obtain rfl : y = 120 := by omega
    exact am_ck_120) (am_ck_two 122 (fun y h1 h2 => by obtain rfl : y = 121 := by omega
    exact am_ck_121) (fun y h1 h2 => by obtain rfl : y = 122 := by omega
    exact am_ck_122))) (am_ck_two 125 (am_ck_two 124 (fun y h1 h2 => by obtain rfl : y = 123 := by omega
    exact am_ck_123) (fun y h1 h2 => by obtain rfl : y = 124 := by omega
    exact am_ck_124)) (am_ck_two 126 (fun y h1 h2 => by obtain rfl : y = 125 := by omega
    exact am_ck_125) (fun y h1 h2 => by obtain rfl : y = 126 := by omega
    exact am_ck_126)))))) (am_ck_two 140 (am_ck_two 133 (am_ck_two 130 (am_ck_two 128 (fun y h1 h2 => by obtain rfl : y = 127 := by omega
    exact am_ck_127) (am_ck_two 129 (fun y h1 h2 => by obtain rfl : y = 128 := by omega
    exact am_ck_128) (fun y h1 h2 => by obtain rfl : y = 129 := by omega
    exact am_ck_129))) (am_ck_two 131 (fun y h1 h2 => by obtain rfl : y = 130 := by omega
    exact am_ck_130) (am_ck_two 132 (fun y h1 h2 => by obtain rfl : y = 131 := by omega
    exact am_ck_131) (fun y h1 h2 => by obtain rfl : y = 132 := by omega
    exact am_ck_132)))) (am_ck_two 136 (am_ck_two 134 (fun y h1 h2 => by obtain rfl : y = 133 := by omega
    exact am_ck_133) (am_ck_two 135 (fun y h1 h2 => by obtain rfl : y = 134 := by omega
    exact am_ck_134) (fun y h1 h2 => by obtain rfl : y = 135 := by omega
    exact am_ck_135))) (am_ck_two 138 (am_ck_two 137 (fun y h1 h2 => by obtain rfl : y = 136 := by omega
    exact am_ck_136) (fun y h1 h2 => by obtain rfl : y = 137 := by omega
    exact am_ck_137)) (am_ck_two 139 (fun y h1 h2 => by obtain rfl : y = 138 := by omega
    exact am_ck_138) (fun y h1 h2 => by obtain rfl : y = 139 := by omega
    exact am_ck_139))))) (am_ck_two 146 (am_ck_two 143 (am_ck_two 141 (fun y h1 h2 => by obtain rfl : y = 140 := by omega
    exact am_ck_140) (am_ck_two 142 (fun y h1 h2 => by obtain rfl : y = 141 := by omega
    exact am_ck_141) (fun y h1 h2 => by obtain rfl : y = 142 := by omega
    exact am_ck_142))) (am_ck_two 144 (fun y h1 h2 => by obtain rfl : y = 143 := by omega
    exact am_ck_143) (am_ck_two 145 (fun y h1 h2 => by obtain rfl : y = 144 := by omega
    exact am_ck_144) (fun y h1 h2 => by obtain rfl : y = 145 := by omega
    exact am_ck_145)))) (am_ck_two 149 (am_ck_two 147 (fun y h1 h2 => by obtain rfl : y = 146 := by omega
    exact am_ck_146) (am_ck_two 148 (fun y h1 h2 => by obtain rfl : y = 147 := by omega
    exact am_ck_147) (fun y h1 h2 => by obtain rfl : y = 148 := by omega
    exact am_ck_148))) (am_ck_two 151 (am_ck_two 150 (fun y h1 h2 => by obtain rfl : y = 149 := by omega
    exact am_ck_149) (fun y h1 h2 => by obtain rfl : y = 150 := by omega
    exact am_ck_150)) (am_ck_two 152 (fun y h1 h2 => by obtain rfl : y = 151 := by omega
    exact am_ck_151) (fun y h1 h2 => by obtain rfl : y = 152 := by omega
    exact am_ck_152))))))) (am_ck_two 179 (am_ck_two 166 (am_ck_two 159 (am_ck_two 156 (am_ck_two 154 (fun y h1 h2 => by obtain rfl : y = 153 := by omega
    exact am_ck_153) (am_ck_two 155 (fun y h1 h2 => by obtain rfl : y = 154 := by omega
    exact am_ck_154) (fun y h1 h2 => by obtain rfl : y = 155 := by omega
    exact am_ck_155))) (am_ck_two 157 (fun y h1 h2 => by obtain rfl : y = 156 := by omega
    exact am_ck_156) (am_ck_two 158 (fun y h1 h2 => by obtain rfl : y = 157 := by omega
    exact am_ck_157) (fun y h1 h2 => by obtain rfl : y = 158 := by omega
    exact am_ck_158)))) (am_ck_two 162 (am_ck_two 160 (fun y h1 h2 => by obtain rfl : y = 159 := by omega
    exact am_ck_159) (am_ck_two 161 (fun y h1 h2 => by obtain rfl : y = 160 := by omega
    exact am_ck_160) (fun y h1 h2 => by obtain rfl : y = 161 := by omega
    exact am_ck_161))) (am_ck_two 164 (am_ck_two 163 (fun y h1 h2 => by obtain rfl : y = 162 := by omega
    exact am_ck_162) (fun y h1 h2 => by obtain rfl : y = 163 := by omega
    exact am_ck_163)) (am_ck_two 165 (fun y h1 h2 => by obtain rfl : y = 164 := by omega
    exact am_ck_164) (fun y h1 h2 => by obtain rfl : y = 165 := by omega
    exact am_ck_165))))) (am_ck_two 172 (am_ck_two 169 (am_ck_two 167 (fun y h1 h2 => by obtain rfl : y = 166 := by omega
    exact am_ck_166) (am_ck_two 168 (fun y h1 h2 => by obtain rfl : y = 167 := by omega
    exact am_ck_167) (fun y h1 h2 => by obtain rfl : y = 168 := by omega
    exact am_ck_168))) (am_ck_two 170 (fun y h1 h2 => by obtain rfl : y = 169 := by omega
    exact am_ck_169) (am_ck_two 171 (fun y h1 h2 => by obtain rfl : y = 170 := by omega
    exact am_ck_170) (fun y h1 h2 => by obtain rfl : y = 171 := by omega
    exact am_ck_171)))) (am_ck_two 175 (am_ck_two 173 (fun y h1 h2 => by obtain rfl : y = 172 := by omega
    exact am_ck_172) (am_ck_two 174 (fun y h1 h2 => by obtain rfl : y = 173 := by omega
    exact am_ck_173) (fun y h1 h2 => by obtain rfl : y = 174 := by omega
    exact am_ck_174))) (am_ck_two 177 (am_ck_two 176 (fun y h1 h2 => by obtain rfl : y = 175 := by omega
    exact am_ck_175) (fun y h1 h2 => by obtain rfl : y = 176 := by omega
    exact am_ck_176)) (am_ck_two 178 (fun y h1 h2 => by obtain rfl : y = 177 := by omega
    exact am_ck_177) (fun y h1 h2 => by obtain rfl : y = 178 := by omega
    exact am_ck_178)))))) (am_ck_two 192 (am_ck_two 185 (am_ck_two 182 (am_ck_two 180 (fun y h1 h2 => by obtain rfl : y = 179 := by omega
    exact am_ck_179) (am_ck_two 181 (fun y h1 h2 => by obtain rfl : y = 180 := by omega
    exact am_ck_180) (fun y h1 h2 => by obtain rfl : y = 181 := by omega
    exact am_ck_181))) (am_ck_two 183 (fun y h1 h2 => by obtain rfl : y = 182 := by omega
    exact am_ck_182) (am_ck_two 184 (fun y h1 h2 => by obtain rfl : y = 183 := by omega
    exact am_ck_183) (fun y h1 h2 => by obtain rfl : y = 184 := by omega
    exact am_ck_184)))) (am_ck_two 188 (am_ck_two 186 (fun y h1 h2 => by obtain rfl : y = 185 := by omega
    exact am_ck_185) (am_ck_two 187 (fun y h1 h2 => by obtain rfl : y = 186 := by omega
    exact am_ck_186) (fun y h1 h2 => by obtain rfl : y = 187 := by omega
    exact am_ck_187))) (am_ck_two 190 (am_ck_two 189 (fun y h1 h2 => by obtain rfl : y = 188 := by omega
    exact am_ck_188) (fun y h1 h2 => by obtain rfl : y = 189 := by omega
    exact am_ck_189)) (am_ck_two 191 (fun y h1 h2 => by obtain rfl : y = 190 := by omega
    exact am_ck_190) (fun y h1 h2 => by obtain rfl : y = 191 := by omega
    exact am_ck_191))))) (am_ck_two 198 (am_ck_two 195 (am_ck_two 193 (fun y h1 h2 => by obtain rfl : y = 192 := by omega
    exact am_ck_192) (am_ck_two 194 (fun y h1 h2 => by obtain rfl : y = 193 := by omega
    exact am_ck_193) (fun y h1 h2 => by obtain rfl : y = 194 := by omega
    exact am_ck_194))) (am_ck_two 196 (fun y h1 h2 => by obtain rfl : y = 195 := by omega
    exact am_ck_195) (am_ck_two 197 (fun y h1 h2 => by obtain rfl : y = 196 := by omega
    exact am_ck_196) (fun y h1 h2 => by obtain rfl : y = 197 := by omega
    exact am_ck_197)))) (am_ck_two 201 (am_ck_two 199 (fun y h1 h2 => by obtain rfl : y = 198 := by omega
    exact am_ck_198) (am_ck_two 200 (fun y h1 h2 => by obtain rfl : y = 199 := by omega
    exact am_ck_199) (fun y h1 h2 => by obtain rfl : y = 200 := by omega
    exact am_ck_200))) (am_ck_two 203 (am_ck_two 202 (fun y h1 h2 => by obtain rfl : y = 201 := by omega
    exact am_ck_201) (fun y h1 h2 => by obtain rfl : y = 202 := by omega
    exact am_ck_202)) (am_ck_two 204 (fun y h1 h2 => by obtain rfl : y = 203 := by omega
    exact am_ck_203) (fun y h1 h2 => by obtain rfl : y = 204 := by omega
    exact am_ck_204)))))))))
theorem am_ck {y pc : Nat} {x : am_I} (h : am_code y pc = some x) : am_ichk y (pc, x) = true := by
  unfold am_code at h
  have hy : y < 205 := by
    rcases Nat.lt_or_ge y 205 with q | q
    · exact q
    · have e : am_cd y = [] := by
        unfold am_cd
        rw [show Nat.blt y 205 = false from by simpa using q]
        rfl
      rw [e] at h
      cases h
  have hall := am_ck_all y (Nat.zero_le _) hy
  cases hf : (am_cd y).find? (fun q => q.1 == pc) with
  | none => rw [hf] at h; cases h
  | some q =>
    rw [hf] at h
    have h2 : q.2 = x := by simpa using h
    have h3 : q.1 = pc := by simpa using List.find?_some hf
    have h4 := List.all_eq_true.mp hall q (List.mem_of_find?_eq_some hf)
    rw [← h2, ← h3]
    exact h4
