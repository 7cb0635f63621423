set_option maxRecDepth 100000 in
theorem am_ck_1 : (am_cd 1).all (am_ichk 1) = true := by decide +kernel
set_option maxRecDepth 100000 in
theorem am_ck_2 : (am_cd 2).all (am_ichk 2) = true := by decide +kernel
set_option maxRecDepth 100000 in
theorem am_ck_3 : (am_cd 3).all (am_ichk 3) = true := by decide +kernel
set_option maxRecDepth 100000 in
theorem am_ck_4 : (am_cd 4).all (am_ichk 4) = true := by decide +kernel
set_option maxRecDepth 100000 in
theorem am_ck_5 : (am_cd 5).all (am_ichk 5) = true := by decide +kernel
set_option maxRecDepth 100000 in
theorem am_ck_6 : (am_cd 6).all (am_ichk 6) = true := by decide +kernel
set_option maxRecDepth 100000 in
theorem am_ck_7 : (am_cd 7).all (am_ichk 7) = true := by decide +kernel
set_option maxRecDepth 100000 in
theorem am_ck_8 : (am_cd 8).all (am_ichk 8) = true := by decide +kernel
set_option maxRecDepth 100000 in
theorem am_ck_9 : (am_cd 9).all (am_ichk 9) = true := by decide +kernel
set_option maxRecDepth 100000 in
theorem am_ck_10 : (am_cd 10).all (am_ichk 10) = true := by decide +kernel
set_option maxRecDepth 100000 in
theorem am_ck_11 : (am_cd 11).all (am_ichk 11) = true := by decide +kernel
set_option maxRecDepth 100000 in
theorem am_ck_12 : (am_cd 12).all (am_ichk 12) = true := by decide +kernel
set_option maxRecDepth 100000 in
theorem am_ck_13 : (am_cd 13).all (am_ichk 13) = true := by decide +kernel
set_option maxRecDepth 100000 in
theorem am_ck_14 : (am_cd 14).all (am_ichk 14) = true := by decide +kernel
set_option maxRecDepth 100000 in
theorem am_ck_15 : (am_cd 15).all (am_ichk 15) = true := by decide +kernel
set_option maxRecDepth 100000 in
theorem am_ck_16 : (am_cd 16).all (am_ichk 16) = true := by decide +kernel
set_option maxRecDepth 100000 in
theorem am_ck_17 : (am_cd 17).all (am_ichk 17) = true := by decide +kernel
set_option maxRecDepth 100000 in
theorem am_ck_18 : (am_cd 18).all (am_ichk 18) = true := by decide +kernel
set_option maxRecDepth 100000 in
theorem am_ck_19 : (am_cd 19).all (am_ichk 19) = true := by decide +kernel
set_option maxRecDepth 100000 in
theorem am_ck_20 : (am_cd 20).all (am_ichk 20) = true := by decide +kernel
set_option maxRecDepth 100000 in
theorem am_ck_21 : (am_cd 21).all (am_ichk 21) = true := by decide +kernel
set_option maxRecDepth 100000 in
theorem am_ck_22 : (am_cd 22).all (am_ichk 22) = true := by decide +kernel
set_option maxRecDepth 100000 in
theorem am_ck_23 : (am_cd 23).all (am_ichk 23) = true := by decide +kernel
set_option maxRecDepth 100000 in
theorem am_ck_24 : (am_cd 24).all (am_ichk 24) = true := by decide +kernel
set_option maxRecDepth 100000 in
theorem am_ck_25 : (am_cd 25).all (am_ichk 25) = true := by decide +kernel
set_option maxRecDepth 100000 in
theorem am_ck_26 : (am_cd 26).all (am_ichk 26) = true := by decide +kernel
set_option maxRecDepth 100000 in
theorem am_ck_27 : (am_cd 27).all (am_ichk 27) = true := by decide +kernel
set_option maxRecDepth 100000 in
theorem am_ck_28 : (am_cd 28).all (am_ichk 28) = true := by decide +kernel
set_option maxRecDepth 100000 in
theorem am_ck_29 : (am_cd 29).all (am_ichk 29) = true := by decide +kernel
set_option maxRecDepth 100000 in
theorem am_ck_30 : (am_cd 30).all (am_ichk 30) = true := by decide +kernel
set_option maxRecDepth 100000 in
theorem am_ck_31 : (am_cd 31).all (am_ichk 31) = true := by decide +kernel
set_option maxRecDepth 100000 in
theorem am_ck_32 : (am_cd 32).all (am_ichk 32) = true := by decide +kernel
set_option maxRecDepth 100000 in
theorem am_ck_33 : (am_cd 33).all (am_ichk 33) = true := by decide +kernel
set_option maxRecDepth 100000 in
theorem am_ck_34 : (am_cd 34).all (am_ichk 34) = true := by decide +kernel
set_option maxRecDepth 100000 in
theorem am_ck_35 : (am_cd 35).all (am_ichk 35) = true := by decide +kernel
set_option maxRecDepth 100000 in
theorem am_ck_36 : (am_cd 36).all (am_ichk 36) = true := by decide +kernel
set_option maxRecDepth 100000 in
theorem am_ck_37 : (am_cd 37).all (am_ichk 37) = true := by decide +kernel
set_option maxRecDepth 100000 in
theorem am_ck_38 : (am_cd 38).all (am_ichk 38) = true := by decide +kernel
set_option maxRecDepth 100000 in
theorem am_ck_39 : (am_cd 39).all (am_ichk 39) = true := by decide +kernel
set_option maxRecDepth 100000 in
theorem am_ck_40 : (am_cd 40).all (am_ichk 40) = true := by decide +kernel
set_option maxRecDepth 100000 in
theorem am_ck_41 : (am_cd 41).all (am_ichk 41) = true := by decide +kernel
set_option maxRecDepth 100000 in
theorem am_ck_42 : (am_cd 42).all (am_ichk 42) = true := by decide +kernel
set_option maxRecDepth 100000 in
theorem am_ck_43 : (am_cd 43).all (am_ichk 43) = true := by decide +kernel
set_option maxRecDepth 100000 in
theorem am_ck_44 : (am_cd 44).all (am_ichk 44) = true := by decide +kernel
set_option maxRecDepth 100000 in
theorem am_ck_45 : (am_cd 45).all (am_ichk 45) = true := by decide +kernel
set_option maxRecDepth 100000 in
theorem am_ck_46 : (am_cd 46).all (am_ichk 46) = true := by decide +kernel
set_option maxRecDepth 100000 in
theorem am_ck_47 : (am_cd 47).all (am_ichk 47) = true := by decide +kernel
set_option maxRecDepth 100000 in
theorem am_ck_48 : (am_cd 48).all (am_ichk 48) = true := by decide +kernel
set_option maxRecDepth 100000 in
theorem am_ck_49 : (am_cd 49).all (am_ichk 49) = true := by decide +kernel
set_option maxRecDepth 100000 in
theorem am_ck_50 : (am_cd 50).all (am_ichk 50) = true := by decide +kernel
set_option maxRecDepth 100000 in
theorem am_ck_51 : (am_cd 51).all (am_ichk 51) = true := by decide +kernel
set_option maxRecDepth 100000 in
theorem am_ck_52 : (am_cd 52).all (am_ichk 52) = true := by decide +kernel
set_option maxRecDepth 100000 in
theorem am_ck_53 : (am_cd 53).all (am_ichk 53) = true := by decide +kernel
set_option maxRecDepth 100000 in
theorem am_ck_54 : (am_cd 54).all (am_ichk 54) = true := by decide +kernel
set_option maxRecDepth 100000 in
theorem am_ck_55 : (am_cd 55).all (am_ichk 55) = true := by decide +kernel
set_option maxRecDepth 100000 in
theorem am_ck_56 : (am_cd 56).all (am_ichk 56) = true := by decide +kernel
set_option maxRecDepth 100000 in
theorem am_ck_57 : (am_cd 57).all (am_ichk 57) = true := by decide +kernel
set_option maxRecDepth 100000 in
theorem am_ck_58 : (am_cd 58).all (am_ichk 58) = true := by decide +kernel
set_option maxRecDepth 100000 in
theorem am_ck_59 : (am_cd 59).all (am_ichk 59) = true := by decide +kernel
set_option maxRecDepth 100000 in
theorem am_ck_60 : (am_cd 60).all (am_ichk 60) = true := by decide +kernel
