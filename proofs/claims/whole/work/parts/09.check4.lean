set_option maxRecDepth 100000 in
theorem am_ckL_0 : (((am_cd 0).drop 0).take 60).all (am_ichk 0) = true := by decide +kernel
set_option maxRecDepth 100000 in
theorem am_ckL_60 : (((am_cd 0).drop 60).take 60).all (am_ichk 0) = true := by decide +kernel
set_option maxRecDepth 100000 in
theorem am_ckL_120 : (((am_cd 0).drop 120).take 60).all (am_ichk 0) = true := by decide +kernel
set_option maxRecDepth 100000 in
theorem am_ckL_180 : (((am_cd 0).drop 180).take 60).all (am_ichk 0) = true := by decide +kernel
set_option maxRecDepth 100000 in
theorem am_ckL_240 : (((am_cd 0).drop 240).take 60).all (am_ichk 0) = true := by decide +kernel
set_option maxRecDepth 100000 in
theorem am_ckL_300 : (((am_cd 0).drop 300).take 60).all (am_ichk 0) = true := by decide +kernel
set_option maxRecDepth 100000 in
theorem am_ckL_360 : (((am_cd 0).drop 360).take 60).all (am_ichk 0) = true := by decide +kernel
set_option maxRecDepth 100000 in
theorem am_ckL_420 : (((am_cd 0).drop 420).take 60).all (am_ichk 0) = true := by decide +kernel
set_option maxRecDepth 100000 in
theorem am_ckL_480 : (((am_cd 0).drop 480).take 60).all (am_ichk 0) = true := by decide +kernel
set_option maxRecDepth 100000 in
theorem am_ckL_540 : (((am_cd 0).drop 540).take 60).all (am_ichk 0) = true := by decide +kernel
set_option maxRecDepth 100000 in
theorem am_ckL_600 : (((am_cd 0).drop 600).take 60).all (am_ichk 0) = true := by decide +kernel
set_option maxRecDepth 100000 in
theorem am_ckL_660 : (((am_cd 0).drop 660).take 60).all (am_ichk 0) = true := by decide +kernel
set_option maxRecDepth 100000 in
theorem am_ckL_720 : (((am_cd 0).drop 720).take 60).all (am_ichk 0) = true := by decide +kernel
set_option maxRecDepth 100000 in
theorem am_ckL_780 : (((am_cd 0).drop 780).take 60).all (am_ichk 0) = true := by decide +kernel
set_option maxRecDepth 100000 in
theorem am_ckL_840 : (((am_cd 0).drop 840).take 60).all (am_ichk 0) = true := by decide +kernel
set_option maxRecDepth 100000 in
theorem am_ckL_900 : (((am_cd 0).drop 900).take 60).all (am_ichk 0) = true := by decide +kernel
set_option maxRecDepth 100000 in
theorem am_ckL_960 : (((am_cd 0).drop 960).take 60).all (am_ichk 0) = true := by decide +kernel
set_option maxRecDepth 100000 in
theorem am_ckL_1020 : (((am_cd 0).drop 1020).take 60).all (am_ichk 0) = true := by decide +kernel
