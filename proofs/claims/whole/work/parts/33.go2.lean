set_option maxRecDepth 100000 in
theorem gL_law_40_26 : dm_jump qL_law (((40 : Nat) : Int) + 1146) = kL_law_1186 := by rfl
set_option maxRecDepth 100000 in
theorem gL_law_40_27 : dm_jump qL_law (((40 : Nat) : Int) + 1171) = kL_law_1211 := by rfl
set_option maxRecDepth 100000 in
theorem gL_law_40_28 : dm_jump qL_law (((40 : Nat) : Int) + 1208) = kL_law_1248 := by rfl
set_option maxRecDepth 100000 in
theorem gL_law_40_29 : dm_jump qL_law (((40 : Nat) : Int) + 1233) = kL_law_1273 := by rfl
set_option maxRecDepth 100000 in
theorem gL_law_40_30 : dm_jump qL_law (((40 : Nat) : Int) + 1282) = kL_law_1322 := by rfl
set_option maxRecDepth 100000 in
theorem gL_law_40_31 : dm_jump qL_law (((40 : Nat) : Int) + 1335) = kL_law_1375 := by rfl
set_option maxRecDepth 100000 in
theorem gL_law_40_32 : dm_jump qL_law (((40 : Nat) : Int) + 1360) = kL_law_1400 := by rfl
set_option maxRecDepth 100000 in
theorem gL_law_326 : dm_jump qL_law (((326 : Nat) : Int) + 1074) = kL_law_1400 := by rfl
set_option maxRecDepth 100000 in
theorem gL_law_339 : dm_jump qL_law (((339 : Nat) : Int) + 1061) = kL_law_1400 := by rfl
set_option maxRecDepth 100000 in
theorem gL_law_352 : dm_jump qL_law (((352 : Nat) : Int) + 1048) = kL_law_1400 := by rfl
set_option maxRecDepth 100000 in
theorem gL_law_389 : dm_jump qL_law (((389 : Nat) : Int) + 1011) = kL_law_1400 := by rfl
set_option maxRecDepth 100000 in
theorem gL_law_426 : dm_jump qL_law (((426 : Nat) : Int) + 974) = kL_law_1400 := by rfl
set_option maxRecDepth 100000 in
theorem gL_law_451 : dm_jump qL_law (((451 : Nat) : Int) + 949) = kL_law_1400 := by rfl
set_option maxRecDepth 100000 in
theorem gL_law_476 : dm_jump qL_law (((476 : Nat) : Int) + 924) = kL_law_1400 := by rfl
set_option maxRecDepth 100000 in
theorem gL_law_513 : dm_jump qL_law (((513 : Nat) : Int) + 887) = kL_law_1400 := by rfl
set_option maxRecDepth 100000 in
theorem gL_law_538 : dm_jump qL_law (((538 : Nat) : Int) + 862) = kL_law_1400 := by rfl
set_option maxRecDepth 100000 in
theorem gL_law_563 : dm_jump qL_law (((563 : Nat) : Int) + 837) = kL_law_1400 := by rfl
set_option maxRecDepth 100000 in
theorem gL_law_576 : dm_jump qL_law (((576 : Nat) : Int) + 824) = kL_law_1400 := by rfl
set_option maxRecDepth 100000 in
theorem gL_law_613 : dm_jump qL_law (((613 : Nat) : Int) + 787) = kL_law_1400 := by rfl
set_option maxRecDepth 100000 in
theorem gL_law_626 : dm_jump qL_law (((626 : Nat) : Int) + 774) = kL_law_1400 := by rfl
set_option maxRecDepth 100000 in
theorem gL_law_651 : dm_jump qL_law (((651 : Nat) : Int) + 749) = kL_law_1400 := by rfl
set_option maxRecDepth 100000 in
theorem gL_law_676 : dm_jump qL_law (((676 : Nat) : Int) + 724) = kL_law_1400 := by rfl
set_option maxRecDepth 100000 in
theorem gL_law_713 : dm_jump qL_law (((713 : Nat) : Int) + 687) = kL_law_1400 := by rfl
set_option maxRecDepth 100000 in
theorem gL_law_750 : dm_jump qL_law (((750 : Nat) : Int) + 650) = kL_law_1400 := by rfl
set_option maxRecDepth 100000 in
theorem gL_law_787 : dm_jump qL_law (((787 : Nat) : Int) + 613) = kL_law_1400 := by rfl
set_option maxRecDepth 100000 in
theorem gL_law_812 : dm_jump qL_law (((812 : Nat) : Int) + 588) = kL_law_1400 := by rfl
set_option maxRecDepth 100000 in
theorem gL_law_849 : dm_jump qL_law (((849 : Nat) : Int) + 551) = kL_law_1400 := by rfl
set_option maxRecDepth 100000 in
theorem gL_law_910 : dm_jump qL_law (((910 : Nat) : Int) + 490) = kL_law_1400 := by rfl
set_option maxRecDepth 100000 in
theorem gL_law_971 : dm_jump qL_law (((971 : Nat) : Int) + 429) = kL_law_1400 := by rfl
set_option maxRecDepth 100000 in
theorem gL_law_1019 : dm_jump qL_law (((1019 : Nat) : Int) + 5) = kL_law_1024 := by rfl
set_option maxRecDepth 100000 in
theorem gL_law_1026 : dm_jump qL_law (((1026 : Nat) : Int) + 15) = kL_law_1041 := by rfl
set_option maxRecDepth 100000 in
theorem gL_law_1036 : dm_jump qL_law (((1036 : Nat) : Int) + 5) = kL_law_1041 := by rfl
set_option maxRecDepth 100000 in
theorem gL_law_1041 : dm_jump qL_law (((1041 : Nat) : Int) + 359) = kL_law_1400 := by rfl
set_option maxRecDepth 100000 in
theorem gL_law_1087 : dm_jump qL_law (((1087 : Nat) : Int) + 5) = kL_law_1092 := by rfl
set_option maxRecDepth 100000 in
theorem gL_law_1094 : dm_jump qL_law (((1094 : Nat) : Int) + 15) = kL_law_1109 := by rfl
set_option maxRecDepth 100000 in
theorem gL_law_1104 : dm_jump qL_law (((1104 : Nat) : Int) + 5) = kL_law_1109 := by rfl
set_option maxRecDepth 100000 in
theorem gL_law_1109 : dm_jump qL_law (((1109 : Nat) : Int) + 291) = kL_law_1400 := by rfl
set_option maxRecDepth 100000 in
theorem gL_law_1144 : dm_jump qL_law (((1144 : Nat) : Int) + 256) = kL_law_1400 := by rfl
set_option maxRecDepth 100000 in
theorem gL_law_1181 : dm_jump qL_law (((1181 : Nat) : Int) + 219) = kL_law_1400 := by rfl
set_option maxRecDepth 100000 in
theorem gL_law_1206 : dm_jump qL_law (((1206 : Nat) : Int) + 194) = kL_law_1400 := by rfl
set_option maxRecDepth 100000 in
theorem gL_law_1243 : dm_jump qL_law (((1243 : Nat) : Int) + 157) = kL_law_1400 := by rfl
set_option maxRecDepth 100000 in
theorem gL_law_1268 : dm_jump qL_law (((1268 : Nat) : Int) + 132) = kL_law_1400 := by rfl
set_option maxRecDepth 100000 in
theorem gL_law_1317 : dm_jump qL_law (((1317 : Nat) : Int) + 83) = kL_law_1400 := by rfl
set_option maxRecDepth 100000 in
theorem gL_law_1335 : dm_jump qL_law (((1335 : Nat) : Int) + 7) = kL_law_1342 := by rfl
set_option maxRecDepth 100000 in
theorem gL_law_1339 : dm_jump qL_law (((1339 : Nat) : Int) + 4) = kL_law_1343 := by rfl
set_option maxRecDepth 100000 in
theorem gL_law_1359 : dm_jump qL_law (((1359 : Nat) : Int) + 7) = kL_law_1366 := by rfl
set_option maxRecDepth 100000 in
theorem gL_law_1363 : dm_jump qL_law (((1363 : Nat) : Int) + 4) = kL_law_1367 := by rfl
set_option maxRecDepth 100000 in
theorem gL_law_1370 : dm_jump qL_law (((1370 : Nat) : Int) + 30) = kL_law_1400 := by rfl
set_option maxRecDepth 100000 in
theorem gL_law_1395 : dm_jump qL_law (((1395 : Nat) : Int) + 5) = kL_law_1400 := by rfl
set_option maxRecDepth 100000 in
theorem gL_law_1403 : dm_jump qL_law (((1403 : Nat) : Int) + (-1380)) = kL_law_23 := by rfl
