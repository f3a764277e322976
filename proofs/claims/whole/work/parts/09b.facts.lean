abbrev mX8_isNext : ce_Y := (yX8_isNext, cX8_isNext, 2, (some .boolean), [])
theorem hX8_isNext : ce_MV mX8_isNext 1 := ⟨⟨by decide +kernel, by decide +kernel, by decide +kernel⟩, rfl, (ce_t (i := 1014) (by decide +kernel)), (ce_t (i := 9) (by decide +kernel)), (ce_t (i := 1013) (by decide +kernel)), (ce_s (i := 22) (by decide +kernel))⟩
abbrev mX8_accept : ce_Y := (yX8_accept, cX8_accept, 2, none, [])
theorem hX8_accept : ce_MV mX8_accept 1 := ⟨⟨by decide +kernel, by decide +kernel, by decide +kernel⟩, rfl, (ce_t (i := 1018) (by decide +kernel)), (ce_t (i := 9) (by decide +kernel)), (ce_t (i := 1017) (by decide +kernel)), (ce_s (i := 23) (by decide +kernel))⟩
abbrev mX8_digit : ce_Y := (yX8_digit, cX8_digit, 4, (some .int), [])
theorem hX8_digit : ce_MV mX8_digit 2 := ⟨⟨by decide +kernel, by decide +kernel, by decide +kernel⟩, rfl, (ce_t (i := 1026) (by decide +kernel)), (ce_t (i := 9) (by decide +kernel)), (ce_t (i := 1025) (by decide +kernel)), (ce_s (i := 25) (by decide +kernel))⟩
abbrev mX8_two : ce_Y := (yX8_two, cX8_two, 6, (some .int), [])
theorem hX8_two : ce_MV mX8_two 2 := ⟨⟨by decide +kernel, by decide +kernel, by decide +kernel⟩, rfl, (ce_t (i := 1032) (by decide +kernel)), (ce_t (i := 9) (by decide +kernel)), (ce_t (i := 1031) (by decide +kernel)), (ce_s (i := 26) (by decide +kernel))⟩
abbrev mX8_addMemberTo : ce_Y := (yX8_addMemberTo, cX8_addMemberTo, 2, none, [])
theorem hX8_addMemberTo : ce_MS mX8_addMemberTo 2 := ⟨⟨by decide +kernel, by decide +kernel, by decide +kernel⟩, rfl, (ce_t (i := 1035) (by decide +kernel)), (ce_t (i := 9) (by decide +kernel)), (ce_t (i := 1034) (by decide +kernel))⟩
abbrev mX8_addWineTo : ce_Y := (yX8_addWineTo, cX8_addWineTo, 4, none, [])
theorem hX8_addWineTo : ce_MS mX8_addWineTo 3 := ⟨⟨by decide +kernel, by decide +kernel, by decide +kernel⟩, rfl, (ce_t (i := 1041) (by decide +kernel)), (ce_t (i := 9) (by decide +kernel)), (ce_t (i := 1040) (by decide +kernel))⟩
abbrev mX8_addBinTo : ce_Y := (yX8_addBinTo, cX8_addBinTo, 2, none, [])
theorem hX8_addBinTo : ce_MS mX8_addBinTo 2 := ⟨⟨by decide +kernel, by decide +kernel, by decide +kernel⟩, rfl, (ce_t (i := 1047) (by decide +kernel)), (ce_t (i := 9) (by decide +kernel)), (ce_t (i := 1046) (by decide +kernel))⟩
abbrev mX8_readPart : ce_Y := (yX8_readPart, cX8_readPart, 4, none, [])
theorem hX8_readPart : ce_MV mX8_readPart 0 := ⟨⟨by decide +kernel, by decide +kernel, by decide +kernel⟩, rfl, (ce_t (i := 1022) (by decide +kernel)), (ce_t (i := 9) (by decide +kernel)), (ce_t (i := 1021) (by decide +kernel)), (ce_s (i := 24) (by decide +kernel))⟩
abbrev mX8_readText : ce_Y := (yX8_readText, cX8_readText, 2, (some .int), [])
theorem hX8_readText : ce_MV mX8_readText 0 := ⟨⟨by decide +kernel, by decide +kernel, by decide +kernel⟩, rfl, (ce_t (i := 1010) (by decide +kernel)), (ce_t (i := 9) (by decide +kernel)), (ce_t (i := 1009) (by decide +kernel)), (ce_s (i := 21) (by decide +kernel))⟩
abbrev mX8_errorPosition : ce_Y := (yX8_errorPosition, cX8_errorPosition, 1, (some .int), [])
theorem hX8_errorPosition : ce_MV mX8_errorPosition 0 := ⟨⟨by decide +kernel, by decide +kernel, by decide +kernel⟩, rfl, (ce_t (i := 1006) (by decide +kernel)), (ce_t (i := 9) (by decide +kernel)), (ce_t (i := 1004) (by decide +kernel)), (ce_t (i := 1005) (by decide +kernel))⟩
abbrev mX8_load : ce_Y := (yX8_load, cX8_load, 1, (some .int), [])
theorem hX8_load : ce_MV mX8_load 0 := ⟨⟨by decide +kernel, by decide +kernel, by decide +kernel⟩, rfl, (ce_t (i := 1057) (by decide +kernel)), (ce_t (i := 9) (by decide +kernel)), (ce_t (i := 1055) (by decide +kernel)), (ce_t (i := 1056) (by decide +kernel))⟩
abbrev mX8_owedByAll : ce_Y := (yX8_owedByAll, cX8_owedByAll, 3, (some .int), [])
theorem hX8_owedByAll : ce_MS mX8_owedByAll 1 := ⟨⟨by decide +kernel, by decide +kernel, by decide +kernel⟩, rfl, (ce_t (i := 1073) (by decide +kernel)), (ce_t (i := 9) (by decide +kernel)), (ce_t (i := 1072) (by decide +kernel))⟩
abbrev mX8_allRoom : ce_Y := (yX8_allRoom, cX8_allRoom, 3, (some .int), [])
theorem hX8_allRoom : ce_MS mX8_allRoom 1 := ⟨⟨by decide +kernel, by decide +kernel, by decide +kernel⟩, rfl, (ce_t (i := 1079) (by decide +kernel)), (ce_t (i := 9) (by decide +kernel)), (ce_t (i := 1078) (by decide +kernel))⟩
abbrev mX8_about : ce_Y := (yX8_about, cX8_about, 2, (some .int), [])
theorem hX8_about : ce_MV mX8_about 1 := ⟨⟨by decide +kernel, by decide +kernel, by decide +kernel⟩, rfl, (ce_t (i := 1064) (by decide +kernel)), (ce_t (i := 9) (by decide +kernel)), (ce_t (i := 1062) (by decide +kernel)), (ce_t (i := 1063) (by decide +kernel))⟩
abbrev mX8_isMember : ce_Y := (yX8_isMember, cX8_isMember, 2, (some .boolean), [])
theorem hX8_isMember : ce_MV mX8_isMember 1 := ⟨⟨by decide +kernel, by decide +kernel, by decide +kernel⟩, rfl, (ce_t (i := 1090) (by decide +kernel)), (ce_t (i := 9) (by decide +kernel)), (ce_t (i := 1089) (by decide +kernel)), (ce_s (i := 27) (by decide +kernel))⟩
abbrev mX8_isWine : ce_Y := (yX8_isWine, cX8_isWine, 2, (some .boolean), [])
theorem hX8_isWine : ce_MV mX8_isWine 1 := ⟨⟨by decide +kernel, by decide +kernel, by decide +kernel⟩, rfl, (ce_t (i := 1102) (by decide +kernel)), (ce_t (i := 9) (by decide +kernel)), (ce_t (i := 1101) (by decide +kernel)), (ce_s (i := 28) (by decide +kernel))⟩
abbrev mX8_isBin : ce_Y := (yX8_isBin, cX8_isBin, 2, (some .boolean), [])
theorem hX8_isBin : ce_MV mX8_isBin 1 := ⟨⟨by decide +kernel, by decide +kernel, by decide +kernel⟩, rfl, (ce_t (i := 1114) (by decide +kernel)), (ce_t (i := 9) (by decide +kernel)), (ce_t (i := 1113) (by decide +kernel)), (ce_s (i := 29) (by decide +kernel))⟩
abbrev mX8_member : ce_Y := (yX8_member, cX8_member, 3, (some .int), [])
theorem hX8_member : ce_MV mX8_member 2 := ⟨⟨by decide +kernel, by decide +kernel, by decide +kernel⟩, rfl, (ce_t (i := 1086) (by decide +kernel)), (ce_t (i := 9) (by decide +kernel)), (ce_t (i := 1084) (by decide +kernel)), (ce_t (i := 1085) (by decide +kernel))⟩
abbrev mX8_wine : ce_Y := (yX8_wine, cX8_wine, 3, (some .int), [])
theorem hX8_wine : ce_MV mX8_wine 2 := ⟨⟨by decide +kernel, by decide +kernel, by decide +kernel⟩, rfl, (ce_t (i := 1098) (by decide +kernel)), (ce_t (i := 9) (by decide +kernel)), (ce_t (i := 1096) (by decide +kernel)), (ce_t (i := 1097) (by decide +kernel))⟩
abbrev mX8_bin : ce_Y := (yX8_bin, cX8_bin, 3, (some .int), [])
theorem hX8_bin : ce_MV mX8_bin 2 := ⟨⟨by decide +kernel, by decide +kernel, by decide +kernel⟩, rfl, (ce_t (i := 1110) (by decide +kernel)), (ce_t (i := 9) (by decide +kernel)), (ce_t (i := 1108) (by decide +kernel)), (ce_t (i := 1109) (by decide +kernel))⟩
abbrev mX8_has : ce_Y := (yX8_has, cX8_has, 4, (some .int), [])
theorem hX8_has : ce_MV mX8_has 3 := ⟨⟨by decide +kernel, by decide +kernel, by decide +kernel⟩, rfl, (ce_t (i := 1119) (by decide +kernel)), (ce_t (i := 9) (by decide +kernel)), (ce_t (i := 1117) (by decide +kernel)), (ce_t (i := 1118) (by decide +kernel))⟩
abbrev mX8_addMember : ce_Y := (yX8_addMember, cX8_addMember, 2, (some .int), [])
theorem hX8_addMember : ce_MV mX8_addMember 1 := ⟨⟨by decide +kernel, by decide +kernel, by decide +kernel⟩, rfl, (ce_t (i := 1123) (by decide +kernel)), (ce_t (i := 9) (by decide +kernel)), (ce_t (i := 1121) (by decide +kernel)), (ce_t (i := 1122) (by decide +kernel))⟩
abbrev mX8_addWine : ce_Y := (yX8_addWine, cX8_addWine, 3, (some .int), [])
theorem hX8_addWine : ce_MV mX8_addWine 2 := ⟨⟨by decide +kernel, by decide +kernel, by decide +kernel⟩, rfl, (ce_t (i := 1132) (by decide +kernel)), (ce_t (i := 9) (by decide +kernel)), (ce_t (i := 1130) (by decide +kernel)), (ce_t (i := 1131) (by decide +kernel))⟩
abbrev mX8_addBin : ce_Y := (yX8_addBin, cX8_addBin, 2, (some .int), [])
theorem hX8_addBin : ce_MV mX8_addBin 1 := ⟨⟨by decide +kernel, by decide +kernel, by decide +kernel⟩, rfl, (ce_t (i := 1138) (by decide +kernel)), (ce_t (i := 9) (by decide +kernel)), (ce_t (i := 1136) (by decide +kernel)), (ce_t (i := 1137) (by decide +kernel))⟩
abbrev mX8_order : ce_Y := (yX8_order, cX8_order, 6, (some .int), [])
theorem hX8_order : ce_MV mX8_order 3 := ⟨⟨by decide +kernel, by decide +kernel, by decide +kernel⟩, rfl, (ce_t (i := 1143) (by decide +kernel)), (ce_t (i := 9) (by decide +kernel)), (ce_t (i := 1141) (by decide +kernel)), (ce_t (i := 1142) (by decide +kernel))⟩
abbrev mX8_allocate : ce_Y := (yX8_allocate, cX8_allocate, 2, (some .int), [])
theorem hX8_allocate : ce_MV mX8_allocate 1 := ⟨⟨by decide +kernel, by decide +kernel, by decide +kernel⟩, rfl, (ce_t (i := 1147) (by decide +kernel)), (ce_t (i := 9) (by decide +kernel)), (ce_t (i := 1145) (by decide +kernel)), (ce_t (i := 1146) (by decide +kernel))⟩
abbrev mX8_deliver : ce_Y := (yX8_deliver, cX8_deliver, 2, (some .int), [])
theorem hX8_deliver : ce_MV mX8_deliver 1 := ⟨⟨by decide +kernel, by decide +kernel, by decide +kernel⟩, rfl, (ce_t (i := 1166) (by decide +kernel)), (ce_t (i := 9) (by decide +kernel)), (ce_t (i := 1164) (by decide +kernel)), (ce_t (i := 1165) (by decide +kernel))⟩
abbrev mX8_drink : ce_Y := (yX8_drink, cX8_drink, 5, (some .int), [])
theorem hX8_drink : ce_MV mX8_drink 3 := ⟨⟨by decide +kernel, by decide +kernel, by decide +kernel⟩, rfl, (ce_t (i := 1191) (by decide +kernel)), (ce_t (i := 9) (by decide +kernel)), (ce_t (i := 1189) (by decide +kernel)), (ce_t (i := 1190) (by decide +kernel))⟩
abbrev mX8_give : ce_Y := (yX8_give, cX8_give, 6, (some .int), [])
theorem hX8_give : ce_MV mX8_give 4 := ⟨⟨by decide +kernel, by decide +kernel, by decide +kernel⟩, rfl, (ce_t (i := 1201) (by decide +kernel)), (ce_t (i := 9) (by decide +kernel)), (ce_t (i := 1199) (by decide +kernel)), (ce_t (i := 1200) (by decide +kernel))⟩
abbrev mX8_cork : ce_Y := (yX8_cork, cX8_cork, 4, (some .int), [])
theorem hX8_cork : ce_MV mX8_cork 2 := ⟨⟨by decide +kernel, by decide +kernel, by decide +kernel⟩, rfl, (ce_t (i := 1208) (by decide +kernel)), (ce_t (i := 9) (by decide +kernel)), (ce_t (i := 1206) (by decide +kernel)), (ce_t (i := 1207) (by decide +kernel))⟩
abbrev mX8_move : ce_Y := (yX8_move, cX8_move, 5, (some .int), [])
theorem hX8_move : ce_MV mX8_move 3 := ⟨⟨by decide +kernel, by decide +kernel, by decide +kernel⟩, rfl, (ce_t (i := 1215) (by decide +kernel)), (ce_t (i := 9) (by decide +kernel)), (ce_t (i := 1213) (by decide +kernel)), (ce_t (i := 1214) (by decide +kernel))⟩
abbrev mX8_pay : ce_Y := (yX8_pay, cX8_pay, 3, (some .int), [])
theorem hX8_pay : ce_MV mX8_pay 1 := ⟨⟨by decide +kernel, by decide +kernel, by decide +kernel⟩, rfl, (ce_t (i := 1225) (by decide +kernel)), (ce_t (i := 9) (by decide +kernel)), (ce_t (i := 1223) (by decide +kernel)), (ce_t (i := 1224) (by decide +kernel))⟩
abbrev mX8_undo : ce_Y := (yX8_undo, cX8_undo, 1, (some .int), [])
theorem hX8_undo : ce_MV mX8_undo 0 := ⟨⟨by decide +kernel, by decide +kernel, by decide +kernel⟩, rfl, (ce_t (i := 1229) (by decide +kernel)), (ce_t (i := 9) (by decide +kernel)), (ce_t (i := 1227) (by decide +kernel)), (ce_t (i := 1228) (by decide +kernel))⟩
abbrev mX8_wouldGet : ce_Y := (yX8_wouldGet, cX8_wouldGet, 3, (some .int), [])
theorem hX8_wouldGet : ce_MV mX8_wouldGet 2 := ⟨⟨by decide +kernel, by decide +kernel, by decide +kernel⟩, rfl, (ce_t (i := 1233) (by decide +kernel)), (ce_t (i := 9) (by decide +kernel)), (ce_t (i := 1231) (by decide +kernel)), (ce_t (i := 1232) (by decide +kernel))⟩
abbrev mX8_roomFor : ce_Y := (yX8_roomFor, cX8_roomFor, 2, (some .int), [])
theorem hX8_roomFor : ce_MV mX8_roomFor 1 := ⟨⟨by decide +kernel, by decide +kernel, by decide +kernel⟩, rfl, (ce_t (i := 1237) (by decide +kernel)), (ce_t (i := 9) (by decide +kernel)), (ce_t (i := 1235) (by decide +kernel)), (ce_t (i := 1236) (by decide +kernel))⟩
abbrev mX8_sizes : ce_Y := (yX8_sizes, cX8_sizes, 4, (some .int), [])
theorem hX8_sizes : ce_MS mX8_sizes 2 := ⟨⟨by decide +kernel, by decide +kernel, by decide +kernel⟩, rfl, (ce_t (i := 1248) (by decide +kernel)), (ce_t (i := 9) (by decide +kernel)), (ce_t (i := 1247) (by decide +kernel))⟩
abbrev mX8_bits : ce_Y := (yX8_bits, cX8_bits, 3, (some .int), [])
theorem hX8_bits : ce_MS mX8_bits 1 := ⟨⟨by decide +kernel, by decide +kernel, by decide +kernel⟩, rfl, (ce_t (i := 1251) (by decide +kernel)), (ce_t (i := 9) (by decide +kernel)), (ce_t (i := 1250) (by decide +kernel))⟩
abbrev mX8_layWine : ce_Y := (yX8_layWine, cX8_layWine, 6, none, [])
theorem hX8_layWine : ce_MV mX8_layWine 1 := ⟨⟨by decide +kernel, by decide +kernel, by decide +kernel⟩, rfl, (ce_t (i := 1245) (by decide +kernel)), (ce_t (i := 9) (by decide +kernel)), (ce_t (i := 1244) (by decide +kernel)), (ce_s (i := 34) (by decide +kernel))⟩
abbrev mX8_fewestBins : ce_Y := (yX8_fewestBins, cX8_fewestBins, 3, (some .int), [])
theorem hX8_fewestBins : ce_MV mX8_fewestBins 0 := ⟨⟨by decide +kernel, by decide +kernel, by decide +kernel⟩, rfl, (ce_t (i := 1241) (by decide +kernel)), (ce_t (i := 9) (by decide +kernel)), (ce_t (i := 1239) (by decide +kernel)), (ce_t (i := 1240) (by decide +kernel))⟩
abbrev mX8_shortest : ce_Y := (yX8_shortest, cX8_shortest, 6, (some .int), [])
theorem hX8_shortest : ce_MV mX8_shortest 1 := ⟨⟨by decide +kernel, by decide +kernel, by decide +kernel⟩, rfl, (ce_t (i := 1255) (by decide +kernel)), (ce_t (i := 9) (by decide +kernel)), (ce_t (i := 1253) (by decide +kernel)), (ce_t (i := 1254) (by decide +kernel))⟩
abbrev mX8_owns : ce_Y := (yX8_owns, cX8_owns, 4, (some .boolean), [])
theorem hX8_owns : ce_MS mX8_owns 4 := ⟨⟨by decide +kernel, by decide +kernel, by decide +kernel⟩, rfl, (ce_t (i := 1275) (by decide +kernel)), (ce_t (i := 9) (by decide +kernel)), (ce_t (i := 1274) (by decide +kernel))⟩
abbrev mX8_does : ce_Y := (yX8_does, cX8_does, 9, (some .boolean), [])
theorem hX8_does : ce_MV mX8_does 1 := ⟨⟨by decide +kernel, by decide +kernel, by decide +kernel⟩, rfl, (ce_t (i := 1272) (by decide +kernel)), (ce_t (i := 9) (by decide +kernel)), (ce_t (i := 1271) (by decide +kernel)), (ce_s (i := 36) (by decide +kernel))⟩
abbrev mX8_runScript : ce_Y := (yX8_runScript, cX8_runScript, 6, (some .int), [])
theorem hX8_runScript : ce_MV mX8_runScript 2 := ⟨⟨by decide +kernel, by decide +kernel, by decide +kernel⟩, rfl, (ce_t (i := 1259) (by decide +kernel)), (ce_t (i := 9) (by decide +kernel)), (ce_t (i := 1257) (by decide +kernel)), (ce_t (i := 1258) (by decide +kernel))⟩
abbrev mX8_evening : ce_Y := (yX8_evening, cX8_evening, 6, none, [])
theorem hX8_evening : ce_MV mX8_evening 1 := ⟨⟨by decide +kernel, by decide +kernel, by decide +kernel⟩, rfl, (ce_t (i := 1285) (by decide +kernel)), (ce_t (i := 9) (by decide +kernel)), (ce_t (i := 1284) (by decide +kernel)), (ce_s (i := 37) (by decide +kernel))⟩
abbrev mX8_simulate : ce_Y := (yX8_simulate, cX8_simulate, 7, (some .int), [])
theorem hX8_simulate : ce_MV mX8_simulate 2 := ⟨⟨by decide +kernel, by decide +kernel, by decide +kernel⟩, rfl, (ce_t (i := 1279) (by decide +kernel)), (ce_t (i := 9) (by decide +kernel)), (ce_t (i := 1277) (by decide +kernel)), (ce_t (i := 1278) (by decide +kernel))⟩
abbrev mX8_save : ce_Y := (yX8_save, cX8_save, 2, (some .int), [])
theorem hX8_save : ce_MV mX8_save 1 := ⟨⟨by decide +kernel, by decide +kernel, by decide +kernel⟩, rfl, (ce_t (i := 1289) (by decide +kernel)), (ce_t (i := 9) (by decide +kernel)), (ce_t (i := 1287) (by decide +kernel)), (ce_t (i := 1288) (by decide +kernel))⟩
abbrev mX8_restore : ce_Y := (yX8_restore, cX8_restore, 2, (some .int), [])
theorem hX8_restore : ce_MV mX8_restore 1 := ⟨⟨by decide +kernel, by decide +kernel, by decide +kernel⟩, rfl, (ce_t (i := 1293) (by decide +kernel)), (ce_t (i := 9) (by decide +kernel)), (ce_t (i := 1291) (by decide +kernel)), (ce_t (i := 1292) (by decide +kernel))⟩
abbrev mJ6_bitCount_0f7a4 : ce_Y := (yJ6_bitCount_0f7a4, cJ6_bitCount_0f7a4, 1, (some .int), [])
theorem hJ6_bitCount_0f7a4 : ce_MS mJ6_bitCount_0f7a4 1 := ⟨⟨by decide +kernel, by decide +kernel, by decide +kernel⟩, rfl, (ce_t (i := 334) (by decide +kernel)), (ce_t (i := 18) (by decide +kernel)), (ce_t (i := 333) (by decide +kernel))⟩
abbrev mJ9_min_7cf53 : ce_Y := (yJ9_min_7cf53, cJ9_min_7cf53, 2, (some .int), [])
theorem hJ9_min_7cf53 : ce_MS mJ9_min_7cf53 2 := ⟨⟨by decide +kernel, by decide +kernel, by decide +kernel⟩, rfl, (ce_t (i := 243) (by decide +kernel)), (ce_t (i := 16) (by decide +kernel)), (ce_t (i := 242) (by decide +kernel))⟩
abbrev mL_append : ce_Y := (yL_append, cL_append, 4, (some .int), [(0, 9, 12, 13), (0, 9, 15, 15)])
theorem hL_append : ce_MH mL_append 3 := ⟨⟨by decide +kernel, by decide +kernel, by decide +kernel⟩, ⟨_, _, rfl⟩, (ce_t (i := 341) (by decide +kernel)), (ce_t (i := 0) (by decide +kernel)), (ce_t (i := 340) (by decide +kernel))⟩
abbrev mL_load : ce_Y := (yL_load, cL_load, 3, (some .int), [(0, 8, 11, 15)])
theorem hL_load : ce_MH mL_load 2 := ⟨⟨by decide +kernel, by decide +kernel, by decide +kernel⟩, ⟨_, _, rfl⟩, (ce_t (i := 461) (by decide +kernel)), (ce_t (i := 0) (by decide +kernel)), (ce_t (i := 460) (by decide +kernel))⟩
abbrev mL_about : ce_Y := (yL_about, cL_about, 4, (some .int), [(0, 9, 12, 13)])
theorem hL_about : ce_MH mL_about 3 := ⟨⟨by decide +kernel, by decide +kernel, by decide +kernel⟩, ⟨_, _, rfl⟩, (ce_t (i := 474) (by decide +kernel)), (ce_t (i := 0) (by decide +kernel)), (ce_t (i := 473) (by decide +kernel))⟩
abbrev mL_member : ce_Y := (yL_member, cL_member, 5, (some .int), [(0, 10, 13, 28), (0, 10, 17, 13)])
theorem hL_member : ce_MH mL_member 4 := ⟨⟨by decide +kernel, by decide +kernel, by decide +kernel⟩, ⟨_, _, rfl⟩, (ce_t (i := 508) (by decide +kernel)), (ce_t (i := 0) (by decide +kernel)), (ce_t (i := 507) (by decide +kernel))⟩
abbrev mL_wine : ce_Y := (yL_wine, cL_wine, 5, (some .int), [(0, 10, 13, 28), (0, 10, 17, 13)])
theorem hL_wine : ce_MH mL_wine 4 := ⟨⟨by decide +kernel, by decide +kernel, by decide +kernel⟩, ⟨_, _, rfl⟩, (ce_t (i := 528) (by decide +kernel)), (ce_t (i := 0) (by decide +kernel)), (ce_t (i := 527) (by decide +kernel))⟩
abbrev mL_bin : ce_Y := (yL_bin, cL_bin, 5, (some .int), [(0, 10, 13, 28), (0, 10, 17, 13)])
theorem hL_bin : ce_MH mL_bin 4 := ⟨⟨by decide +kernel, by decide +kernel, by decide +kernel⟩, ⟨_, _, rfl⟩, (ce_t (i := 544) (by decide +kernel)), (ce_t (i := 0) (by decide +kernel)), (ce_t (i := 543) (by decide +kernel))⟩
abbrev mL_has : ce_Y := (yL_has, cL_has, 6, (some .int), [(0, 12, 15, 28), (0, 12, 19, 13)])
theorem hL_has : ce_MH mL_has 5 := ⟨⟨by decide +kernel, by decide +kernel, by decide +kernel⟩, ⟨_, _, rfl⟩, (ce_t (i := 559) (by decide +kernel)), (ce_t (i := 0) (by decide +kernel)), (ce_t (i := 558) (by decide +kernel))⟩
abbrev mL_addMember : ce_Y := (yL_addMember, cL_addMember, 4, (some .int), [(0, 9, 12, 13), (0, 9, 15, 15)])
theorem hL_addMember : ce_MH mL_addMember 3 := ⟨⟨by decide +kernel, by decide +kernel, by decide +kernel⟩, ⟨_, _, rfl⟩, (ce_t (i := 576) (by decide +kernel)), (ce_t (i := 0) (by decide +kernel)), (ce_t (i := 575) (by decide +kernel))⟩
abbrev mL_addWine : ce_Y := (yL_addWine, cL_addWine, 5, (some .int), [(0, 10, 13, 13), (0, 10, 17, 15)])
theorem hL_addWine : ce_MH mL_addWine 4 := ⟨⟨by decide +kernel, by decide +kernel, by decide +kernel⟩, ⟨_, _, rfl⟩, (ce_t (i := 597) (by decide +kernel)), (ce_t (i := 0) (by decide +kernel)), (ce_t (i := 596) (by decide +kernel))⟩
abbrev mL_addBin : ce_Y := (yL_addBin, cL_addBin, 4, (some .int), [(0, 9, 12, 13), (0, 9, 15, 15)])
theorem hL_addBin : ce_MH mL_addBin 3 := ⟨⟨by decide +kernel, by decide +kernel, by decide +kernel⟩, ⟨_, _, rfl⟩, (ce_t (i := 609) (by decide +kernel)), (ce_t (i := 0) (by decide +kernel)), (ce_t (i := 608) (by decide +kernel))⟩
abbrev mL_order : ce_Y := (yL_order, cL_order, 6, (some .int), [(0, 12, 15, 28), (0, 12, 19, 13), (0, 12, 23, 15)])
theorem hL_order : ce_MH mL_order 5 := ⟨⟨by decide +kernel, by decide +kernel, by decide +kernel⟩, ⟨_, _, rfl⟩, (ce_t (i := 621) (by decide +kernel)), (ce_t (i := 0) (by decide +kernel)), (ce_t (i := 620) (by decide +kernel))⟩
abbrev mL_allocate : ce_Y := (yL_allocate, cL_allocate, 4, (some .int), [(0, 9, 12, 28), (0, 9, 15, 15)])
theorem hL_allocate : ce_MH mL_allocate 3 := ⟨⟨by decide +kernel, by decide +kernel, by decide +kernel⟩, ⟨_, _, rfl⟩, (ce_t (i := 634) (by decide +kernel)), (ce_t (i := 0) (by decide +kernel)), (ce_t (i := 633) (by decide +kernel))⟩
abbrev mL_deliver : ce_Y := (yL_deliver, cL_deliver, 4, (some .int), [(0, 9, 12, 28), (0, 9, 15, 15)])
theorem hL_deliver : ce_MH mL_deliver 3 := ⟨⟨by decide +kernel, by decide +kernel, by decide +kernel⟩, ⟨_, _, rfl⟩, (ce_t (i := 667) (by decide +kernel)), (ce_t (i := 0) (by decide +kernel)), (ce_t (i := 666) (by decide +kernel))⟩
abbrev mL_drink : ce_Y := (yL_drink, cL_drink, 6, (some .int), [(0, 12, 15, 28), (0, 12, 19, 13), (0, 12, 23, 15)])
theorem hL_drink : ce_MH mL_drink 5 := ⟨⟨by decide +kernel, by decide +kernel, by decide +kernel⟩, ⟨_, _, rfl⟩, (ce_t (i := 710) (by decide +kernel)), (ce_t (i := 0) (by decide +kernel)), (ce_t (i := 709) (by decide +kernel))⟩
abbrev mL_give : ce_Y := (yL_give, cL_give, 7, (some .int), [(0, 14, 17, 28), (0, 14, 21, 13), (0, 14, 25, 15)])
theorem hL_give : ce_MH mL_give 6 := ⟨⟨by decide +kernel, by decide +kernel, by decide +kernel⟩, ⟨_, _, rfl⟩, (ce_t (i := 737) (by decide +kernel)), (ce_t (i := 0) (by decide +kernel)), (ce_t (i := 736) (by decide +kernel))⟩
abbrev mL_cork : ce_Y := (yL_cork, cL_cork, 5, (some .int), [(0, 10, 13, 28), (0, 10, 17, 15)])
theorem hL_cork : ce_MH mL_cork 4 := ⟨⟨by decide +kernel, by decide +kernel, by decide +kernel⟩, ⟨_, _, rfl⟩, (ce_t (i := 752) (by decide +kernel)), (ce_t (i := 0) (by decide +kernel)), (ce_t (i := 751) (by decide +kernel))⟩
abbrev mL_move : ce_Y := (yL_move, cL_move, 6, (some .int), [(0, 12, 15, 28), (0, 12, 19, 13), (0, 12, 23, 15)])
theorem hL_move : ce_MH mL_move 5 := ⟨⟨by decide +kernel, by decide +kernel, by decide +kernel⟩, ⟨_, _, rfl⟩, (ce_t (i := 767) (by decide +kernel)), (ce_t (i := 0) (by decide +kernel)), (ce_t (i := 766) (by decide +kernel))⟩
abbrev mL_pay : ce_Y := (yL_pay, cL_pay, 4, (some .int), [(0, 9, 12, 28)])
theorem hL_pay : ce_MH mL_pay 3 := ⟨⟨by decide +kernel, by decide +kernel, by decide +kernel⟩, ⟨_, _, rfl⟩, (ce_t (i := 783) (by decide +kernel)), (ce_t (i := 0) (by decide +kernel)), (ce_t (i := 782) (by decide +kernel))⟩
abbrev mL_undo : ce_Y := (yL_undo, cL_undo, 3, (some .int), [(0, 8, 11, 15)])
theorem hL_undo : ce_MH mL_undo 2 := ⟨⟨by decide +kernel, by decide +kernel, by decide +kernel⟩, ⟨_, _, rfl⟩, (ce_t (i := 794) (by decide +kernel)), (ce_t (i := 0) (by decide +kernel)), (ce_t (i := 793) (by decide +kernel))⟩
abbrev mL_wouldGet : ce_Y := (yL_wouldGet, cL_wouldGet, 5, (some .int), [(0, 10, 13, 28)])
theorem hL_wouldGet : ce_MH mL_wouldGet 4 := ⟨⟨by decide +kernel, by decide +kernel, by decide +kernel⟩, ⟨_, _, rfl⟩, (ce_t (i := 805) (by decide +kernel)), (ce_t (i := 0) (by decide +kernel)), (ce_t (i := 804) (by decide +kernel))⟩
abbrev mL_roomFor : ce_Y := (yL_roomFor, cL_roomFor, 4, (some .int), [(0, 9, 12, 28)])
theorem hL_roomFor : ce_MH mL_roomFor 3 := ⟨⟨by decide +kernel, by decide +kernel, by decide +kernel⟩, ⟨_, _, rfl⟩, (ce_t (i := 824) (by decide +kernel)), (ce_t (i := 0) (by decide +kernel)), (ce_t (i := 823) (by decide +kernel))⟩
abbrev mL_shortest : ce_Y := (yL_shortest, cL_shortest, 4, (some .int), [(0, 9, 12, 28)])
theorem hL_shortest : ce_MH mL_shortest 3 := ⟨⟨by decide +kernel, by decide +kernel, by decide +kernel⟩, ⟨_, _, rfl⟩, (ce_t (i := 832) (by decide +kernel)), (ce_t (i := 0) (by decide +kernel)), (ce_t (i := 831) (by decide +kernel))⟩
abbrev mL_runScript : ce_Y := (yL_runScript, cL_runScript, 6, (some .int), [(0, 11, 14, 13)])
theorem hL_runScript : ce_MH mL_runScript 4 := ⟨⟨by decide +kernel, by decide +kernel, by decide +kernel⟩, ⟨_, _, rfl⟩, (ce_t (i := 839) (by decide +kernel)), (ce_t (i := 0) (by decide +kernel)), (ce_t (i := 838) (by decide +kernel))⟩
abbrev mL_simulate : ce_Y := (yL_simulate, cL_simulate, 6, (some .int), [(0, 11, 14, 13)])
theorem hL_simulate : ce_MH mL_simulate 4 := ⟨⟨by decide +kernel, by decide +kernel, by decide +kernel⟩, ⟨_, _, rfl⟩, (ce_t (i := 897) (by decide +kernel)), (ce_t (i := 0) (by decide +kernel)), (ce_t (i := 896) (by decide +kernel))⟩
abbrev mL_save : ce_Y := (yL_save, cL_save, 4, (some .int), [(0, 9, 12, 28)])
theorem hL_save : ce_MH mL_save 3 := ⟨⟨by decide +kernel, by decide +kernel, by decide +kernel⟩, ⟨_, _, rfl⟩, (ce_t (i := 912) (by decide +kernel)), (ce_t (i := 0) (by decide +kernel)), (ce_t (i := 911) (by decide +kernel))⟩
abbrev mL_restore : ce_Y := (yL_restore, cL_restore, 4, (some .int), [(0, 9, 12, 28), (0, 9, 15, 15)])
theorem hL_restore : ce_MH mL_restore 3 := ⟨⟨by decide +kernel, by decide +kernel, by decide +kernel⟩, ⟨_, _, rfl⟩, (ce_t (i := 922) (by decide +kernel)), (ce_t (i := 0) (by decide +kernel)), (ce_t (i := 921) (by decide +kernel))⟩
theorem kRL_100 : Cond.methodLink RL 100 yX7_init ∈ lw_tbl := ce_t (i := 21) (by decide +kernel)
theorem kRX7_1 : Cond.methodLink RX7 1 Lib.objectInit ∈ lw_tbl := ce_t (i := 24) (by decide +kernel)
theorem kRX7_9 : Cond.methodLinkNest RX7 9 yX0_init "CellarClub" ∈ lw_tbl := ce_t (i := 29) (by decide +kernel)
theorem kRX0_3 : Cond.methodLink RX0 3 Lib.objectInit ∈ lw_tbl := ce_t (i := 32) (by decide +kernel)
theorem kRX0_35 : Cond.methodLinkNest RX0 35 yX5_init "CellarClub" ∈ lw_tbl := ce_t (i := 35) (by decide +kernel)
theorem kRX5_3 : Cond.methodLink RX5 3 Lib.objectInit ∈ lw_tbl := ce_t (i := 38) (by decide +kernel)
theorem kRX0_51 : Cond.methodLinkNest RX0 51 yX3_init "CellarClub" ∈ lw_tbl := ce_t (i := 46) (by decide +kernel)
theorem kRX3_3 : Cond.methodLink RX3 3 Lib.objectInit ∈ lw_tbl := ce_t (i := 49) (by decide +kernel)
theorem kRX7_18 : Cond.methodLinkNest RX7 18 yX6_init "CellarClub" ∈ lw_tbl := ce_t (i := 128) (by decide +kernel)
theorem kRX6_3 : Cond.methodLink RX6 3 Lib.objectInit ∈ lw_tbl := ce_t (i := 131) (by decide +kernel)
theorem kRX6_17 : Cond.methodLinkNest RX6 17 yX0_init "CellarClub" ∈ lw_tbl := ce_t (i := 133) (by decide +kernel)
theorem kRX7_25 : Cond.methodLink RX7 25 yX1_init ∈ lw_tbl := ce_t (i := 154) (by decide +kernel)
theorem kRX1_3 : Cond.methodLink RX1 3 Lib.objectInit ∈ lw_tbl := ce_t (i := 157) (by decide +kernel)
theorem kRX1_17 : Cond.methodLinkNest RX1 17 yX0_init "CellarClub" ∈ lw_tbl := ce_t (i := 160) (by decide +kernel)
theorem kRX7_32 : Cond.methodLinkNest RX7 32 yX4_init "CellarClub" ∈ lw_tbl := ce_t (i := 171) (by decide +kernel)
theorem kRX4_3 : Cond.methodLink RX4 3 Lib.objectInit ∈ lw_tbl := ce_t (i := 174) (by decide +kernel)
theorem kRX4_11 : Cond.methodLinkNest RX4 11 yX0_init "CellarClub" ∈ lw_tbl := ce_t (i := 176) (by decide +kernel)
theorem kRX7_39 : Cond.methodLinkNest RX7 39 yX2_init "CellarClub" ∈ lw_tbl := ce_t (i := 184) (by decide +kernel)
theorem kRX2_3 : Cond.methodLink RX2 3 Lib.objectInit ∈ lw_tbl := ce_t (i := 187) (by decide +kernel)
theorem kRL_113 : Cond.methodLink RL 113 yX7_clearText ∈ lw_tbl := ce_t (i := 218) (by decide +kernel)
theorem kRX7_64 : Cond.methodLink RX7 64 yX6_wipe ∈ lw_tbl := ce_t (i := 222) (by decide +kernel)
theorem kRL_117 : Cond.methodLink RL 117 yX7_errorPosition ∈ lw_tbl := ce_t (i := 226) (by decide +kernel)
theorem kRX7_68 : Cond.methodLink RX7 68 yX6_read ∈ lw_tbl := ce_t (i := 230) (by decide +kernel)
theorem kRX6_29 : Cond.methodLink RX6 29 yX0_copyFrom ∈ lw_tbl := ce_t (i := 234) (by decide +kernel)
theorem kRX0_135 : Cond.methodLinkNest RX0 135 yX7_copyRow "CellarClub" ∈ lw_tbl := ce_t (i := 238) (by decide +kernel)
theorem kRX7_283 : Cond.methodLink RX7 283 yJ9_min_7cf53 ∈ lw_tbl := ce_t (i := 241) (by decide +kernel)
theorem kRX7_288 : Cond.methodLink RX7 288 arraycopyName ∈ lw_tbl := ce_t (i := 244) (by decide +kernel)
theorem kRX0_139 : Cond.methodLink RX0 139 yX5_copyFrom ∈ lw_tbl := ce_t (i := 247) (by decide +kernel)
theorem kRX5_23 : Cond.methodLinkNest RX5 23 yX7_copyRow "CellarClub" ∈ lw_tbl := ce_t (i := 251) (by decide +kernel)
theorem kRX0_143 : Cond.methodLink RX0 143 yX3_copyFrom ∈ lw_tbl := ce_t (i := 252) (by decide +kernel)
theorem kRX3_65 : Cond.methodLinkNest RX3 65 yX7_copyRow "CellarClub" ∈ lw_tbl := ce_t (i := 256) (by decide +kernel)
theorem kRX6_36 : Cond.methodLink RX6 36 yX6_readPart ∈ lw_tbl := ce_t (i := 257) (by decide +kernel)
theorem kRX6_41 : Cond.methodLink RX6 41 yX6_readMember ∈ lw_tbl := ce_t (i := 261) (by decide +kernel)
theorem kRX6_56 : Cond.methodLink RX6 56 yX6_readNumber ∈ lw_tbl := ce_t (i := 265) (by decide +kernel)
theorem kRX6_60 : Cond.methodLink RX6 60 yX0_enrol ∈ lw_tbl := ce_t (i := 270) (by decide +kernel)
theorem kRX6_44 : Cond.methodLink RX6 44 yX6_readWine ∈ lw_tbl := ce_t (i := 274) (by decide +kernel)
theorem kRX6_67 : Cond.methodLink RX6 67 yX0_offer ∈ lw_tbl := ce_t (i := 278) (by decide +kernel)
theorem kRX6_47 : Cond.methodLink RX6 47 yX6_readBin ∈ lw_tbl := ce_t (i := 282) (by decide +kernel)
theorem kRX6_80 : Cond.methodLink RX6 80 yX3_install ∈ lw_tbl := ce_t (i := 286) (by decide +kernel)
theorem kRX6_50 : Cond.methodLink RX6 50 yX6_readOrder ∈ lw_tbl := ce_t (i := 291) (by decide +kernel)
theorem kRX6_83 : Cond.methodLink RX6 83 yX0_changeOrder ∈ lw_tbl := ce_t (i := 295) (by decide +kernel)
theorem kRX0_94 : Cond.methodLink RX0 94 yX5_of ∈ lw_tbl := ce_t (i := 299) (by decide +kernel)
theorem kRX0_102 : Cond.methodLink RX0 102 yX5_put ∈ lw_tbl := ce_t (i := 303) (by decide +kernel)
theorem kRL_185 : Cond.methodLink RL 185 yX7_fewestBins ∈ lw_tbl := ce_t (i := 307) (by decide +kernel)
theorem kRX7_225 : Cond.methodLink RX7 225 yX2_fewest ∈ lw_tbl := ce_t (i := 311) (by decide +kernel)
theorem kRX2_31 : Cond.methodLink RX2 31 yX2_measure ∈ lw_tbl := ce_t (i := 315) (by decide +kernel)
theorem kRX2_42 : Cond.methodLink RX2 42 yX5_ofWine ∈ lw_tbl := ce_t (i := 319) (by decide +kernel)
theorem kRX5_15 : Cond.methodLink RX5 15 yX5_of ∈ lw_tbl := ce_t (i := 323) (by decide +kernel)
theorem kRX2_48 : Cond.methodLink RX2 48 yX2_packWine ∈ lw_tbl := ce_t (i := 324) (by decide +kernel)
theorem kRX2_66 : Cond.methodLink RX2 66 yX2_canPack ∈ lw_tbl := ce_t (i := 328) (by decide +kernel)
theorem kRX2_52 : Cond.methodLink RX2 52 yJ6_bitCount_0f7a4 ∈ lw_tbl := ce_t (i := 332) (by decide +kernel)
theorem kRX2_57 : Cond.methodLink RX2 57 yJ9_min_7cf53 ∈ lw_tbl := ce_t (i := 338) (by decide +kernel)
theorem kRL_104 : Cond.methodLink RL 104 yL_append ∈ lw_tbl := ce_t (i := 339) (by decide +kernel)
theorem kRL_7 : Cond.methodLink RL 7 yX7_append ∈ lw_tbl := ce_t (i := 344) (by decide +kernel)
theorem kRX7_52 : Cond.methodLink RX7 52 yX6_addingFault ∈ lw_tbl := ce_t (i := 348) (by decide +kernel)
theorem kRX7_56 : Cond.methodLink RX7 56 yX7_check ∈ lw_tbl := ce_t (i := 352) (by decide +kernel)
theorem kRX7_60 : Cond.methodLink RX7 60 yX6_add ∈ lw_tbl := ce_t (i := 455) (by decide +kernel)
theorem kRL_121 : Cond.methodLink RL 121 yL_load ∈ lw_tbl := ce_t (i := 459) (by decide +kernel)
theorem kRL_17 : Cond.methodLink RL 17 yX7_load ∈ lw_tbl := ce_t (i := 462) (by decide +kernel)
theorem kRX7_75 : Cond.methodLink RX7 75 yX0_copyFrom ∈ lw_tbl := ce_t (i := 467) (by decide +kernel)
theorem kRX7_79 : Cond.methodLink RX7 79 yX1_forgetAll ∈ lw_tbl := ce_t (i := 468) (by decide +kernel)
theorem kRL_125 : Cond.methodLink RL 125 yL_about ∈ lw_tbl := ce_t (i := 472) (by decide +kernel)
theorem kRL_21 : Cond.methodLink RL 21 yX7_about ∈ lw_tbl := ce_t (i := 475) (by decide +kernel)
theorem kRX7_86 : Cond.methodLink RX7 86 yX7_rangeFault ∈ lw_tbl := ce_t (i := 479) (by decide +kernel)
theorem kRX7_90 : Cond.methodLink RX7 90 yX0_factOfAll ∈ lw_tbl := ce_t (i := 482) (by decide +kernel)
theorem kRX0_73 : Cond.methodLink RX0 73 yX5_ofAll ∈ lw_tbl := ce_t (i := 486) (by decide +kernel)
theorem kRX5_19 : Cond.methodLinkNest RX5 19 yX7_sumOf "CellarClub" ∈ lw_tbl := ce_t (i := 490) (by decide +kernel)
theorem kRX0_77 : Cond.methodLinkNest RX0 77 yX7_sumOf "CellarClub" ∈ lw_tbl := ce_t (i := 493) (by decide +kernel)
theorem kRX0_81 : Cond.methodLink RX0 81 yX3_emptyBins ∈ lw_tbl := ce_t (i := 494) (by decide +kernel)
theorem kRX0_84 : Cond.methodLink RX0 84 yX3_roomInAll ∈ lw_tbl := ce_t (i := 498) (by decide +kernel)
theorem kRX3_26 : Cond.methodLink RX3 26 yX3_roomIn ∈ lw_tbl := ce_t (i := 502) (by decide +kernel)
theorem kRL_128 : Cond.methodLink RL 128 yL_member ∈ lw_tbl := ce_t (i := 506) (by decide +kernel)
theorem kRL_24 : Cond.methodLink RL 24 yX7_member ∈ lw_tbl := ce_t (i := 510) (by decide +kernel)
theorem kRX7_93 : Cond.methodLink RX7 93 yX0_knowsMember ∈ lw_tbl := ce_t (i := 514) (by decide +kernel)
theorem kRX7_97 : Cond.methodLink RX7 97 yX0_factOfMember ∈ lw_tbl := ce_t (i := 518) (by decide +kernel)
theorem kRX0_87 : Cond.methodLink RX0 87 yX5_ofMember ∈ lw_tbl := ce_t (i := 522) (by decide +kernel)
theorem kRL_132 : Cond.methodLink RL 132 yL_wine ∈ lw_tbl := ce_t (i := 526) (by decide +kernel)
theorem kRL_30 : Cond.methodLink RL 30 yX7_wine ∈ lw_tbl := ce_t (i := 529) (by decide +kernel)
theorem kRX7_101 : Cond.methodLink RX7 101 yX0_knowsWine ∈ lw_tbl := ce_t (i := 533) (by decide +kernel)
theorem kRX7_104 : Cond.methodLink RX7 104 yX0_factOfWine ∈ lw_tbl := ce_t (i := 537) (by decide +kernel)
theorem kRX0_91 : Cond.methodLink RX0 91 yX5_ofWine ∈ lw_tbl := ce_t (i := 541) (by decide +kernel)
theorem kRL_135 : Cond.methodLink RL 135 yL_bin ∈ lw_tbl := ce_t (i := 542) (by decide +kernel)
theorem kRL_33 : Cond.methodLink RL 33 yX7_bin ∈ lw_tbl := ce_t (i := 545) (by decide +kernel)
theorem kRX7_111 : Cond.methodLink RX7 111 yX3_knows ∈ lw_tbl := ce_t (i := 549) (by decide +kernel)
theorem kRX7_116 : Cond.methodLink RX7 116 yX3_factOf ∈ lw_tbl := ce_t (i := 553) (by decide +kernel)
theorem kRL_138 : Cond.methodLink RL 138 yL_has ∈ lw_tbl := ce_t (i := 557) (by decide +kernel)
theorem kRL_36 : Cond.methodLink RL 36 yX7_has ∈ lw_tbl := ce_t (i := 560) (by decide +kernel)
theorem kRX7_119 : Cond.methodLink RX7 119 yX0_knowsBoth ∈ lw_tbl := ce_t (i := 564) (by decide +kernel)
theorem kRX0_63 : Cond.methodLink RX0 63 yX0_knowsMember ∈ lw_tbl := ce_t (i := 568) (by decide +kernel)
theorem kRX0_67 : Cond.methodLink RX0 67 yX0_knowsWine ∈ lw_tbl := ce_t (i := 569) (by decide +kernel)
theorem kRX7_123 : Cond.methodLink RX7 123 yX0_factOfBoth ∈ lw_tbl := ce_t (i := 570) (by decide +kernel)
theorem kRL_142 : Cond.methodLink RL 142 yL_addMember ∈ lw_tbl := ce_t (i := 574) (by decide +kernel)
theorem kRL_40 : Cond.methodLink RL 40 yX7_addMember ∈ lw_tbl := ce_t (i := 577) (by decide +kernel)
theorem kRX7_126 : Cond.methodLink RX7 126 yX0_memberFault ∈ lw_tbl := ce_t (i := 581) (by decide +kernel)
theorem kRX7_129 : Cond.methodLink RX7 129 yX1_remember ∈ lw_tbl := ce_t (i := 585) (by decide +kernel)
theorem kRX1_22 : Cond.methodLink RX1 22 yX1_forgetOldest ∈ lw_tbl := ce_t (i := 589) (by decide +kernel)
theorem kRX1_25 : Cond.methodLink RX1 25 yX0_copyFrom ∈ lw_tbl := ce_t (i := 593) (by decide +kernel)
theorem kRX7_132 : Cond.methodLink RX7 132 yX0_enrol ∈ lw_tbl := ce_t (i := 594) (by decide +kernel)
theorem kRL_145 : Cond.methodLink RL 145 yL_addWine ∈ lw_tbl := ce_t (i := 595) (by decide +kernel)
theorem kRL_43 : Cond.methodLink RL 43 yX7_addWine ∈ lw_tbl := ce_t (i := 598) (by decide +kernel)
theorem kRX7_135 : Cond.methodLink RX7 135 yX0_wineFault ∈ lw_tbl := ce_t (i := 602) (by decide +kernel)
theorem kRX7_138 : Cond.methodLink RX7 138 yX0_offer ∈ lw_tbl := ce_t (i := 606) (by decide +kernel)
theorem kRL_148 : Cond.methodLink RL 148 yL_addBin ∈ lw_tbl := ce_t (i := 607) (by decide +kernel)
theorem kRL_46 : Cond.methodLink RL 46 yX7_addBin ∈ lw_tbl := ce_t (i := 610) (by decide +kernel)
theorem kRX7_141 : Cond.methodLink RX7 141 yX3_binFault ∈ lw_tbl := ce_t (i := 614) (by decide +kernel)
theorem kRX7_144 : Cond.methodLink RX7 144 yX3_install ∈ lw_tbl := ce_t (i := 618) (by decide +kernel)
theorem kRL_151 : Cond.methodLink RL 151 yL_order ∈ lw_tbl := ce_t (i := 619) (by decide +kernel)
theorem kRL_49 : Cond.methodLink RL 49 yX7_order ∈ lw_tbl := ce_t (i := 622) (by decide +kernel)
theorem kRX7_147 : Cond.methodLink RX7 147 yX0_orderFault ∈ lw_tbl := ce_t (i := 626) (by decide +kernel)
theorem kRX0_98 : Cond.methodLink RX0 98 yX0_knowsBoth ∈ lw_tbl := ce_t (i := 630) (by decide +kernel)
theorem kRX7_150 : Cond.methodLink RX7 150 yX0_changeOrder ∈ lw_tbl := ce_t (i := 631) (by decide +kernel)
theorem kRL_154 : Cond.methodLink RL 154 yL_allocate ∈ lw_tbl := ce_t (i := 632) (by decide +kernel)
theorem kRL_52 : Cond.methodLink RL 52 yX7_allocate ∈ lw_tbl := ce_t (i := 635) (by decide +kernel)
theorem kRX7_153 : Cond.methodLink RX7 153 yX0_allocationFault ∈ lw_tbl := ce_t (i := 639) (by decide +kernel)
theorem kRX7_156 : Cond.methodLink RX7 156 yX0_shareOut ∈ lw_tbl := ce_t (i := 643) (by decide +kernel)
theorem kRX0_106 : Cond.methodLink RX0 106 yX0_nextToGet ∈ lw_tbl := ce_t (i := 647) (by decide +kernel)
theorem kRX0_121 : Cond.methodLink RX0 121 yX0_comesBefore ∈ lw_tbl := ce_t (i := 652) (by decide +kernel)
theorem kRX0_110 : Cond.methodLink RX0 110 yX5_add ∈ lw_tbl := ce_t (i := 656) (by decide +kernel)
theorem kRX0_113 : Cond.methodLink RX0 113 yX0_paidAhead ∈ lw_tbl := ce_t (i := 660) (by decide +kernel)
theorem kRX0_116 : Cond.methodLink RX0 116 yJ9_min_7cf53 ∈ lw_tbl := ce_t (i := 664) (by decide +kernel)
theorem kRL_157 : Cond.methodLink RL 157 yL_deliver ∈ lw_tbl := ce_t (i := 665) (by decide +kernel)
theorem kRL_55 : Cond.methodLink RL 55 yX7_deliver ∈ lw_tbl := ce_t (i := 668) (by decide +kernel)
theorem kRX7_159 : Cond.methodLink RX7 159 yX0_deliveryFault ∈ lw_tbl := ce_t (i := 672) (by decide +kernel)
theorem kRX0_125 : Cond.methodLink RX0 125 yX3_roomForWine ∈ lw_tbl := ce_t (i := 676) (by decide +kernel)
theorem kRX3_30 : Cond.methodLink RX3 30 yX3_takesWine ∈ lw_tbl := ce_t (i := 680) (by decide +kernel)
theorem kRX7_162 : Cond.methodLink RX7 162 yX0_bringIn ∈ lw_tbl := ce_t (i := 684) (by decide +kernel)
theorem kRX0_128 : Cond.methodLink RX0 128 yX3_lay ∈ lw_tbl := ce_t (i := 688) (by decide +kernel)
theorem kRX3_34 : Cond.methodLink RX3 34 yX3_binToFillUp ∈ lw_tbl := ce_t (i := 692) (by decide +kernel)
theorem kRX3_37 : Cond.methodLink RX3 37 yX3_emptyBinFor ∈ lw_tbl := ce_t (i := 696) (by decide +kernel)
theorem kRX3_50 : Cond.methodLink RX3 50 yX3_suitsBetter ∈ lw_tbl := ce_t (i := 700) (by decide +kernel)
theorem kRX3_40 : Cond.methodLink RX3 40 yJ9_min_7cf53 ∈ lw_tbl := ce_t (i := 703) (by decide +kernel)
theorem kRX3_46 : Cond.methodLink RX3 46 yX3_putInto ∈ lw_tbl := ce_t (i := 704) (by decide +kernel)
theorem kRL_160 : Cond.methodLink RL 160 yL_drink ∈ lw_tbl := ce_t (i := 708) (by decide +kernel)
theorem kRL_58 : Cond.methodLink RL 58 yX7_drink ∈ lw_tbl := ce_t (i := 711) (by decide +kernel)
theorem kRX7_165 : Cond.methodLink RX7 165 yX0_drinkFault ∈ lw_tbl := ce_t (i := 715) (by decide +kernel)
theorem kRX7_168 : Cond.methodLink RX7 168 yX0_drinkUp ∈ lw_tbl := ce_t (i := 719) (by decide +kernel)
theorem kRX0_132 : Cond.methodLink RX0 132 yX3_take ∈ lw_tbl := ce_t (i := 723) (by decide +kernel)
theorem kRX3_54 : Cond.methodLink RX3 54 yX3_binToTakeFrom ∈ lw_tbl := ce_t (i := 727) (by decide +kernel)
theorem kRX3_57 : Cond.methodLink RX3 57 yX3_removeFrom ∈ lw_tbl := ce_t (i := 731) (by decide +kernel)
theorem kRL_163 : Cond.methodLink RL 163 yL_give ∈ lw_tbl := ce_t (i := 735) (by decide +kernel)
theorem kRL_61 : Cond.methodLink RL 61 yX7_give ∈ lw_tbl := ce_t (i := 738) (by decide +kernel)
theorem kRX7_171 : Cond.methodLink RX7 171 yX0_giftFault ∈ lw_tbl := ce_t (i := 742) (by decide +kernel)
theorem kRX7_175 : Cond.methodLink RX7 175 yX0_handOver ∈ lw_tbl := ce_t (i := 746) (by decide +kernel)
theorem kRL_167 : Cond.methodLink RL 167 yL_cork ∈ lw_tbl := ce_t (i := 750) (by decide +kernel)
theorem kRL_65 : Cond.methodLink RL 65 yX7_cork ∈ lw_tbl := ce_t (i := 753) (by decide +kernel)
theorem kRX7_178 : Cond.methodLink RX7 178 yX0_corkFault ∈ lw_tbl := ce_t (i := 757) (by decide +kernel)
theorem kRX7_181 : Cond.methodLink RX7 181 yX0_replaceCorked ∈ lw_tbl := ce_t (i := 761) (by decide +kernel)
theorem kRL_170 : Cond.methodLink RL 170 yL_move ∈ lw_tbl := ce_t (i := 765) (by decide +kernel)
theorem kRL_68 : Cond.methodLink RL 68 yX7_move ∈ lw_tbl := ce_t (i := 768) (by decide +kernel)
theorem kRX7_184 : Cond.methodLink RX7 184 yX3_carryFault ∈ lw_tbl := ce_t (i := 772) (by decide +kernel)
theorem kRX3_61 : Cond.methodLink RX3 61 yX3_knows ∈ lw_tbl := ce_t (i := 776) (by decide +kernel)
theorem kRX7_187 : Cond.methodLink RX7 187 yX3_carry ∈ lw_tbl := ce_t (i := 777) (by decide +kernel)
theorem kRL_173 : Cond.methodLink RL 173 yL_pay ∈ lw_tbl := ce_t (i := 781) (by decide +kernel)
theorem kRL_71 : Cond.methodLink RL 71 yX7_pay ∈ lw_tbl := ce_t (i := 784) (by decide +kernel)
theorem kRX7_190 : Cond.methodLink RX7 190 yX0_settle ∈ lw_tbl := ce_t (i := 788) (by decide +kernel)
theorem kRL_176 : Cond.methodLink RL 176 yL_undo ∈ lw_tbl := ce_t (i := 792) (by decide +kernel)
theorem kRL_74 : Cond.methodLink RL 74 yX7_undo ∈ lw_tbl := ce_t (i := 795) (by decide +kernel)
theorem kRX7_196 : Cond.methodLink RX7 196 yX1_takeBack ∈ lw_tbl := ce_t (i := 799) (by decide +kernel)
theorem kRL_179 : Cond.methodLink RL 179 yL_wouldGet ∈ lw_tbl := ce_t (i := 803) (by decide +kernel)
theorem kRL_77 : Cond.methodLink RL 77 yX7_wouldGet ∈ lw_tbl := ce_t (i := 806) (by decide +kernel)
theorem kRX7_204 : Cond.methodLink RX7 204 yX4_begin ∈ lw_tbl := ce_t (i := 810) (by decide +kernel)
theorem kRX4_18 : Cond.methodLink RX4 18 yX0_copyFrom ∈ lw_tbl := ce_t (i := 814) (by decide +kernel)
theorem kRX7_207 : Cond.methodLink RX7 207 yX4_allocates ∈ lw_tbl := ce_t (i := 815) (by decide +kernel)
theorem kRX4_84 : Cond.methodLink RX4 84 yX0_allocationFault ∈ lw_tbl := ce_t (i := 819) (by decide +kernel)
theorem kRX4_88 : Cond.methodLink RX4 88 yX0_shareOut ∈ lw_tbl := ce_t (i := 820) (by decide +kernel)
theorem kRX7_217 : Cond.methodLink RX7 217 yX5_of ∈ lw_tbl := ce_t (i := 821) (by decide +kernel)
theorem kRL_182 : Cond.methodLink RL 182 yL_roomFor ∈ lw_tbl := ce_t (i := 822) (by decide +kernel)
theorem kRL_80 : Cond.methodLink RL 80 yX7_roomFor ∈ lw_tbl := ce_t (i := 825) (by decide +kernel)
theorem kRX7_222 : Cond.methodLink RX7 222 yX3_roomForWine ∈ lw_tbl := ce_t (i := 829) (by decide +kernel)
theorem kRL_189 : Cond.methodLink RL 189 yL_shortest ∈ lw_tbl := ce_t (i := 830) (by decide +kernel)
theorem kRL_83 : Cond.methodLink RL 83 yX7_shortest ∈ lw_tbl := ce_t (i := 833) (by decide +kernel)
theorem kRL_194 : Cond.methodLink RL 194 yL_runScript ∈ lw_tbl := ce_t (i := 837) (by decide +kernel)
theorem kRL_86 : Cond.methodLink RL 86 yX7_runScript ∈ lw_tbl := ce_t (i := 840) (by decide +kernel)
theorem kRX7_231 : Cond.methodLink RX7 231 yX7_scriptFault ∈ lw_tbl := ce_t (i := 844) (by decide +kernel)
theorem kRX7_235 : Cond.methodLink RX7 235 yX7_groupAt ∈ lw_tbl := ce_t (i := 848) (by decide +kernel)
theorem kRX7_239 : Cond.methodLink RX7 239 yX4_obeys ∈ lw_tbl := ce_t (i := 851) (by decide +kernel)
theorem kRX4_22 : Cond.methodLink RX4 22 yX4_orders ∈ lw_tbl := ce_t (i := 855) (by decide +kernel)
theorem kRX4_77 : Cond.methodLink RX4 77 yX0_orderFault ∈ lw_tbl := ce_t (i := 859) (by decide +kernel)
theorem kRX4_81 : Cond.methodLink RX4 81 yX0_changeOrder ∈ lw_tbl := ce_t (i := 860) (by decide +kernel)
theorem kRX4_26 : Cond.methodLink RX4 26 yX4_allocates ∈ lw_tbl := ce_t (i := 861) (by decide +kernel)
