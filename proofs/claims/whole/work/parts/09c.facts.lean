theorem kRX4_30 : Cond.methodLink RX4 30 yX4_delivers ∈ lw_tbl := ce_t (i := 862) (by decide +kernel)
theorem kRX4_91 : Cond.methodLink RX4 91 yX0_deliveryFault ∈ lw_tbl := ce_t (i := 866) (by decide +kernel)
theorem kRX4_94 : Cond.methodLink RX4 94 yX0_bringIn ∈ lw_tbl := ce_t (i := 867) (by decide +kernel)
theorem kRX4_33 : Cond.methodLink RX4 33 yX4_drinks ∈ lw_tbl := ce_t (i := 868) (by decide +kernel)
theorem kRX4_97 : Cond.methodLink RX4 97 yX0_drinkFault ∈ lw_tbl := ce_t (i := 872) (by decide +kernel)
theorem kRX4_100 : Cond.methodLink RX4 100 yX0_drinkUp ∈ lw_tbl := ce_t (i := 873) (by decide +kernel)
theorem kRX4_36 : Cond.methodLink RX4 36 yX4_gives ∈ lw_tbl := ce_t (i := 874) (by decide +kernel)
theorem kRX4_103 : Cond.methodLink RX4 103 yX0_giftFault ∈ lw_tbl := ce_t (i := 878) (by decide +kernel)
theorem kRX4_107 : Cond.methodLink RX4 107 yX0_handOver ∈ lw_tbl := ce_t (i := 879) (by decide +kernel)
theorem kRX4_40 : Cond.methodLink RX4 40 yX4_corks ∈ lw_tbl := ce_t (i := 880) (by decide +kernel)
theorem kRX4_110 : Cond.methodLink RX4 110 yX0_corkFault ∈ lw_tbl := ce_t (i := 884) (by decide +kernel)
theorem kRX4_113 : Cond.methodLink RX4 113 yX0_replaceCorked ∈ lw_tbl := ce_t (i := 885) (by decide +kernel)
theorem kRX4_44 : Cond.methodLink RX4 44 yX4_moves ∈ lw_tbl := ce_t (i := 886) (by decide +kernel)
theorem kRX4_116 : Cond.methodLink RX4 116 yX3_carryFault ∈ lw_tbl := ce_t (i := 890) (by decide +kernel)
theorem kRX4_119 : Cond.methodLink RX4 119 yX3_carry ∈ lw_tbl := ce_t (i := 891) (by decide +kernel)
theorem kRX4_47 : Cond.methodLink RX4 47 yX0_knowsBoth ∈ lw_tbl := ce_t (i := 892) (by decide +kernel)
theorem kRX4_54 : Cond.methodLink RX4 54 yX5_of ∈ lw_tbl := ce_t (i := 893) (by decide +kernel)
theorem kRX4_64 : Cond.methodLink RX4 64 yX3_emptyBins ∈ lw_tbl := ce_t (i := 894) (by decide +kernel)
theorem kRL_198 : Cond.methodLink RL 198 yL_simulate ∈ lw_tbl := ce_t (i := 895) (by decide +kernel)
theorem kRL_90 : Cond.methodLink RL 90 yX7_simulate ∈ lw_tbl := ce_t (i := 898) (by decide +kernel)
theorem kRX7_246 : Cond.methodLink RX7 246 yX4_spendEvening ∈ lw_tbl := ce_t (i := 904) (by decide +kernel)
theorem kRX7_252 : Cond.methodLink RX7 252 yX5_ofAll ∈ lw_tbl := ce_t (i := 908) (by decide +kernel)
theorem kRX7_255 : Cond.methodLink RX7 255 yX3_emptyBins ∈ lw_tbl := ce_t (i := 909) (by decide +kernel)
theorem kRL_202 : Cond.methodLink RL 202 yL_save ∈ lw_tbl := ce_t (i := 910) (by decide +kernel)
theorem kRL_94 : Cond.methodLink RL 94 yX7_save ∈ lw_tbl := ce_t (i := 913) (by decide +kernel)
theorem kRX7_258 : Cond.methodLink RX7 258 yX7_isSlot ∈ lw_tbl := ce_t (i := 917) (by decide +kernel)
theorem kRL_205 : Cond.methodLink RL 205 yL_restore ∈ lw_tbl := ce_t (i := 920) (by decide +kernel)
theorem kRL_97 : Cond.methodLink RL 97 yX7_restore ∈ lw_tbl := ce_t (i := 923) (by decide +kernel)
theorem kRX7_261 : Cond.methodLink RX7 261 yX7_restoreFault ∈ lw_tbl := ce_t (i := 927) (by decide +kernel)
theorem kRL_103 : Cond.methodLink RL 103 yX8_init ∈ lw_tbl := ce_t (i := 933) (by decide +kernel)
theorem kRX8_1 : Cond.methodLink RX8 1 Lib.objectInit ∈ lw_tbl := ce_t (i := 936) (by decide +kernel)
theorem kRL_110 : Cond.methodLink RL 110 yX8_thrown ∈ lw_tbl := ce_t (i := 983) (by decide +kernel)
theorem kRL_109 : Cond.methodLink RL 109 yX8_append ∈ lw_tbl := ce_t (i := 987) (by decide +kernel)
theorem kRX8_108 : Cond.methodLink RX8 108 yX8_in ∈ lw_tbl := ce_t (i := 992) (by decide +kernel)
theorem kRX8_115 : Cond.methodLink RX8 115 yX8_refused ∈ lw_tbl := ce_t (i := 995) (by decide +kernel)
theorem kRL_116 : Cond.methodLink RL 116 yX8_clearText ∈ lw_tbl := ce_t (i := 999) (by decide +kernel)
theorem kRL_120 : Cond.methodLink RL 120 yX8_errorPosition ∈ lw_tbl := ce_t (i := 1003) (by decide +kernel)
theorem kRX8_154 : Cond.methodLink RX8 154 yX8_readText ∈ lw_tbl := ce_t (i := 1007) (by decide +kernel)
theorem kRX8_135 : Cond.methodLink RX8 135 yX8_isNext ∈ lw_tbl := ce_t (i := 1011) (by decide +kernel)
theorem kRX8_128 : Cond.methodLink RX8 128 yX8_accept ∈ lw_tbl := ce_t (i := 1015) (by decide +kernel)
theorem kRX8_151 : Cond.methodLink RX8 151 yX8_readPart ∈ lw_tbl := ce_t (i := 1019) (by decide +kernel)
theorem kRX8_132 : Cond.methodLink RX8 132 yX8_digit ∈ lw_tbl := ce_t (i := 1023) (by decide +kernel)
theorem kRX8_138 : Cond.methodLink RX8 138 yX8_two ∈ lw_tbl := ce_t (i := 1029) (by decide +kernel)
theorem kRX8_141 : Cond.methodLink RX8 141 yX8_addMemberTo ∈ lw_tbl := ce_t (i := 1033) (by decide +kernel)
theorem kRX8_83 : Cond.methodLink RX8 83 yX8_memberAt ∈ lw_tbl := ce_t (i := 1036) (by decide +kernel)
theorem kRX8_145 : Cond.methodLink RX8 145 yX8_addWineTo ∈ lw_tbl := ce_t (i := 1039) (by decide +kernel)
theorem kRX8_62 : Cond.methodLink RX8 62 yX8_wineAt ∈ lw_tbl := ce_t (i := 1042) (by decide +kernel)
theorem kRX8_148 : Cond.methodLink RX8 148 yX8_addBinTo ∈ lw_tbl := ce_t (i := 1045) (by decide +kernel)
theorem kRX8_58 : Cond.methodLink RX8 58 yX8_binAt ∈ lw_tbl := ce_t (i := 1048) (by decide +kernel)
theorem kRX8_54 : Cond.methodLink RX8 54 yX8_hold ∈ lw_tbl := ce_t (i := 1051) (by decide +kernel)
theorem kRL_124 : Cond.methodLink RL 124 yX8_load ∈ lw_tbl := ce_t (i := 1054) (by decide +kernel)
theorem kRX8_50 : Cond.methodLink RX8 50 yX8_copy ∈ lw_tbl := ce_t (i := 1058) (by decide +kernel)
theorem kRL_127 : Cond.methodLink RL 127 yX8_about ∈ lw_tbl := ce_t (i := 1061) (by decide +kernel)
theorem kRX8_158 : Cond.methodLink RX8 158 yX8_cellar ∈ lw_tbl := ce_t (i := 1065) (by decide +kernel)
theorem kRX8_162 : Cond.methodLink RX8 162 yX8_ofWine ∈ lw_tbl := ce_t (i := 1068) (by decide +kernel)
theorem kRX8_165 : Cond.methodLink RX8 165 yX8_owedByAll ∈ lw_tbl := ce_t (i := 1071) (by decide +kernel)
theorem kRX8_168 : Cond.methodLink RX8 168 yX8_emptyBins ∈ lw_tbl := ce_t (i := 1074) (by decide +kernel)
theorem kRX8_171 : Cond.methodLink RX8 171 yX8_allRoom ∈ lw_tbl := ce_t (i := 1077) (by decide +kernel)
theorem kRX8_70 : Cond.methodLink RX8 70 yX8_roomIn ∈ lw_tbl := ce_t (i := 1080) (by decide +kernel)
theorem kRL_131 : Cond.methodLink RL 131 yX8_member ∈ lw_tbl := ce_t (i := 1083) (by decide +kernel)
theorem kRX8_174 : Cond.methodLink RX8 174 yX8_isMember ∈ lw_tbl := ce_t (i := 1087) (by decide +kernel)
theorem kRX8_179 : Cond.methodLink RX8 179 yX8_ownedBy ∈ lw_tbl := ce_t (i := 1092) (by decide +kernel)
theorem kRL_134 : Cond.methodLink RL 134 yX8_wine ∈ lw_tbl := ce_t (i := 1095) (by decide +kernel)
theorem kRX8_182 : Cond.methodLink RX8 182 yX8_isWine ∈ lw_tbl := ce_t (i := 1099) (by decide +kernel)
theorem kRX8_95 : Cond.methodLink RX8 95 yX8_allOf ∈ lw_tbl := ce_t (i := 1104) (by decide +kernel)
theorem kRL_137 : Cond.methodLink RL 137 yX8_bin ∈ lw_tbl := ce_t (i := 1107) (by decide +kernel)
theorem kRX8_187 : Cond.methodLink RX8 187 yX8_isBin ∈ lw_tbl := ce_t (i := 1111) (by decide +kernel)
theorem kRL_141 : Cond.methodLink RL 141 yX8_has ∈ lw_tbl := ce_t (i := 1116) (by decide +kernel)
theorem kRL_144 : Cond.methodLink RL 144 yX8_addMember ∈ lw_tbl := ce_t (i := 1120) (by decide +kernel)
theorem kRX8_194 : Cond.methodLink RX8 194 yX8_remember ∈ lw_tbl := ce_t (i := 1125) (by decide +kernel)
theorem kRL_147 : Cond.methodLink RL 147 yX8_addWine ∈ lw_tbl := ce_t (i := 1129) (by decide +kernel)
theorem kRL_150 : Cond.methodLink RL 150 yX8_addBin ∈ lw_tbl := ce_t (i := 1135) (by decide +kernel)
theorem kRL_153 : Cond.methodLink RL 153 yX8_order ∈ lw_tbl := ce_t (i := 1140) (by decide +kernel)
theorem kRL_156 : Cond.methodLink RL 156 yX8_allocate ∈ lw_tbl := ce_t (i := 1144) (by decide +kernel)
theorem kRX8_203 : Cond.methodLink RX8 203 yX8_goAllocate ∈ lw_tbl := ce_t (i := 1148) (by decide +kernel)
theorem kRX8_86 : Cond.methodLink RX8 86 yX8_layGot ∈ lw_tbl := ce_t (i := 1152) (by decide +kernel)
theorem kRX8_80 : Cond.methodLink RX8 80 yX8_isAhead ∈ lw_tbl := ce_t (i := 1156) (by decide +kernel)
theorem kRX8_89 : Cond.methodLink RX8 89 yX8_half ∈ lw_tbl := ce_t (i := 1160) (by decide +kernel)
theorem kRL_159 : Cond.methodLink RL 159 yX8_deliver ∈ lw_tbl := ce_t (i := 1163) (by decide +kernel)
theorem kRX8_206 : Cond.methodLink RX8 206 yX8_canDeliver ∈ lw_tbl := ce_t (i := 1167) (by decide +kernel)
theorem kRX8_92 : Cond.methodLink RX8 92 yX8_roomOf ∈ lw_tbl := ce_t (i := 1170) (by decide +kernel)
theorem kRX8_66 : Cond.methodLink RX8 66 yX8_hasWine ∈ lw_tbl := ce_t (i := 1173) (by decide +kernel)
theorem kRX8_210 : Cond.methodLink RX8 210 yX8_goDeliver ∈ lw_tbl := ce_t (i := 1176) (by decide +kernel)
theorem kRX8_99 : Cond.methodLink RX8 99 yX8_lay ∈ lw_tbl := ce_t (i := 1179) (by decide +kernel)
theorem kRX8_74 : Cond.methodLink RX8 74 yX8_tightest ∈ lw_tbl := ce_t (i := 1182) (by decide +kernel)
theorem kRX8_77 : Cond.methodLink RX8 77 yX8_emptyFor ∈ lw_tbl := ce_t (i := 1185) (by decide +kernel)
theorem kRL_162 : Cond.methodLink RL 162 yX8_drink ∈ lw_tbl := ce_t (i := 1188) (by decide +kernel)
theorem kRX8_213 : Cond.methodLink RX8 213 yX8_goDrink ∈ lw_tbl := ce_t (i := 1192) (by decide +kernel)
theorem kRX8_103 : Cond.methodLink RX8 103 yX8_take ∈ lw_tbl := ce_t (i := 1195) (by decide +kernel)
theorem kRL_166 : Cond.methodLink RL 166 yX8_give ∈ lw_tbl := ce_t (i := 1198) (by decide +kernel)
theorem kRX8_217 : Cond.methodLink RX8 217 yX8_goGive ∈ lw_tbl := ce_t (i := 1202) (by decide +kernel)
theorem kRL_169 : Cond.methodLink RL 169 yX8_cork ∈ lw_tbl := ce_t (i := 1205) (by decide +kernel)
theorem kRX8_221 : Cond.methodLink RX8 221 yX8_goCork ∈ lw_tbl := ce_t (i := 1209) (by decide +kernel)
theorem kRL_172 : Cond.methodLink RL 172 yX8_move ∈ lw_tbl := ce_t (i := 1212) (by decide +kernel)
theorem kRX8_224 : Cond.methodLink RX8 224 yX8_canMove ∈ lw_tbl := ce_t (i := 1216) (by decide +kernel)
theorem kRX8_228 : Cond.methodLink RX8 228 yX8_goMove ∈ lw_tbl := ce_t (i := 1219) (by decide +kernel)
theorem kRL_175 : Cond.methodLink RL 175 yX8_pay ∈ lw_tbl := ce_t (i := 1222) (by decide +kernel)
theorem kRL_178 : Cond.methodLink RL 178 yX8_undo ∈ lw_tbl := ce_t (i := 1226) (by decide +kernel)
theorem kRL_181 : Cond.methodLink RL 181 yX8_wouldGet ∈ lw_tbl := ce_t (i := 1230) (by decide +kernel)
theorem kRL_184 : Cond.methodLink RL 184 yX8_roomFor ∈ lw_tbl := ce_t (i := 1234) (by decide +kernel)
theorem kRL_188 : Cond.methodLink RL 188 yX8_fewestBins ∈ lw_tbl := ce_t (i := 1238) (by decide +kernel)
theorem kRX8_237 : Cond.methodLink RX8 237 yX8_layWine ∈ lw_tbl := ce_t (i := 1242) (by decide +kernel)
theorem kRX8_231 : Cond.methodLink RX8 231 yX8_sizes ∈ lw_tbl := ce_t (i := 1246) (by decide +kernel)
theorem kRX8_234 : Cond.methodLink RX8 234 yX8_bits ∈ lw_tbl := ce_t (i := 1249) (by decide +kernel)
theorem kRL_191 : Cond.methodLink RL 191 yX8_shortest ∈ lw_tbl := ce_t (i := 1252) (by decide +kernel)
theorem kRL_197 : Cond.methodLink RL 197 yX8_runScript ∈ lw_tbl := ce_t (i := 1256) (by decide +kernel)
theorem kRX8_244 : Cond.methodLink RX8 244 yX8_tenTo ∈ lw_tbl := ce_t (i := 1260) (by decide +kernel)
theorem kRX8_248 : Cond.methodLink RX8 248 yX8_begin ∈ lw_tbl := ce_t (i := 1264) (by decide +kernel)
theorem kRX8_253 : Cond.methodLink RX8 253 yX8_does ∈ lw_tbl := ce_t (i := 1269) (by decide +kernel)
theorem kRX8_241 : Cond.methodLink RX8 241 yX8_owns ∈ lw_tbl := ce_t (i := 1273) (by decide +kernel)
theorem kRL_201 : Cond.methodLink RL 201 yX8_simulate ∈ lw_tbl := ce_t (i := 1276) (by decide +kernel)
theorem kRX8_260 : Cond.methodLink RX8 260 yX8_evening ∈ lw_tbl := ce_t (i := 1282) (by decide +kernel)
theorem kRL_204 : Cond.methodLink RL 204 yX8_save ∈ lw_tbl := ce_t (i := 1286) (by decide +kernel)
theorem kRL_207 : Cond.methodLink RL 207 yX8_restore ∈ lw_tbl := ce_t (i := 1290) (by decide +kernel)
theorem fRX5_9 : ce_FR RX5 9 5 0 := ⟨⟨RX5, TX5, 1, rfl, by decide, rfl, Or.inl (ce_t (i := 39) (by decide +kernel))⟩, by decide +kernel⟩
theorem pRX5_9 : ce_PF RX5 9 5 0 := ⟨fRX5_9, RX5, TX5, 1, tyX5 0, rfl, by decide, rfl, rfl, rfl, by decide +kernel, fun _ => ⟨rfl, rfl⟩, ce_t (i := 39) (by decide +kernel)⟩
theorem fRX2_25 : ce_FI RX2 25 3 0 := ⟨⟨RX3, TX3, 4, rfl, by decide, rfl, Or.inr ⟨"CellarClub", ce_t (i := 50) (by decide +kernel)⟩⟩, by decide +kernel⟩
theorem pRX2_25 : ce_PI RX2 25 3 0 .int := ⟨fRX2_25, _, rfl, rfl, by decide +kernel⟩
theorem fRX3_21 : ce_FI RX3 21 3 0 := ⟨⟨RX3, TX3, 4, rfl, by decide, rfl, Or.inl (ce_t (i := 51) (by decide +kernel))⟩, by decide +kernel⟩
theorem pRX3_21 : ce_PI RX3 21 3 0 .int := ⟨fRX3_21, _, rfl, rfl, by decide +kernel⟩
theorem fRX0_70 : ce_FI RX0 70 3 0 := ⟨⟨RX3, TX3, 4, rfl, by decide, rfl, Or.inr ⟨"CellarClub", ce_t (i := 52) (by decide +kernel)⟩⟩, by decide +kernel⟩
theorem pRX0_70 : ce_PI RX0 70 3 0 .int := ⟨fRX0_70, _, rfl, rfl, by decide +kernel⟩
theorem fRX6_75 : ce_FI RX6 75 3 0 := ⟨⟨RX3, TX3, 4, rfl, by decide, rfl, Or.inr ⟨"CellarClub", ce_t (i := 53) (by decide +kernel)⟩⟩, by decide +kernel⟩
theorem pRX6_75 : ce_PI RX6 75 3 0 .int := ⟨fRX6_75, _, rfl, rfl, by decide +kernel⟩
theorem fRX3_9 : ce_FR RX3 9 3 1 := ⟨⟨RX3, TX3, 4, rfl, by decide, rfl, Or.inl (ce_t (i := 54) (by decide +kernel))⟩, by decide +kernel⟩
theorem pRX3_9 : ce_PF RX3 9 3 1 := ⟨fRX3_9, RX3, TX3, 4, tyX3 1, rfl, by decide, rfl, rfl, rfl, by decide +kernel, fun _ => ⟨rfl, rfl⟩, ce_t (i := 54) (by decide +kernel)⟩
theorem fRX2_63 : ce_FR RX2 63 3 1 := ⟨⟨RX3, TX3, 4, rfl, by decide, rfl, Or.inr ⟨"CellarClub", ce_t (i := 55) (by decide +kernel)⟩⟩, by decide +kernel⟩
theorem fRX3_15 : ce_FR RX3 15 3 2 := ⟨⟨RX3, TX3, 4, rfl, by decide, rfl, Or.inl (ce_t (i := 56) (by decide +kernel))⟩, by decide +kernel⟩
theorem pRX3_15 : ce_PF RX3 15 3 2 := ⟨fRX3_15, RX3, TX3, 4, tyX3 2, rfl, by decide, rfl, rfl, rfl, by decide +kernel, fun _ => ⟨rfl, rfl⟩, ce_t (i := 56) (by decide +kernel)⟩
theorem fRX3_18 : ce_FR RX3 18 3 3 := ⟨⟨RX3, TX3, 4, rfl, by decide, rfl, Or.inl (ce_t (i := 57) (by decide +kernel))⟩, by decide +kernel⟩
theorem pRX3_18 : ce_PF RX3 18 3 3 := ⟨fRX3_18, RX3, TX3, 4, tyX3 3, rfl, by decide, rfl, rfl, rfl, by decide +kernel, fun _ => ⟨rfl, rfl⟩, ce_t (i := 57) (by decide +kernel)⟩
theorem fRX0_56 : ce_FI RX0 56 0 0 := ⟨⟨RX0, TX0, 14, rfl, by decide, rfl, Or.inl (ce_t (i := 67) (by decide +kernel))⟩, by decide +kernel⟩
theorem pRX0_56 : ce_PI RX0 56 0 0 .int := ⟨fRX0_56, _, rfl, rfl, by decide +kernel⟩
theorem fRX4_70 : ce_FI RX4 70 0 0 := ⟨⟨RX0, TX0, 14, rfl, by decide, rfl, Or.inr ⟨"CellarClub", ce_t (i := 68) (by decide +kernel)⟩⟩, by decide +kernel⟩
theorem pRX4_70 : ce_PI RX4 70 0 0 .int := ⟨fRX4_70, _, rfl, rfl, by decide +kernel⟩
theorem fRX7_82 : ce_FI RX7 82 0 0 := ⟨⟨RX0, TX0, 14, rfl, by decide, rfl, Or.inr ⟨"CellarClub", ce_t (i := 69) (by decide +kernel)⟩⟩, by decide +kernel⟩
theorem pRX7_82 : ce_PI RX7 82 0 0 .int := ⟨fRX7_82, _, rfl, rfl, by decide +kernel⟩
theorem fRX6_53 : ce_FI RX6 53 0 0 := ⟨⟨RX0, TX0, 14, rfl, by decide, rfl, Or.inr ⟨"CellarClub", ce_t (i := 70) (by decide +kernel)⟩⟩, by decide +kernel⟩
theorem pRX6_53 : ce_PI RX6 53 0 0 .int := ⟨fRX6_53, _, rfl, rfl, by decide +kernel⟩
theorem fRX2_35 : ce_FI RX2 35 0 1 := ⟨⟨RX0, TX0, 14, rfl, by decide, rfl, Or.inr ⟨"CellarClub", ce_t (i := 71) (by decide +kernel)⟩⟩, by decide +kernel⟩
theorem pRX2_35 : ce_PI RX2 35 0 1 .int := ⟨fRX2_35, _, rfl, rfl, by decide +kernel⟩
theorem fRX0_60 : ce_FI RX0 60 0 1 := ⟨⟨RX0, TX0, 14, rfl, by decide, rfl, Or.inl (ce_t (i := 72) (by decide +kernel))⟩, by decide +kernel⟩
theorem pRX0_60 : ce_PI RX0 60 0 1 .int := ⟨fRX0_60, _, rfl, rfl, by decide +kernel⟩
theorem fRX4_74 : ce_FI RX4 74 0 1 := ⟨⟨RX0, TX0, 14, rfl, by decide, rfl, Or.inr ⟨"CellarClub", ce_t (i := 73) (by decide +kernel)⟩⟩, by decide +kernel⟩
theorem pRX4_74 : ce_PI RX4 74 0 1 .int := ⟨fRX4_74, _, rfl, rfl, by decide +kernel⟩
theorem fRX6_64 : ce_FI RX6 64 0 1 := ⟨⟨RX0, TX0, 14, rfl, by decide, rfl, Or.inr ⟨"CellarClub", ce_t (i := 74) (by decide +kernel)⟩⟩, by decide +kernel⟩
theorem pRX6_64 : ce_PI RX6 64 0 1 .int := ⟨fRX6_64, _, rfl, rfl, by decide +kernel⟩
theorem fRX0_9 : ce_FR RX0 9 0 2 := ⟨⟨RX0, TX0, 14, rfl, by decide, rfl, Or.inl (ce_t (i := 75) (by decide +kernel))⟩, by decide +kernel⟩
theorem pRX0_9 : ce_PF RX0 9 0 2 := ⟨fRX0_9, RX0, TX0, 14, tyX0 2, rfl, by decide, rfl, rfl, rfl, by decide +kernel, fun _ => ⟨rfl, rfl⟩, ce_t (i := 75) (by decide +kernel)⟩
theorem fRX0_15 : ce_FR RX0 15 0 3 := ⟨⟨RX0, TX0, 14, rfl, by decide, rfl, Or.inl (ce_t (i := 76) (by decide +kernel))⟩, by decide +kernel⟩
theorem pRX0_15 : ce_PF RX0 15 0 3 := ⟨fRX0_15, RX0, TX0, 14, tyX0 3, rfl, by decide, rfl, rfl, rfl, by decide +kernel, fun _ => ⟨rfl, rfl⟩, ce_t (i := 76) (by decide +kernel)⟩
theorem fRX0_18 : ce_FR RX0 18 0 4 := ⟨⟨RX0, TX0, 14, rfl, by decide, rfl, Or.inl (ce_t (i := 77) (by decide +kernel))⟩, by decide +kernel⟩
theorem pRX0_18 : ce_PF RX0 18 0 4 := ⟨fRX0_18, RX0, TX0, 14, tyX0 4, rfl, by decide, rfl, rfl, rfl, by decide +kernel, fun _ => ⟨rfl, rfl⟩, ce_t (i := 77) (by decide +kernel)⟩
theorem fRX0_21 : ce_FR RX0 21 0 5 := ⟨⟨RX0, TX0, 14, rfl, by decide, rfl, Or.inl (ce_t (i := 78) (by decide +kernel))⟩, by decide +kernel⟩
theorem pRX0_21 : ce_PF RX0 21 0 5 := ⟨fRX0_21, RX0, TX0, 14, tyX0 5, rfl, by decide, rfl, rfl, rfl, by decide +kernel, fun _ => ⟨rfl, rfl⟩, ce_t (i := 78) (by decide +kernel)⟩
theorem fRX0_24 : ce_FR RX0 24 0 6 := ⟨⟨RX0, TX0, 14, rfl, by decide, rfl, Or.inl (ce_t (i := 79) (by decide +kernel))⟩, by decide +kernel⟩
theorem pRX0_24 : ce_PF RX0 24 0 6 := ⟨fRX0_24, RX0, TX0, 14, tyX0 6, rfl, by decide, rfl, rfl, rfl, by decide +kernel, fun _ => ⟨rfl, rfl⟩, ce_t (i := 79) (by decide +kernel)⟩
theorem fRX0_27 : ce_FR RX0 27 0 7 := ⟨⟨RX0, TX0, 14, rfl, by decide, rfl, Or.inl (ce_t (i := 80) (by decide +kernel))⟩, by decide +kernel⟩
theorem pRX0_27 : ce_PF RX0 27 0 7 := ⟨fRX0_27, RX0, TX0, 14, tyX0 7, rfl, by decide, rfl, rfl, rfl, by decide +kernel, fun _ => ⟨rfl, rfl⟩, ce_t (i := 80) (by decide +kernel)⟩
theorem fRX7_200 : ce_FR RX7 200 0 7 := ⟨⟨RX0, TX0, 14, rfl, by decide, rfl, Or.inr ⟨"CellarClub", ce_t (i := 81) (by decide +kernel)⟩⟩, by decide +kernel⟩
theorem fRX0_30 : ce_FR RX0 30 0 8 := ⟨⟨RX0, TX0, 14, rfl, by decide, rfl, Or.inl (ce_t (i := 82) (by decide +kernel))⟩, by decide +kernel⟩
theorem pRX0_30 : ce_PF RX0 30 0 8 := ⟨fRX0_30, RX0, TX0, 14, tyX0 8, rfl, by decide, rfl, rfl, rfl, by decide +kernel, fun _ => ⟨rfl, rfl⟩, ce_t (i := 82) (by decide +kernel)⟩
theorem fRX0_36 : ce_FR RX0 36 0 9 := ⟨⟨RX0, TX0, 14, rfl, by decide, rfl, Or.inl (ce_t (i := 83) (by decide +kernel))⟩, by decide +kernel⟩
theorem pRX0_36 : ce_PF RX0 36 0 9 := ⟨fRX0_36, RX0, TX0, 14, tyX0 9, rfl, by decide, rfl, rfl, rfl, by decide +kernel, fun _ => ⟨rfl, rfl⟩, ce_t (i := 83) (by decide +kernel)⟩
theorem fRX7_228 : ce_FR RX7 228 0 9 := ⟨⟨RX0, TX0, 14, rfl, by decide, rfl, Or.inr ⟨"CellarClub", ce_t (i := 84) (by decide +kernel)⟩⟩, by decide +kernel⟩
theorem fRX0_40 : ce_FR RX0 40 0 10 := ⟨⟨RX0, TX0, 14, rfl, by decide, rfl, Or.inl (ce_t (i := 85) (by decide +kernel))⟩, by decide +kernel⟩
theorem pRX0_40 : ce_PF RX0 40 0 10 := ⟨fRX0_40, RX0, TX0, 14, tyX0 10, rfl, by decide, rfl, rfl, rfl, by decide +kernel, fun _ => ⟨rfl, rfl⟩, ce_t (i := 85) (by decide +kernel)⟩
theorem fRX7_213 : ce_FR RX7 213 0 10 := ⟨⟨RX0, TX0, 14, rfl, by decide, rfl, Or.inr ⟨"CellarClub", ce_t (i := 86) (by decide +kernel)⟩⟩, by decide +kernel⟩
theorem fRX0_43 : ce_FR RX0 43 0 11 := ⟨⟨RX0, TX0, 14, rfl, by decide, rfl, Or.inl (ce_t (i := 87) (by decide +kernel))⟩, by decide +kernel⟩
theorem pRX0_43 : ce_PF RX0 43 0 11 := ⟨fRX0_43, RX0, TX0, 14, tyX0 11, rfl, by decide, rfl, rfl, rfl, by decide +kernel, fun _ => ⟨rfl, rfl⟩, ce_t (i := 87) (by decide +kernel)⟩
theorem fRX2_38 : ce_FR RX2 38 0 11 := ⟨⟨RX0, TX0, 14, rfl, by decide, rfl, Or.inr ⟨"CellarClub", ce_t (i := 88) (by decide +kernel)⟩⟩, by decide +kernel⟩
theorem fRX4_50 : ce_FR RX4 50 0 11 := ⟨⟨RX0, TX0, 14, rfl, by decide, rfl, Or.inr ⟨"CellarClub", ce_t (i := 89) (by decide +kernel)⟩⟩, by decide +kernel⟩
theorem fRX7_249 : ce_FR RX7 249 0 11 := ⟨⟨RX0, TX0, 14, rfl, by decide, rfl, Or.inr ⟨"CellarClub", ce_t (i := 90) (by decide +kernel)⟩⟩, by decide +kernel⟩
theorem fRX0_46 : ce_FR RX0 46 0 12 := ⟨⟨RX0, TX0, 14, rfl, by decide, rfl, Or.inl (ce_t (i := 91) (by decide +kernel))⟩, by decide +kernel⟩
theorem pRX0_46 : ce_PF RX0 46 0 12 := ⟨fRX0_46, RX0, TX0, 14, tyX0 12, rfl, by decide, rfl, rfl, rfl, by decide +kernel, fun _ => ⟨rfl, rfl⟩, ce_t (i := 91) (by decide +kernel)⟩
theorem fRX0_52 : ce_FR RX0 52 0 13 := ⟨⟨RX0, TX0, 14, rfl, by decide, rfl, Or.inl (ce_t (i := 92) (by decide +kernel))⟩, by decide +kernel⟩
theorem pRX0_52 : ce_PF RX0 52 0 13 := ⟨fRX0_52, RX0, TX0, 14, tyX0 13, rfl, by decide, rfl, rfl, rfl, by decide +kernel, fun _ => ⟨rfl, rfl⟩, ce_t (i := 92) (by decide +kernel)⟩
theorem fRX2_19 : ce_FR RX2 19 0 13 := ⟨⟨RX0, TX0, 14, rfl, by decide, rfl, Or.inr ⟨"CellarClub", ce_t (i := 93) (by decide +kernel)⟩⟩, by decide +kernel⟩
theorem fRX4_60 : ce_FR RX4 60 0 13 := ⟨⟨RX0, TX0, 14, rfl, by decide, rfl, Or.inr ⟨"CellarClub", ce_t (i := 94) (by decide +kernel)⟩⟩, by decide +kernel⟩
theorem fRX6_71 : ce_FR RX6 71 0 13 := ⟨⟨RX0, TX0, 14, rfl, by decide, rfl, Or.inr ⟨"CellarClub", ce_t (i := 95) (by decide +kernel)⟩⟩, by decide +kernel⟩
theorem fRX7_107 : ce_FR RX7 107 0 13 := ⟨⟨RX0, TX0, 14, rfl, by decide, rfl, Or.inr ⟨"CellarClub", ce_t (i := 96) (by decide +kernel)⟩⟩, by decide +kernel⟩
theorem fRX6_9 : ce_FR RX6 9 6 0 := ⟨⟨RX6, TX6, 5, rfl, by decide, rfl, Or.inl (ce_t (i := 134) (by decide +kernel))⟩, by decide +kernel⟩
theorem pRX6_9 : ce_PF RX6 9 6 0 := ⟨fRX6_9, RX6, TX6, 5, tyX6 0, rfl, by decide, rfl, rfl, rfl, by decide +kernel, fun _ => ⟨rfl, rfl⟩, ce_t (i := 134) (by decide +kernel)⟩
theorem fRX6_25 : ce_FI RX6 25 6 1 := ⟨⟨RX6, TX6, 5, rfl, by decide, rfl, Or.inl (ce_t (i := 135) (by decide +kernel))⟩, by decide +kernel⟩
theorem pRX6_25 : ce_PI RX6 25 6 1 .int := ⟨fRX6_25, _, rfl, rfl, by decide +kernel⟩
theorem fRX6_33 : ce_FI RX6 33 6 2 := ⟨⟨RX6, TX6, 5, rfl, by decide, rfl, Or.inl (ce_t (i := 136) (by decide +kernel))⟩, by decide +kernel⟩
theorem pRX6_33 : ce_PI RX6 33 6 2 .int := ⟨fRX6_33, _, rfl, rfl, by decide +kernel⟩
theorem fRX6_18 : ce_FR RX6 18 6 3 := ⟨⟨RX6, TX6, 5, rfl, by decide, rfl, Or.inl (ce_t (i := 137) (by decide +kernel))⟩, by decide +kernel⟩
theorem pRX6_18 : ce_PF RX6 18 6 3 := ⟨fRX6_18, RX6, TX6, 5, tyX6 3, rfl, by decide, rfl, rfl, rfl, by decide +kernel, fun _ => ⟨rfl, rfl⟩, ce_t (i := 137) (by decide +kernel)⟩
theorem fRX7_72 : ce_FR RX7 72 6 3 := ⟨⟨RX6, TX6, 5, rfl, by decide, rfl, Or.inr ⟨"CellarClub", ce_t (i := 138) (by decide +kernel)⟩⟩, by decide +kernel⟩
theorem fRX6_22 : ce_FR RX6 22 6 4 := ⟨⟨RX6, TX6, 5, rfl, by decide, rfl, Or.inl (ce_t (i := 139) (by decide +kernel))⟩, by decide +kernel⟩
theorem pRX6_22 : ce_PF RX6 22 6 4 := ⟨fRX6_22, RX6, TX6, 5, tyX6 4, rfl, by decide, rfl, rfl, rfl, by decide +kernel, fun _ => ⟨rfl, rfl⟩, ce_t (i := 139) (by decide +kernel)⟩
theorem fRX1_11 : ce_FR RX1 11 1 0 := ⟨⟨RX1, TX1, 2, rfl, by decide, rfl, Or.inl (ce_t (i := 161) (by decide +kernel))⟩, by decide +kernel⟩
theorem pRX1_11 : ce_PF RX1 11 1 0 := ⟨fRX1_11, RX1, TX1, 2, tyX1 0, rfl, by decide, rfl, rfl, rfl, by decide +kernel, fun _ => ⟨rfl, rfl⟩, ce_t (i := 161) (by decide +kernel)⟩
theorem fRX1_18 : ce_FI RX1 18 1 1 := ⟨⟨RX1, TX1, 2, rfl, by decide, rfl, Or.inl (ce_t (i := 162) (by decide +kernel))⟩, by decide +kernel⟩
theorem pRX1_18 : ce_PI RX1 18 1 1 .int := ⟨fRX1_18, _, rfl, rfl, by decide +kernel⟩
theorem fRX7_193 : ce_FI RX7 193 1 1 := ⟨⟨RX1, TX1, 2, rfl, by decide, rfl, Or.inr ⟨"CellarClub", ce_t (i := 163) (by decide +kernel)⟩⟩, by decide +kernel⟩
theorem pRX7_193 : ce_PI RX7 193 1 1 .int := ⟨fRX7_193, _, rfl, rfl, by decide +kernel⟩
theorem fRX4_12 : ce_FR RX4 12 4 0 := ⟨⟨RX4, TX4, 1, rfl, by decide, rfl, Or.inl (ce_t (i := 177) (by decide +kernel))⟩, by decide +kernel⟩
theorem pRX4_12 : ce_PF RX4 12 4 0 := ⟨fRX4_12, RX4, TX4, 1, tyX4 0, rfl, by decide, rfl, rfl, rfl, by decide +kernel, fun _ => ⟨rfl, rfl⟩, ce_t (i := 177) (by decide +kernel)⟩
theorem fRX7_210 : ce_FR RX7 210 4 0 := ⟨⟨RX4, TX4, 1, rfl, by decide, rfl, Or.inr ⟨"CellarClub", ce_t (i := 178) (by decide +kernel)⟩⟩, by decide +kernel⟩
theorem fRX2_9 : ce_FR RX2 9 2 0 := ⟨⟨RX2, TX2, 2, rfl, by decide, rfl, Or.inl (ce_t (i := 188) (by decide +kernel))⟩, by decide +kernel⟩
theorem pRX2_9 : ce_PF RX2 9 2 0 := ⟨fRX2_9, RX2, TX2, 2, tyX2 0, rfl, by decide, rfl, rfl, rfl, by decide +kernel, fun _ => ⟨rfl, rfl⟩, ce_t (i := 188) (by decide +kernel)⟩
theorem fRX2_15 : ce_FR RX2 15 2 1 := ⟨⟨RX2, TX2, 2, rfl, by decide, rfl, Or.inl (ce_t (i := 189) (by decide +kernel))⟩, by decide +kernel⟩
theorem pRX2_15 : ce_PF RX2 15 2 1 := ⟨fRX2_15, RX2, TX2, 2, tyX2 1, rfl, by decide, rfl, rfl, rfl, by decide +kernel, fun _ => ⟨rfl, rfl⟩, ce_t (i := 189) (by decide +kernel)⟩
theorem fRX7_10 : ce_FR RX7 10 7 0 := ⟨⟨RX7, TX7, 7, rfl, by decide, rfl, Or.inl (ce_t (i := 196) (by decide +kernel))⟩, by decide +kernel⟩
theorem pRX7_10 : ce_PF RX7 10 7 0 := ⟨fRX7_10, RX7, TX7, 7, tyX7 0, rfl, by decide, rfl, rfl, rfl, by decide +kernel, fun _ => ⟨rfl, rfl⟩, ce_t (i := 196) (by decide +kernel)⟩
theorem fRX7_19 : ce_FR RX7 19 7 1 := ⟨⟨RX7, TX7, 7, rfl, by decide, rfl, Or.inl (ce_t (i := 197) (by decide +kernel))⟩, by decide +kernel⟩
theorem pRX7_19 : ce_PF RX7 19 7 1 := ⟨fRX7_19, RX7, TX7, 7, tyX7 1, rfl, by decide, rfl, rfl, rfl, by decide +kernel, fun _ => ⟨rfl, rfl⟩, ce_t (i := 197) (by decide +kernel)⟩
theorem fRX7_26 : ce_FR RX7 26 7 2 := ⟨⟨RX7, TX7, 7, rfl, by decide, rfl, Or.inl (ce_t (i := 198) (by decide +kernel))⟩, by decide +kernel⟩
theorem pRX7_26 : ce_PF RX7 26 7 2 := ⟨fRX7_26, RX7, TX7, 7, tyX7 2, rfl, by decide, rfl, rfl, rfl, by decide +kernel, fun _ => ⟨rfl, rfl⟩, ce_t (i := 198) (by decide +kernel)⟩
theorem fRX7_33 : ce_FR RX7 33 7 3 := ⟨⟨RX7, TX7, 7, rfl, by decide, rfl, Or.inl (ce_t (i := 199) (by decide +kernel))⟩, by decide +kernel⟩
theorem pRX7_33 : ce_PF RX7 33 7 3 := ⟨fRX7_33, RX7, TX7, 7, tyX7 3, rfl, by decide, rfl, rfl, rfl, by decide +kernel, fun _ => ⟨rfl, rfl⟩, ce_t (i := 199) (by decide +kernel)⟩
theorem fRX7_40 : ce_FR RX7 40 7 4 := ⟨⟨RX7, TX7, 7, rfl, by decide, rfl, Or.inl (ce_t (i := 200) (by decide +kernel))⟩, by decide +kernel⟩
theorem pRX7_40 : ce_PF RX7 40 7 4 := ⟨fRX7_40, RX7, TX7, 7, tyX7 4, rfl, by decide, rfl, rfl, rfl, by decide +kernel, fun _ => ⟨rfl, rfl⟩, ce_t (i := 200) (by decide +kernel)⟩
theorem fRX7_44 : ce_FR RX7 44 7 5 := ⟨⟨RX7, TX7, 7, rfl, by decide, rfl, Or.inl (ce_t (i := 201) (by decide +kernel))⟩, by decide +kernel⟩
theorem pRX7_44 : ce_PF RX7 44 7 5 := ⟨fRX7_44, RX7, TX7, 7, tyX7 5, rfl, by decide, rfl, rfl, rfl, by decide +kernel, fun _ => ⟨rfl, rfl⟩, ce_t (i := 201) (by decide +kernel)⟩
theorem fRX7_48 : ce_FR RX7 48 7 6 := ⟨⟨RX7, TX7, 7, rfl, by decide, rfl, Or.inl (ce_t (i := 202) (by decide +kernel))⟩, by decide +kernel⟩
theorem pRX7_48 : ce_PF RX7 48 7 6 := ⟨fRX7_48, RX7, TX7, 7, tyX7 6, rfl, by decide, rfl, rfl, rfl, by decide +kernel, fun _ => ⟨rfl, rfl⟩, ce_t (i := 202) (by decide +kernel)⟩
theorem fRX8_41 : ce_FI RX8 41 8 0 := ⟨⟨RX8, TX8, 15, rfl, by decide, rfl, Or.inl (ce_t (i := 937) (by decide +kernel))⟩, by decide +kernel⟩
theorem pRX8_41 : ce_PI RX8 41 8 0 .int := ⟨fRX8_41, _, rfl, rfl, by decide +kernel⟩
theorem fRX8_7 : ce_FR RX8 7 8 1 := ⟨⟨RX8, TX8, 15, rfl, by decide, rfl, Or.inl (ce_t (i := 938) (by decide +kernel))⟩, by decide +kernel⟩
theorem pRX8_7 : ce_PF RX8 7 8 1 := ⟨fRX8_7, RX8, TX8, 15, tyX8 1, rfl, by decide, rfl, rfl, rfl, by decide +kernel, fun _ => ⟨rfl, rfl⟩, ce_t (i := 938) (by decide +kernel)⟩
theorem fRX8_112 : ce_FI RX8 112 8 2 := ⟨⟨RX8, TX8, 15, rfl, by decide, rfl, Or.inl (ce_t (i := 939) (by decide +kernel))⟩, by decide +kernel⟩
theorem pRX8_112 : ce_PI RX8 112 8 2 .int := ⟨fRX8_112, _, rfl, rfl, by decide +kernel⟩
theorem fRX8_119 : ce_FI RX8 119 8 3 := ⟨⟨RX8, TX8, 15, rfl, by decide, rfl, Or.inl (ce_t (i := 940) (by decide +kernel))⟩, by decide +kernel⟩
theorem pRX8_119 : ce_PI RX8 119 8 3 .int := ⟨fRX8_119, _, rfl, rfl, by decide +kernel⟩
theorem fRX8_122 : ce_FI RX8 122 8 4 := ⟨⟨RX8, TX8, 15, rfl, by decide, rfl, Or.inl (ce_t (i := 941) (by decide +kernel))⟩, by decide +kernel⟩
theorem pRX8_122 : ce_PI RX8 122 8 4 .boolean := ⟨fRX8_122, _, rfl, rfl, by decide +kernel⟩
theorem fRX8_13 : ce_FR RX8 13 8 5 := ⟨⟨RX8, TX8, 15, rfl, by decide, rfl, Or.inl (ce_t (i := 942) (by decide +kernel))⟩, by decide +kernel⟩
theorem pRX8_13 : ce_PF RX8 13 8 5 := ⟨fRX8_13, RX8, TX8, 15, tyX8 5, rfl, by decide, rfl, rfl, rfl, by decide +kernel, fun _ => ⟨rfl, rfl⟩, ce_t (i := 942) (by decide +kernel)⟩
theorem fRX8_16 : ce_FR RX8 16 8 6 := ⟨⟨RX8, TX8, 15, rfl, by decide, rfl, Or.inl (ce_t (i := 943) (by decide +kernel))⟩, by decide +kernel⟩
theorem pRX8_16 : ce_PF RX8 16 8 6 := ⟨fRX8_16, RX8, TX8, 15, tyX8 6, rfl, by decide, rfl, rfl, rfl, by decide +kernel, fun _ => ⟨rfl, rfl⟩, ce_t (i := 943) (by decide +kernel)⟩
theorem fRX8_19 : ce_FR RX8 19 8 7 := ⟨⟨RX8, TX8, 15, rfl, by decide, rfl, Or.inl (ce_t (i := 944) (by decide +kernel))⟩, by decide +kernel⟩
theorem pRX8_19 : ce_PF RX8 19 8 7 := ⟨fRX8_19, RX8, TX8, 15, tyX8 7, rfl, by decide, rfl, rfl, rfl, by decide +kernel, fun _ => ⟨rfl, rfl⟩, ce_t (i := 944) (by decide +kernel)⟩
theorem fRX8_22 : ce_FR RX8 22 8 8 := ⟨⟨RX8, TX8, 15, rfl, by decide, rfl, Or.inl (ce_t (i := 945) (by decide +kernel))⟩, by decide +kernel⟩
theorem pRX8_22 : ce_PF RX8 22 8 8 := ⟨fRX8_22, RX8, TX8, 15, tyX8 8, rfl, by decide, rfl, rfl, rfl, by decide +kernel, fun _ => ⟨rfl, rfl⟩, ce_t (i := 945) (by decide +kernel)⟩
theorem fRX8_47 : ce_FI RX8 47 8 9 := ⟨⟨RX8, TX8, 15, rfl, by decide, rfl, Or.inl (ce_t (i := 946) (by decide +kernel))⟩, by decide +kernel⟩
theorem pRX8_47 : ce_PI RX8 47 8 9 .int := ⟨fRX8_47, _, rfl, rfl, by decide +kernel⟩
theorem fRX8_25 : ce_FR RX8 25 8 10 := ⟨⟨RX8, TX8, 15, rfl, by decide, rfl, Or.inl (ce_t (i := 947) (by decide +kernel))⟩, by decide +kernel⟩
theorem pRX8_25 : ce_PF RX8 25 8 10 := ⟨fRX8_25, RX8, TX8, 15, tyX8 10, rfl, by decide, rfl, rfl, rfl, by decide +kernel, fun _ => ⟨rfl, rfl⟩, ce_t (i := 947) (by decide +kernel)⟩
theorem fRX8_28 : ce_FR RX8 28 8 11 := ⟨⟨RX8, TX8, 15, rfl, by decide, rfl, Or.inl (ce_t (i := 948) (by decide +kernel))⟩, by decide +kernel⟩
theorem pRX8_28 : ce_PF RX8 28 8 11 := ⟨fRX8_28, RX8, TX8, 15, tyX8 11, rfl, by decide, rfl, rfl, rfl, by decide +kernel, fun _ => ⟨rfl, rfl⟩, ce_t (i := 948) (by decide +kernel)⟩
theorem fRX8_32 : ce_FR RX8 32 8 12 := ⟨⟨RX8, TX8, 15, rfl, by decide, rfl, Or.inl (ce_t (i := 949) (by decide +kernel))⟩, by decide +kernel⟩
theorem pRX8_32 : ce_PF RX8 32 8 12 := ⟨fRX8_32, RX8, TX8, 15, tyX8 12, rfl, by decide, rfl, rfl, rfl, by decide +kernel, fun _ => ⟨rfl, rfl⟩, ce_t (i := 949) (by decide +kernel)⟩
theorem fRX8_35 : ce_FR RX8 35 8 13 := ⟨⟨RX8, TX8, 15, rfl, by decide, rfl, Or.inl (ce_t (i := 950) (by decide +kernel))⟩, by decide +kernel⟩
theorem pRX8_35 : ce_PF RX8 35 8 13 := ⟨fRX8_35, RX8, TX8, 15, tyX8 13, rfl, by decide, rfl, rfl, rfl, by decide +kernel, fun _ => ⟨rfl, rfl⟩, ce_t (i := 950) (by decide +kernel)⟩
theorem fRX8_38 : ce_FR RX8 38 8 14 := ⟨⟨RX8, TX8, 15, rfl, by decide, rfl, Or.inl (ce_t (i := 951) (by decide +kernel))⟩, by decide +kernel⟩
theorem pRX8_38 : ce_PF RX8 38 8 14 := ⟨fRX8_38, RX8, TX8, 15, tyX8 14, rfl, by decide, rfl, rfl, rfl, by decide +kernel, fun _ => ⟨rfl, rfl⟩, ce_t (i := 951) (by decide +kernel)⟩
theorem wn_X7 : Cond.initialized RX7 ∈ lw_tbl := ce_t (i := 1) (by decide +kernel)
theorem wn_X0 : Cond.initialized RX0 ∈ lw_tbl := ce_t (i := 2) (by decide +kernel)
theorem wn_X5 : Cond.initialized RX5 ∈ lw_tbl := ce_t (i := 3) (by decide +kernel)
theorem wn_X3 : Cond.initialized RX3 ∈ lw_tbl := ce_t (i := 4) (by decide +kernel)
theorem wn_X6 : Cond.initialized RX6 ∈ lw_tbl := ce_t (i := 5) (by decide +kernel)
theorem wn_X1 : Cond.initialized RX1 ∈ lw_tbl := ce_t (i := 6) (by decide +kernel)
theorem wn_X4 : Cond.initialized RX4 ∈ lw_tbl := ce_t (i := 7) (by decide +kernel)
theorem wn_X2 : Cond.initialized RX2 ∈ lw_tbl := ce_t (i := 8) (by decide +kernel)
theorem wn_X8 : Cond.initialized RX8 ∈ lw_tbl := ce_t (i := 9) (by decide +kernel)
theorem wn_Exception : Cond.initialized "java/lang/Exception" ∈ lw_tbl := ce_t (i := 11) (by decide +kernel)
theorem wn_RuntimeException : Cond.initialized "java/lang/RuntimeException" ∈ lw_tbl := ce_t (i := 12) (by decide +kernel)
theorem wn_IndexOutOfBoundsException : Cond.initialized "java/lang/IndexOutOfBoundsException" ∈ lw_tbl := ce_t (i := 13) (by decide +kernel)
theorem wn_IllegalArgumentException : Cond.initialized "java/lang/IllegalArgumentException" ∈ lw_tbl := ce_t (i := 14) (by decide +kernel)
theorem wn_IllegalStateException : Cond.initialized "java/lang/IllegalStateException" ∈ lw_tbl := ce_t (i := 15) (by decide +kernel)
theorem kRL_8 : Cond.classLink RL 8 "CellarClub" ∈ lw_tbl := ce_t (i := 19) (by decide +kernel)
theorem wi_X7 : Cond.instantiable RX7 7 ∈ lw_tbl := ce_t (i := 20) (by decide +kernel)
theorem kRX7_7 : Cond.classLink RX7 7 "CellarClub$Club" ∈ lw_tbl := ce_t (i := 27) (by decide +kernel)
theorem wi_X0 : Cond.instantiable RX0 14 ∈ lw_tbl := ce_t (i := 28) (by decide +kernel)
theorem kRX0_33 : Cond.classLink RX0 33 "CellarClub$Table" ∈ lw_tbl := ce_t (i := 33) (by decide +kernel)
theorem wi_X5 : Cond.instantiable RX5 1 ∈ lw_tbl := ce_t (i := 34) (by decide +kernel)
theorem wa_int : Cond.arrayClass .int ∈ lw_tbl := ce_t (i := 43) (by decide +kernel)
theorem kRX0_49 : Cond.classLink RX0 49 "CellarClub$Rack" ∈ lw_tbl := ce_t (i := 44) (by decide +kernel)
theorem wi_X3 : Cond.instantiable RX3 4 ∈ lw_tbl := ce_t (i := 45) (by decide +kernel)
theorem kRX7_16 : Cond.classLink RX7 16 "CellarClub$Text" ∈ lw_tbl := ce_t (i := 126) (by decide +kernel)
theorem wi_X6 : Cond.instantiable RX6 5 ∈ lw_tbl := ce_t (i := 127) (by decide +kernel)
theorem kRX6_15 : Cond.classLink RX6 15 "CellarClub$Club" ∈ lw_tbl := ce_t (i := 132) (by decide +kernel)
theorem wa_char : Cond.arrayClass .char ∈ lw_tbl := ce_t (i := 151) (by decide +kernel)
theorem kRX7_23 : Cond.classLink RX7 23 "CellarClub$History" ∈ lw_tbl := ce_t (i := 152) (by decide +kernel)
theorem wi_X1 : Cond.instantiable RX1 2 ∈ lw_tbl := ce_t (i := 153) (by decide +kernel)
theorem kRX1_9 : Cond.classLink RX1 9 "CellarClub$Club" ∈ lw_tbl := ce_t (i := 158) (by decide +kernel)
theorem kRX7_30 : Cond.classLink RX7 30 "CellarClub$Rehearsal" ∈ lw_tbl := ce_t (i := 169) (by decide +kernel)
theorem wi_X4 : Cond.instantiable RX4 1 ∈ lw_tbl := ce_t (i := 170) (by decide +kernel)
theorem kRX4_9 : Cond.classLink RX4 9 "CellarClub$Club" ∈ lw_tbl := ce_t (i := 175) (by decide +kernel)
theorem kRX7_37 : Cond.classLink RX7 37 "CellarClub$Packing" ∈ lw_tbl := ce_t (i := 182) (by decide +kernel)
theorem wi_X2 : Cond.instantiable RX2 2 ∈ lw_tbl := ce_t (i := 183) (by decide +kernel)
theorem wa_boolean : Cond.arrayClass .boolean ∈ lw_tbl := ce_t (i := 195) (by decide +kernel)
theorem kRX6_40 : Cond.constant RX6 40 (-99999 : Int32) ∈ lw_tbl := ce_t (i := 269) (by decide +kernel)
theorem kRX3_25 : Cond.constant RX3 25 (-99999 : Int32) ∈ lw_tbl := ce_t (i := 290) (by decide +kernel)
theorem kRJ6_265 : Cond.constant RJ6 265 (1431655765 : Int32) ∈ lw_tbl := ce_t (i := 335) (by decide +kernel)
theorem kRJ6_266 : Cond.constant RJ6 266 (858993459 : Int32) ∈ lw_tbl := ce_t (i := 336) (by decide +kernel)
theorem kRJ6_267 : Cond.constant RJ6 267 (252645135 : Int32) ∈ lw_tbl := ce_t (i := 337) (by decide +kernel)
theorem kRL_13 : Cond.classLink RL 13 "java/lang/IllegalArgumentException" ∈ lw_tbl := ce_t (i := 342) (by decide +kernel)
theorem kRL_15 : Cond.classLink RL 15 "java/lang/IllegalStateException" ∈ lw_tbl := ce_t (i := 343) (by decide +kernel)
theorem kRX7_264 : Cond.classLink RX7 264 "java/lang/IndexOutOfBoundsException" ∈ lw_tbl := ce_t (i := 355) (by decide +kernel)
theorem wc_IndexOutOfBoundsException : Cond.castable "java/lang/IndexOutOfBoundsException" "java/lang/IndexOutOfBoundsException" ∈ lw_tbl := ce_t (i := 357) (by decide +kernel)
theorem wa_byte : Cond.arrayClass .byte ∈ lw_tbl := ce_t (i := 422) (by decide +kernel)
theorem kRX7_271 : Cond.classLink RX7 271 "java/lang/IllegalArgumentException" ∈ lw_tbl := ce_t (i := 423) (by decide +kernel)
theorem wc_IllegalArgumentException : Cond.castable "java/lang/IllegalArgumentException" "java/lang/IllegalArgumentException" ∈ lw_tbl := ce_t (i := 425) (by decide +kernel)
theorem kRX7_276 : Cond.classLink RX7 276 "java/lang/IllegalStateException" ∈ lw_tbl := ce_t (i := 439) (by decide +kernel)
theorem wc_IllegalStateException : Cond.castable "java/lang/IllegalStateException" "java/lang/IllegalStateException" ∈ lw_tbl := ce_t (i := 441) (by decide +kernel)
theorem kRX7_71 : Cond.constant RX7 71 (-99999 : Int32) ∈ lw_tbl := ce_t (i := 466) (by decide +kernel)
theorem kRL_28 : Cond.classLink RL 28 "java/lang/IndexOutOfBoundsException" ∈ lw_tbl := ce_t (i := 509) (by decide +kernel)
theorem kRX0_109 : Cond.constant RX0 109 (-99999 : Int32) ∈ lw_tbl := ce_t (i := 651) (by decide +kernel)
theorem kRX7_281 : Cond.constantLong RX7 281 (100000 : Int64) ∈ lw_tbl := ce_t (i := 847) (by decide +kernel)
theorem kRX7_242 : Cond.constantLong RX7 242 (6364136223846793005 : Int64) ∈ lw_tbl := ce_t (i := 902) (by decide +kernel)
theorem kRX7_244 : Cond.constantLong RX7 244 (1442695040888963407 : Int64) ∈ lw_tbl := ce_t (i := 903) (by decide +kernel)
theorem kRL_101 : Cond.classLink RL 101 "CellarClubModel" ∈ lw_tbl := ce_t (i := 931) (by decide +kernel)
theorem wi_X8 : Cond.instantiable RX8 15 ∈ lw_tbl := ce_t (i := 932) (by decide +kernel)
theorem kRX8_106 : Cond.constantLong RX8 106 (255 : Int64) ∈ lw_tbl := ce_t (i := 991) (by decide +kernel)
theorem kRX8_65 : Cond.constant RX8 65 (-99999 : Int32) ∈ lw_tbl := ce_t (i := 1027) (by decide +kernel)
theorem kRX8_126 : Cond.constantLong RX8 126 (9 : Int64) ∈ lw_tbl := ce_t (i := 1028) (by decide +kernel)
theorem kRX8_177 : Cond.constantLong RX8 177 (3 : Int64) ∈ lw_tbl := ce_t (i := 1091) (by decide +kernel)
theorem kRX8_185 : Cond.constantLong RX8 185 (8 : Int64) ∈ lw_tbl := ce_t (i := 1103) (by decide +kernel)
theorem kRX8_190 : Cond.constantLong RX8 190 (2 : Int64) ∈ lw_tbl := ce_t (i := 1115) (by decide +kernel)
theorem kRX8_192 : Cond.constantLong RX8 192 (999 : Int64) ∈ lw_tbl := ce_t (i := 1124) (by decide +kernel)
theorem kRX8_197 : Cond.constantLong RX8 197 (99 : Int64) ∈ lw_tbl := ce_t (i := 1133) (by decide +kernel)
theorem kRX8_199 : Cond.constantLong RX8 199 (60 : Int64) ∈ lw_tbl := ce_t (i := 1134) (by decide +kernel)
theorem kRX8_201 : Cond.constantLong RX8 201 (24 : Int64) ∈ lw_tbl := ce_t (i := 1139) (by decide +kernel)
theorem kRX8_45 : Cond.constantLong RX8 45 (10 : Int64) ∈ lw_tbl := ce_t (i := 1263) (by decide +kernel)
theorem kRX8_251 : Cond.constantLong RX8 251 (100000 : Int64) ∈ lw_tbl := ce_t (i := 1268) (by decide +kernel)
theorem kRX8_256 : Cond.constantLong RX8 256 (6364136223846793005 : Int64) ∈ lw_tbl := ce_t (i := 1280) (by decide +kernel)
theorem kRX8_258 : Cond.constantLong RX8 258 (1442695040888963407 : Int64) ∈ lw_tbl := ce_t (i := 1281) (by decide +kernel)
theorem kRL_192 : Cond.constantLong RL 192 (4294967295 : Int64) ∈ lw_tbl := ce_t (i := 1294) (by decide +kernel)
theorem wa_long : Cond.arrayClass .long ∈ lw_tbl := ce_t (i := 1295) (by decide +kernel)
theorem wx_nat : Cond.native arraycopyName ∈ lw_tbl := ce_t (i := 246) (by decide +kernel)
theorem wx_stat : Cond.static arraycopyName ∈ lw_tbl := ce_t (i := 245) (by decide +kernel)
theorem wx_sys : Cond.initialized "java/lang/System" ∈ lw_tbl := ce_t (i := 17) (by decide +kernel)
theorem wx_oi : Cond.instanceMethod Lib.objectInit ∈ lw_tbl := ce_t (i := 25) (by decide +kernel)
theorem wx_oc : Cond.code Lib.objectInit ⟨#[0xb1]⟩ 1 none ∈ lw_tbl := ce_t (i := 26) (by decide +kernel)
