theorem kRL_91 : Cond.methodLink RL 91 yX7_shortest ∈ lw_tbl := ce_t (i := 799) (by decide +kernel)
theorem kRL_164 : Cond.methodLink RL 164 yL_roomFor ∈ lw_tbl := ce_t (i := 803) (by decide +kernel)
theorem kRL_88 : Cond.methodLink RL 88 yX7_roomFor ∈ lw_tbl := ce_t (i := 806) (by decide +kernel)
theorem kRX7_222 : Cond.methodLink RX7 222 yX3_roomForWine ∈ lw_tbl := ce_t (i := 810) (by decide +kernel)
theorem kRL_168 : Cond.methodLink RL 168 yL_script ∈ lw_tbl := ce_t (i := 812) (by decide +kernel)
theorem kRL_94 : Cond.methodLink RL 94 yX7_runScript ∈ lw_tbl := ce_t (i := 815) (by decide +kernel)
theorem kRX7_231 : Cond.methodLink RX7 231 yX7_scriptFault ∈ lw_tbl := ce_t (i := 819) (by decide +kernel)
theorem kRX7_235 : Cond.methodLink RX7 235 yX7_groupAt ∈ lw_tbl := ce_t (i := 823) (by decide +kernel)
theorem kRX7_239 : Cond.methodLink RX7 239 yX4_obeys ∈ lw_tbl := ce_t (i := 826) (by decide +kernel)
theorem kRX4_22 : Cond.methodLink RX4 22 yX4_orders ∈ lw_tbl := ce_t (i := 830) (by decide +kernel)
theorem kRX4_77 : Cond.methodLink RX4 77 yX0_orderFault ∈ lw_tbl := ce_t (i := 834) (by decide +kernel)
theorem kRX4_81 : Cond.methodLink RX4 81 yX0_changeOrder ∈ lw_tbl := ce_t (i := 835) (by decide +kernel)
theorem kRX4_26 : Cond.methodLink RX4 26 yX4_allocates ∈ lw_tbl := ce_t (i := 836) (by decide +kernel)
theorem kRX4_30 : Cond.methodLink RX4 30 yX4_delivers ∈ lw_tbl := ce_t (i := 837) (by decide +kernel)
theorem kRX4_91 : Cond.methodLink RX4 91 yX0_deliveryFault ∈ lw_tbl := ce_t (i := 841) (by decide +kernel)
theorem kRX4_94 : Cond.methodLink RX4 94 yX0_bringIn ∈ lw_tbl := ce_t (i := 842) (by decide +kernel)
theorem kRX4_33 : Cond.methodLink RX4 33 yX4_drinks ∈ lw_tbl := ce_t (i := 843) (by decide +kernel)
theorem kRX4_97 : Cond.methodLink RX4 97 yX0_drinkFault ∈ lw_tbl := ce_t (i := 847) (by decide +kernel)
theorem kRX4_100 : Cond.methodLink RX4 100 yX0_drinkUp ∈ lw_tbl := ce_t (i := 848) (by decide +kernel)
theorem kRX4_36 : Cond.methodLink RX4 36 yX4_gives ∈ lw_tbl := ce_t (i := 849) (by decide +kernel)
theorem kRX4_103 : Cond.methodLink RX4 103 yX0_giftFault ∈ lw_tbl := ce_t (i := 853) (by decide +kernel)
theorem kRX4_107 : Cond.methodLink RX4 107 yX0_handOver ∈ lw_tbl := ce_t (i := 854) (by decide +kernel)
theorem kRX4_40 : Cond.methodLink RX4 40 yX4_corks ∈ lw_tbl := ce_t (i := 855) (by decide +kernel)
theorem kRX4_110 : Cond.methodLink RX4 110 yX0_corkFault ∈ lw_tbl := ce_t (i := 859) (by decide +kernel)
theorem kRX4_113 : Cond.methodLink RX4 113 yX0_replaceCorked ∈ lw_tbl := ce_t (i := 860) (by decide +kernel)
theorem kRX4_44 : Cond.methodLink RX4 44 yX4_moves ∈ lw_tbl := ce_t (i := 861) (by decide +kernel)
theorem kRX4_116 : Cond.methodLink RX4 116 yX3_carryFault ∈ lw_tbl := ce_t (i := 865) (by decide +kernel)
theorem kRX4_119 : Cond.methodLink RX4 119 yX3_carry ∈ lw_tbl := ce_t (i := 866) (by decide +kernel)
theorem kRX4_47 : Cond.methodLink RX4 47 yX0_knowsBoth ∈ lw_tbl := ce_t (i := 867) (by decide +kernel)
theorem kRX4_54 : Cond.methodLink RX4 54 yX5_of ∈ lw_tbl := ce_t (i := 868) (by decide +kernel)
theorem kRX4_64 : Cond.methodLink RX4 64 yX3_emptyBins ∈ lw_tbl := ce_t (i := 869) (by decide +kernel)
theorem kRL_174 : Cond.methodLink RL 174 yL_simulate ∈ lw_tbl := ce_t (i := 871) (by decide +kernel)
theorem kRL_98 : Cond.methodLink RL 98 yX7_simulate ∈ lw_tbl := ce_t (i := 874) (by decide +kernel)
theorem kRX7_246 : Cond.methodLink RX7 246 yX4_spendEvening ∈ lw_tbl := ce_t (i := 880) (by decide +kernel)
theorem kRX7_255 : Cond.methodLink RX7 255 yX3_emptyBins ∈ lw_tbl := ce_t (i := 884) (by decide +kernel)
theorem kRL_181 : Cond.methodLink RL 181 yL_append ∈ lw_tbl := ce_t (i := 885) (by decide +kernel)
theorem kRL_9 : Cond.methodLink RL 9 yX7_append ∈ lw_tbl := ce_t (i := 888) (by decide +kernel)
theorem kRX7_52 : Cond.methodLink RX7 52 yX6_addingFault ∈ lw_tbl := ce_t (i := 892) (by decide +kernel)
theorem kRX7_60 : Cond.methodLink RX7 60 yX6_add ∈ lw_tbl := ce_t (i := 896) (by decide +kernel)
theorem kRL_233 : Cond.methodLink RL 233 yL_kept ∈ lw_tbl := ce_t (i := 900) (by decide +kernel)
theorem kRL_185 : Cond.methodLink RL 185 yL_in ∈ lw_tbl := ce_t (i := 904) (by decide +kernel)
theorem kRL_193 : Cond.methodLink RL 193 yX7_fewestBins ∈ lw_tbl := ce_t (i := 909) (by decide +kernel)
theorem kRX7_225 : Cond.methodLink RX7 225 yX2_fewest ∈ lw_tbl := ce_t (i := 913) (by decide +kernel)
theorem kRX2_31 : Cond.methodLink RX2 31 yX2_measure ∈ lw_tbl := ce_t (i := 917) (by decide +kernel)
theorem kRX2_42 : Cond.methodLink RX2 42 yX5_ofWine ∈ lw_tbl := ce_t (i := 921) (by decide +kernel)
theorem kRX2_48 : Cond.methodLink RX2 48 yX2_packWine ∈ lw_tbl := ce_t (i := 922) (by decide +kernel)
theorem kRX2_66 : Cond.methodLink RX2 66 yX2_canPack ∈ lw_tbl := ce_t (i := 926) (by decide +kernel)
theorem kRX2_52 : Cond.methodLink RX2 52 yJ6_bitCount_0f7a4 ∈ lw_tbl := ce_t (i := 930) (by decide +kernel)
theorem kRX2_57 : Cond.methodLink RX2 57 yJ9_min_7cf53 ∈ lw_tbl := ce_t (i := 936) (by decide +kernel)
theorem kRL_245 : Cond.methodLink RL 245 yL_follows ∈ lw_tbl := ce_t (i := 938) (by decide +kernel)
theorem kRL_198 : Cond.methodLink RL 198 yL_undo ∈ lw_tbl := ce_t (i := 942) (by decide +kernel)
theorem kRL_82 : Cond.methodLink RL 82 yX7_undo ∈ lw_tbl := ce_t (i := 945) (by decide +kernel)
theorem kRX7_196 : Cond.methodLink RX7 196 yX1_takeBack ∈ lw_tbl := ce_t (i := 949) (by decide +kernel)
theorem kRL_225 : Cond.methodLink RL 225 yL_alike ∈ lw_tbl := ce_t (i := 954) (by decide +kernel)
theorem kRL_202 : Cond.methodLink RL 202 yX7_errorPosition ∈ lw_tbl := ce_t (i := 957) (by decide +kernel)
theorem kRL_236 : Cond.methodLink RL 236 yL_tells ∈ lw_tbl := ce_t (i := 963) (by decide +kernel)
theorem kRL_213 : Cond.methodLink RL 213 yX7_clearText ∈ lw_tbl := ce_t (i := 966) (by decide +kernel)
theorem kRX7_64 : Cond.methodLink RX7 64 yX6_wipe ∈ lw_tbl := ce_t (i := 970) (by decide +kernel)
theorem kRL_209 : Cond.methodLink RL 209 yL_says ∈ lw_tbl := ce_t (i := 974) (by decide +kernel)
theorem kRL_216 : Cond.methodLink RL 216 yL_two ∈ lw_tbl := ce_t (i := 977) (by decide +kernel)
theorem kRL_242 : Cond.methodLink RL 242 yL_act ∈ lw_tbl := ce_t (i := 981) (by decide +kernel)
theorem fRX5_9 : ce_FR RX5 9 5 0 := ⟨⟨RX5, TX5, 1, rfl, by decide, rfl, Or.inl (ce_t (i := 38) (by decide +kernel))⟩, by decide +kernel⟩
theorem pRX5_9 : ce_PF RX5 9 5 0 := ⟨fRX5_9, RX5, TX5, 1, tyX5 0, rfl, by decide, rfl, rfl, rfl, by decide +kernel, fun _ => ⟨rfl, rfl⟩, ce_t (i := 38) (by decide +kernel)⟩
theorem fRX2_25 : ce_FI RX2 25 3 0 := ⟨⟨RX3, TX3, 4, rfl, by decide, rfl, Or.inr ⟨"CellarClub", ce_t (i := 49) (by decide +kernel)⟩⟩, by decide +kernel⟩
theorem pRX2_25 : ce_PI RX2 25 3 0 .int := ⟨fRX2_25, _, rfl, rfl, by decide +kernel⟩
theorem fRX3_21 : ce_FI RX3 21 3 0 := ⟨⟨RX3, TX3, 4, rfl, by decide, rfl, Or.inl (ce_t (i := 50) (by decide +kernel))⟩, by decide +kernel⟩
theorem pRX3_21 : ce_PI RX3 21 3 0 .int := ⟨fRX3_21, _, rfl, rfl, by decide +kernel⟩
theorem fRX0_70 : ce_FI RX0 70 3 0 := ⟨⟨RX3, TX3, 4, rfl, by decide, rfl, Or.inr ⟨"CellarClub", ce_t (i := 51) (by decide +kernel)⟩⟩, by decide +kernel⟩
theorem pRX0_70 : ce_PI RX0 70 3 0 .int := ⟨fRX0_70, _, rfl, rfl, by decide +kernel⟩
theorem fRX6_75 : ce_FI RX6 75 3 0 := ⟨⟨RX3, TX3, 4, rfl, by decide, rfl, Or.inr ⟨"CellarClub", ce_t (i := 52) (by decide +kernel)⟩⟩, by decide +kernel⟩
theorem pRX6_75 : ce_PI RX6 75 3 0 .int := ⟨fRX6_75, _, rfl, rfl, by decide +kernel⟩
theorem fRX3_9 : ce_FR RX3 9 3 1 := ⟨⟨RX3, TX3, 4, rfl, by decide, rfl, Or.inl (ce_t (i := 53) (by decide +kernel))⟩, by decide +kernel⟩
theorem pRX3_9 : ce_PF RX3 9 3 1 := ⟨fRX3_9, RX3, TX3, 4, tyX3 1, rfl, by decide, rfl, rfl, rfl, by decide +kernel, fun _ => ⟨rfl, rfl⟩, ce_t (i := 53) (by decide +kernel)⟩
theorem fRX2_63 : ce_FR RX2 63 3 1 := ⟨⟨RX3, TX3, 4, rfl, by decide, rfl, Or.inr ⟨"CellarClub", ce_t (i := 54) (by decide +kernel)⟩⟩, by decide +kernel⟩
theorem fRX3_15 : ce_FR RX3 15 3 2 := ⟨⟨RX3, TX3, 4, rfl, by decide, rfl, Or.inl (ce_t (i := 55) (by decide +kernel))⟩, by decide +kernel⟩
theorem pRX3_15 : ce_PF RX3 15 3 2 := ⟨fRX3_15, RX3, TX3, 4, tyX3 2, rfl, by decide, rfl, rfl, rfl, by decide +kernel, fun _ => ⟨rfl, rfl⟩, ce_t (i := 55) (by decide +kernel)⟩
theorem fRX3_18 : ce_FR RX3 18 3 3 := ⟨⟨RX3, TX3, 4, rfl, by decide, rfl, Or.inl (ce_t (i := 56) (by decide +kernel))⟩, by decide +kernel⟩
theorem pRX3_18 : ce_PF RX3 18 3 3 := ⟨fRX3_18, RX3, TX3, 4, tyX3 3, rfl, by decide, rfl, rfl, rfl, by decide +kernel, fun _ => ⟨rfl, rfl⟩, ce_t (i := 56) (by decide +kernel)⟩
theorem fRX0_56 : ce_FI RX0 56 0 0 := ⟨⟨RX0, TX0, 14, rfl, by decide, rfl, Or.inl (ce_t (i := 66) (by decide +kernel))⟩, by decide +kernel⟩
theorem pRX0_56 : ce_PI RX0 56 0 0 .int := ⟨fRX0_56, _, rfl, rfl, by decide +kernel⟩
theorem fRX4_70 : ce_FI RX4 70 0 0 := ⟨⟨RX0, TX0, 14, rfl, by decide, rfl, Or.inr ⟨"CellarClub", ce_t (i := 67) (by decide +kernel)⟩⟩, by decide +kernel⟩
theorem pRX4_70 : ce_PI RX4 70 0 0 .int := ⟨fRX4_70, _, rfl, rfl, by decide +kernel⟩
theorem fRX7_82 : ce_FI RX7 82 0 0 := ⟨⟨RX0, TX0, 14, rfl, by decide, rfl, Or.inr ⟨"CellarClub", ce_t (i := 68) (by decide +kernel)⟩⟩, by decide +kernel⟩
theorem pRX7_82 : ce_PI RX7 82 0 0 .int := ⟨fRX7_82, _, rfl, rfl, by decide +kernel⟩
theorem fRX6_53 : ce_FI RX6 53 0 0 := ⟨⟨RX0, TX0, 14, rfl, by decide, rfl, Or.inr ⟨"CellarClub", ce_t (i := 69) (by decide +kernel)⟩⟩, by decide +kernel⟩
theorem pRX6_53 : ce_PI RX6 53 0 0 .int := ⟨fRX6_53, _, rfl, rfl, by decide +kernel⟩
theorem fRX2_35 : ce_FI RX2 35 0 1 := ⟨⟨RX0, TX0, 14, rfl, by decide, rfl, Or.inr ⟨"CellarClub", ce_t (i := 70) (by decide +kernel)⟩⟩, by decide +kernel⟩
theorem pRX2_35 : ce_PI RX2 35 0 1 .int := ⟨fRX2_35, _, rfl, rfl, by decide +kernel⟩
theorem fRX0_60 : ce_FI RX0 60 0 1 := ⟨⟨RX0, TX0, 14, rfl, by decide, rfl, Or.inl (ce_t (i := 71) (by decide +kernel))⟩, by decide +kernel⟩
theorem pRX0_60 : ce_PI RX0 60 0 1 .int := ⟨fRX0_60, _, rfl, rfl, by decide +kernel⟩
theorem fRX4_74 : ce_FI RX4 74 0 1 := ⟨⟨RX0, TX0, 14, rfl, by decide, rfl, Or.inr ⟨"CellarClub", ce_t (i := 72) (by decide +kernel)⟩⟩, by decide +kernel⟩
theorem pRX4_74 : ce_PI RX4 74 0 1 .int := ⟨fRX4_74, _, rfl, rfl, by decide +kernel⟩
theorem fRX6_64 : ce_FI RX6 64 0 1 := ⟨⟨RX0, TX0, 14, rfl, by decide, rfl, Or.inr ⟨"CellarClub", ce_t (i := 73) (by decide +kernel)⟩⟩, by decide +kernel⟩
theorem pRX6_64 : ce_PI RX6 64 0 1 .int := ⟨fRX6_64, _, rfl, rfl, by decide +kernel⟩
theorem fRX0_9 : ce_FR RX0 9 0 2 := ⟨⟨RX0, TX0, 14, rfl, by decide, rfl, Or.inl (ce_t (i := 74) (by decide +kernel))⟩, by decide +kernel⟩
theorem pRX0_9 : ce_PF RX0 9 0 2 := ⟨fRX0_9, RX0, TX0, 14, tyX0 2, rfl, by decide, rfl, rfl, rfl, by decide +kernel, fun _ => ⟨rfl, rfl⟩, ce_t (i := 74) (by decide +kernel)⟩
theorem fRX0_15 : ce_FR RX0 15 0 3 := ⟨⟨RX0, TX0, 14, rfl, by decide, rfl, Or.inl (ce_t (i := 75) (by decide +kernel))⟩, by decide +kernel⟩
theorem pRX0_15 : ce_PF RX0 15 0 3 := ⟨fRX0_15, RX0, TX0, 14, tyX0 3, rfl, by decide, rfl, rfl, rfl, by decide +kernel, fun _ => ⟨rfl, rfl⟩, ce_t (i := 75) (by decide +kernel)⟩
theorem fRX0_18 : ce_FR RX0 18 0 4 := ⟨⟨RX0, TX0, 14, rfl, by decide, rfl, Or.inl (ce_t (i := 76) (by decide +kernel))⟩, by decide +kernel⟩
theorem pRX0_18 : ce_PF RX0 18 0 4 := ⟨fRX0_18, RX0, TX0, 14, tyX0 4, rfl, by decide, rfl, rfl, rfl, by decide +kernel, fun _ => ⟨rfl, rfl⟩, ce_t (i := 76) (by decide +kernel)⟩
theorem fRX0_21 : ce_FR RX0 21 0 5 := ⟨⟨RX0, TX0, 14, rfl, by decide, rfl, Or.inl (ce_t (i := 77) (by decide +kernel))⟩, by decide +kernel⟩
theorem pRX0_21 : ce_PF RX0 21 0 5 := ⟨fRX0_21, RX0, TX0, 14, tyX0 5, rfl, by decide, rfl, rfl, rfl, by decide +kernel, fun _ => ⟨rfl, rfl⟩, ce_t (i := 77) (by decide +kernel)⟩
theorem fRX0_24 : ce_FR RX0 24 0 6 := ⟨⟨RX0, TX0, 14, rfl, by decide, rfl, Or.inl (ce_t (i := 78) (by decide +kernel))⟩, by decide +kernel⟩
theorem pRX0_24 : ce_PF RX0 24 0 6 := ⟨fRX0_24, RX0, TX0, 14, tyX0 6, rfl, by decide, rfl, rfl, rfl, by decide +kernel, fun _ => ⟨rfl, rfl⟩, ce_t (i := 78) (by decide +kernel)⟩
theorem fRX0_27 : ce_FR RX0 27 0 7 := ⟨⟨RX0, TX0, 14, rfl, by decide, rfl, Or.inl (ce_t (i := 79) (by decide +kernel))⟩, by decide +kernel⟩
theorem pRX0_27 : ce_PF RX0 27 0 7 := ⟨fRX0_27, RX0, TX0, 14, tyX0 7, rfl, by decide, rfl, rfl, rfl, by decide +kernel, fun _ => ⟨rfl, rfl⟩, ce_t (i := 79) (by decide +kernel)⟩
theorem fRX7_200 : ce_FR RX7 200 0 7 := ⟨⟨RX0, TX0, 14, rfl, by decide, rfl, Or.inr ⟨"CellarClub", ce_t (i := 80) (by decide +kernel)⟩⟩, by decide +kernel⟩
theorem fRX0_30 : ce_FR RX0 30 0 8 := ⟨⟨RX0, TX0, 14, rfl, by decide, rfl, Or.inl (ce_t (i := 81) (by decide +kernel))⟩, by decide +kernel⟩
theorem pRX0_30 : ce_PF RX0 30 0 8 := ⟨fRX0_30, RX0, TX0, 14, tyX0 8, rfl, by decide, rfl, rfl, rfl, by decide +kernel, fun _ => ⟨rfl, rfl⟩, ce_t (i := 81) (by decide +kernel)⟩
theorem fRX0_36 : ce_FR RX0 36 0 9 := ⟨⟨RX0, TX0, 14, rfl, by decide, rfl, Or.inl (ce_t (i := 82) (by decide +kernel))⟩, by decide +kernel⟩
theorem pRX0_36 : ce_PF RX0 36 0 9 := ⟨fRX0_36, RX0, TX0, 14, tyX0 9, rfl, by decide, rfl, rfl, rfl, by decide +kernel, fun _ => ⟨rfl, rfl⟩, ce_t (i := 82) (by decide +kernel)⟩
theorem fRX7_228 : ce_FR RX7 228 0 9 := ⟨⟨RX0, TX0, 14, rfl, by decide, rfl, Or.inr ⟨"CellarClub", ce_t (i := 83) (by decide +kernel)⟩⟩, by decide +kernel⟩
theorem fRX0_40 : ce_FR RX0 40 0 10 := ⟨⟨RX0, TX0, 14, rfl, by decide, rfl, Or.inl (ce_t (i := 84) (by decide +kernel))⟩, by decide +kernel⟩
theorem pRX0_40 : ce_PF RX0 40 0 10 := ⟨fRX0_40, RX0, TX0, 14, tyX0 10, rfl, by decide, rfl, rfl, rfl, by decide +kernel, fun _ => ⟨rfl, rfl⟩, ce_t (i := 84) (by decide +kernel)⟩
theorem fRX7_213 : ce_FR RX7 213 0 10 := ⟨⟨RX0, TX0, 14, rfl, by decide, rfl, Or.inr ⟨"CellarClub", ce_t (i := 85) (by decide +kernel)⟩⟩, by decide +kernel⟩
theorem fRX0_43 : ce_FR RX0 43 0 11 := ⟨⟨RX0, TX0, 14, rfl, by decide, rfl, Or.inl (ce_t (i := 86) (by decide +kernel))⟩, by decide +kernel⟩
theorem pRX0_43 : ce_PF RX0 43 0 11 := ⟨fRX0_43, RX0, TX0, 14, tyX0 11, rfl, by decide, rfl, rfl, rfl, by decide +kernel, fun _ => ⟨rfl, rfl⟩, ce_t (i := 86) (by decide +kernel)⟩
theorem fRX2_38 : ce_FR RX2 38 0 11 := ⟨⟨RX0, TX0, 14, rfl, by decide, rfl, Or.inr ⟨"CellarClub", ce_t (i := 87) (by decide +kernel)⟩⟩, by decide +kernel⟩
theorem fRX4_50 : ce_FR RX4 50 0 11 := ⟨⟨RX0, TX0, 14, rfl, by decide, rfl, Or.inr ⟨"CellarClub", ce_t (i := 88) (by decide +kernel)⟩⟩, by decide +kernel⟩
theorem fRX7_249 : ce_FR RX7 249 0 11 := ⟨⟨RX0, TX0, 14, rfl, by decide, rfl, Or.inr ⟨"CellarClub", ce_t (i := 89) (by decide +kernel)⟩⟩, by decide +kernel⟩
theorem fRX0_46 : ce_FR RX0 46 0 12 := ⟨⟨RX0, TX0, 14, rfl, by decide, rfl, Or.inl (ce_t (i := 90) (by decide +kernel))⟩, by decide +kernel⟩
theorem pRX0_46 : ce_PF RX0 46 0 12 := ⟨fRX0_46, RX0, TX0, 14, tyX0 12, rfl, by decide, rfl, rfl, rfl, by decide +kernel, fun _ => ⟨rfl, rfl⟩, ce_t (i := 90) (by decide +kernel)⟩
theorem fRX0_52 : ce_FR RX0 52 0 13 := ⟨⟨RX0, TX0, 14, rfl, by decide, rfl, Or.inl (ce_t (i := 91) (by decide +kernel))⟩, by decide +kernel⟩
theorem pRX0_52 : ce_PF RX0 52 0 13 := ⟨fRX0_52, RX0, TX0, 14, tyX0 13, rfl, by decide, rfl, rfl, rfl, by decide +kernel, fun _ => ⟨rfl, rfl⟩, ce_t (i := 91) (by decide +kernel)⟩
theorem fRX2_19 : ce_FR RX2 19 0 13 := ⟨⟨RX0, TX0, 14, rfl, by decide, rfl, Or.inr ⟨"CellarClub", ce_t (i := 92) (by decide +kernel)⟩⟩, by decide +kernel⟩
theorem fRX4_60 : ce_FR RX4 60 0 13 := ⟨⟨RX0, TX0, 14, rfl, by decide, rfl, Or.inr ⟨"CellarClub", ce_t (i := 93) (by decide +kernel)⟩⟩, by decide +kernel⟩
theorem fRX7_107 : ce_FR RX7 107 0 13 := ⟨⟨RX0, TX0, 14, rfl, by decide, rfl, Or.inr ⟨"CellarClub", ce_t (i := 94) (by decide +kernel)⟩⟩, by decide +kernel⟩
theorem fRX6_71 : ce_FR RX6 71 0 13 := ⟨⟨RX0, TX0, 14, rfl, by decide, rfl, Or.inr ⟨"CellarClub", ce_t (i := 95) (by decide +kernel)⟩⟩, by decide +kernel⟩
theorem fRX6_9 : ce_FR RX6 9 6 0 := ⟨⟨RX6, TX6, 5, rfl, by decide, rfl, Or.inl (ce_t (i := 133) (by decide +kernel))⟩, by decide +kernel⟩
theorem pRX6_9 : ce_PF RX6 9 6 0 := ⟨fRX6_9, RX6, TX6, 5, tyX6 0, rfl, by decide, rfl, rfl, rfl, by decide +kernel, fun _ => ⟨rfl, rfl⟩, ce_t (i := 133) (by decide +kernel)⟩
theorem fRX6_25 : ce_FI RX6 25 6 1 := ⟨⟨RX6, TX6, 5, rfl, by decide, rfl, Or.inl (ce_t (i := 134) (by decide +kernel))⟩, by decide +kernel⟩
theorem pRX6_25 : ce_PI RX6 25 6 1 .int := ⟨fRX6_25, _, rfl, rfl, by decide +kernel⟩
theorem fRX6_33 : ce_FI RX6 33 6 2 := ⟨⟨RX6, TX6, 5, rfl, by decide, rfl, Or.inl (ce_t (i := 135) (by decide +kernel))⟩, by decide +kernel⟩
theorem pRX6_33 : ce_PI RX6 33 6 2 .int := ⟨fRX6_33, _, rfl, rfl, by decide +kernel⟩
theorem fRX6_18 : ce_FR RX6 18 6 3 := ⟨⟨RX6, TX6, 5, rfl, by decide, rfl, Or.inl (ce_t (i := 136) (by decide +kernel))⟩, by decide +kernel⟩
theorem pRX6_18 : ce_PF RX6 18 6 3 := ⟨fRX6_18, RX6, TX6, 5, tyX6 3, rfl, by decide, rfl, rfl, rfl, by decide +kernel, fun _ => ⟨rfl, rfl⟩, ce_t (i := 136) (by decide +kernel)⟩
theorem fRX7_72 : ce_FR RX7 72 6 3 := ⟨⟨RX6, TX6, 5, rfl, by decide, rfl, Or.inr ⟨"CellarClub", ce_t (i := 137) (by decide +kernel)⟩⟩, by decide +kernel⟩
theorem fRX6_22 : ce_FR RX6 22 6 4 := ⟨⟨RX6, TX6, 5, rfl, by decide, rfl, Or.inl (ce_t (i := 138) (by decide +kernel))⟩, by decide +kernel⟩
theorem pRX6_22 : ce_PF RX6 22 6 4 := ⟨fRX6_22, RX6, TX6, 5, tyX6 4, rfl, by decide, rfl, rfl, rfl, by decide +kernel, fun _ => ⟨rfl, rfl⟩, ce_t (i := 138) (by decide +kernel)⟩
theorem fRX1_11 : ce_FR RX1 11 1 0 := ⟨⟨RX1, TX1, 2, rfl, by decide, rfl, Or.inl (ce_t (i := 160) (by decide +kernel))⟩, by decide +kernel⟩
theorem pRX1_11 : ce_PF RX1 11 1 0 := ⟨fRX1_11, RX1, TX1, 2, tyX1 0, rfl, by decide, rfl, rfl, rfl, by decide +kernel, fun _ => ⟨rfl, rfl⟩, ce_t (i := 160) (by decide +kernel)⟩
theorem fRX1_18 : ce_FI RX1 18 1 1 := ⟨⟨RX1, TX1, 2, rfl, by decide, rfl, Or.inl (ce_t (i := 161) (by decide +kernel))⟩, by decide +kernel⟩
theorem pRX1_18 : ce_PI RX1 18 1 1 .int := ⟨fRX1_18, _, rfl, rfl, by decide +kernel⟩
theorem fRX7_193 : ce_FI RX7 193 1 1 := ⟨⟨RX1, TX1, 2, rfl, by decide, rfl, Or.inr ⟨"CellarClub", ce_t (i := 162) (by decide +kernel)⟩⟩, by decide +kernel⟩
theorem pRX7_193 : ce_PI RX7 193 1 1 .int := ⟨fRX7_193, _, rfl, rfl, by decide +kernel⟩
theorem fRX4_12 : ce_FR RX4 12 4 0 := ⟨⟨RX4, TX4, 1, rfl, by decide, rfl, Or.inl (ce_t (i := 176) (by decide +kernel))⟩, by decide +kernel⟩
theorem pRX4_12 : ce_PF RX4 12 4 0 := ⟨fRX4_12, RX4, TX4, 1, tyX4 0, rfl, by decide, rfl, rfl, rfl, by decide +kernel, fun _ => ⟨rfl, rfl⟩, ce_t (i := 176) (by decide +kernel)⟩
theorem fRX7_210 : ce_FR RX7 210 4 0 := ⟨⟨RX4, TX4, 1, rfl, by decide, rfl, Or.inr ⟨"CellarClub", ce_t (i := 177) (by decide +kernel)⟩⟩, by decide +kernel⟩
theorem fRX2_9 : ce_FR RX2 9 2 0 := ⟨⟨RX2, TX2, 2, rfl, by decide, rfl, Or.inl (ce_t (i := 187) (by decide +kernel))⟩, by decide +kernel⟩
theorem pRX2_9 : ce_PF RX2 9 2 0 := ⟨fRX2_9, RX2, TX2, 2, tyX2 0, rfl, by decide, rfl, rfl, rfl, by decide +kernel, fun _ => ⟨rfl, rfl⟩, ce_t (i := 187) (by decide +kernel)⟩
theorem fRX2_15 : ce_FR RX2 15 2 1 := ⟨⟨RX2, TX2, 2, rfl, by decide, rfl, Or.inl (ce_t (i := 188) (by decide +kernel))⟩, by decide +kernel⟩
theorem pRX2_15 : ce_PF RX2 15 2 1 := ⟨fRX2_15, RX2, TX2, 2, tyX2 1, rfl, by decide, rfl, rfl, rfl, by decide +kernel, fun _ => ⟨rfl, rfl⟩, ce_t (i := 188) (by decide +kernel)⟩
theorem fRX7_10 : ce_FR RX7 10 7 0 := ⟨⟨RX7, TX7, 7, rfl, by decide, rfl, Or.inl (ce_t (i := 195) (by decide +kernel))⟩, by decide +kernel⟩
theorem pRX7_10 : ce_PF RX7 10 7 0 := ⟨fRX7_10, RX7, TX7, 7, tyX7 0, rfl, by decide, rfl, rfl, rfl, by decide +kernel, fun _ => ⟨rfl, rfl⟩, ce_t (i := 195) (by decide +kernel)⟩
theorem fRX7_19 : ce_FR RX7 19 7 1 := ⟨⟨RX7, TX7, 7, rfl, by decide, rfl, Or.inl (ce_t (i := 196) (by decide +kernel))⟩, by decide +kernel⟩
theorem pRX7_19 : ce_PF RX7 19 7 1 := ⟨fRX7_19, RX7, TX7, 7, tyX7 1, rfl, by decide, rfl, rfl, rfl, by decide +kernel, fun _ => ⟨rfl, rfl⟩, ce_t (i := 196) (by decide +kernel)⟩
theorem fRX7_26 : ce_FR RX7 26 7 2 := ⟨⟨RX7, TX7, 7, rfl, by decide, rfl, Or.inl (ce_t (i := 197) (by decide +kernel))⟩, by decide +kernel⟩
theorem pRX7_26 : ce_PF RX7 26 7 2 := ⟨fRX7_26, RX7, TX7, 7, tyX7 2, rfl, by decide, rfl, rfl, rfl, by decide +kernel, fun _ => ⟨rfl, rfl⟩, ce_t (i := 197) (by decide +kernel)⟩
theorem fRX7_33 : ce_FR RX7 33 7 3 := ⟨⟨RX7, TX7, 7, rfl, by decide, rfl, Or.inl (ce_t (i := 198) (by decide +kernel))⟩, by decide +kernel⟩
theorem pRX7_33 : ce_PF RX7 33 7 3 := ⟨fRX7_33, RX7, TX7, 7, tyX7 3, rfl, by decide, rfl, rfl, rfl, by decide +kernel, fun _ => ⟨rfl, rfl⟩, ce_t (i := 198) (by decide +kernel)⟩
theorem fRX7_40 : ce_FR RX7 40 7 4 := ⟨⟨RX7, TX7, 7, rfl, by decide, rfl, Or.inl (ce_t (i := 199) (by decide +kernel))⟩, by decide +kernel⟩
theorem pRX7_40 : ce_PF RX7 40 7 4 := ⟨fRX7_40, RX7, TX7, 7, tyX7 4, rfl, by decide, rfl, rfl, rfl, by decide +kernel, fun _ => ⟨rfl, rfl⟩, ce_t (i := 199) (by decide +kernel)⟩
theorem fRX7_44 : ce_FR RX7 44 7 5 := ⟨⟨RX7, TX7, 7, rfl, by decide, rfl, Or.inl (ce_t (i := 200) (by decide +kernel))⟩, by decide +kernel⟩
theorem pRX7_44 : ce_PF RX7 44 7 5 := ⟨fRX7_44, RX7, TX7, 7, tyX7 5, rfl, by decide, rfl, rfl, rfl, by decide +kernel, fun _ => ⟨rfl, rfl⟩, ce_t (i := 200) (by decide +kernel)⟩
theorem fRX7_48 : ce_FR RX7 48 7 6 := ⟨⟨RX7, TX7, 7, rfl, by decide, rfl, Or.inl (ce_t (i := 201) (by decide +kernel))⟩, by decide +kernel⟩
theorem pRX7_48 : ce_PF RX7 48 7 6 := ⟨fRX7_48, RX7, TX7, 7, tyX7 6, rfl, by decide, rfl, rfl, rfl, by decide +kernel, fun _ => ⟨rfl, rfl⟩, ce_t (i := 201) (by decide +kernel)⟩
theorem wn_X7 : Cond.initialized RX7 ∈ lw_tbl := ce_t (i := 1) (by decide +kernel)
theorem wn_X0 : Cond.initialized RX0 ∈ lw_tbl := ce_t (i := 2) (by decide +kernel)
theorem wn_X5 : Cond.initialized RX5 ∈ lw_tbl := ce_t (i := 3) (by decide +kernel)
theorem wn_X3 : Cond.initialized RX3 ∈ lw_tbl := ce_t (i := 4) (by decide +kernel)
theorem wn_X6 : Cond.initialized RX6 ∈ lw_tbl := ce_t (i := 5) (by decide +kernel)
theorem wn_X1 : Cond.initialized RX1 ∈ lw_tbl := ce_t (i := 6) (by decide +kernel)
theorem wn_X4 : Cond.initialized RX4 ∈ lw_tbl := ce_t (i := 7) (by decide +kernel)
theorem wn_X2 : Cond.initialized RX2 ∈ lw_tbl := ce_t (i := 8) (by decide +kernel)
theorem wn_Exception : Cond.initialized "java/lang/Exception" ∈ lw_tbl := ce_t (i := 10) (by decide +kernel)
theorem wn_RuntimeException : Cond.initialized "java/lang/RuntimeException" ∈ lw_tbl := ce_t (i := 11) (by decide +kernel)
theorem wn_IndexOutOfBoundsException : Cond.initialized "java/lang/IndexOutOfBoundsException" ∈ lw_tbl := ce_t (i := 12) (by decide +kernel)
theorem wn_IllegalArgumentException : Cond.initialized "java/lang/IllegalArgumentException" ∈ lw_tbl := ce_t (i := 13) (by decide +kernel)
theorem wn_IllegalStateException : Cond.initialized "java/lang/IllegalStateException" ∈ lw_tbl := ce_t (i := 14) (by decide +kernel)
theorem kRL_10 : Cond.classLink RL 10 "CellarClub" ∈ lw_tbl := ce_t (i := 18) (by decide +kernel)
theorem wi_X7 : Cond.instantiable RX7 7 ∈ lw_tbl := ce_t (i := 19) (by decide +kernel)
theorem kRX7_7 : Cond.classLink RX7 7 "CellarClub$Club" ∈ lw_tbl := ce_t (i := 26) (by decide +kernel)
theorem wi_X0 : Cond.instantiable RX0 14 ∈ lw_tbl := ce_t (i := 27) (by decide +kernel)
theorem kRX0_33 : Cond.classLink RX0 33 "CellarClub$Table" ∈ lw_tbl := ce_t (i := 32) (by decide +kernel)
theorem wi_X5 : Cond.instantiable RX5 1 ∈ lw_tbl := ce_t (i := 33) (by decide +kernel)
theorem wa_int : Cond.arrayClass .int ∈ lw_tbl := ce_t (i := 42) (by decide +kernel)
theorem kRX0_49 : Cond.classLink RX0 49 "CellarClub$Rack" ∈ lw_tbl := ce_t (i := 43) (by decide +kernel)
theorem wi_X3 : Cond.instantiable RX3 4 ∈ lw_tbl := ce_t (i := 44) (by decide +kernel)
theorem kRX7_16 : Cond.classLink RX7 16 "CellarClub$Text" ∈ lw_tbl := ce_t (i := 125) (by decide +kernel)
theorem wi_X6 : Cond.instantiable RX6 5 ∈ lw_tbl := ce_t (i := 126) (by decide +kernel)
theorem kRX6_15 : Cond.classLink RX6 15 "CellarClub$Club" ∈ lw_tbl := ce_t (i := 131) (by decide +kernel)
theorem wa_char : Cond.arrayClass .char ∈ lw_tbl := ce_t (i := 150) (by decide +kernel)
theorem kRX7_23 : Cond.classLink RX7 23 "CellarClub$History" ∈ lw_tbl := ce_t (i := 151) (by decide +kernel)
theorem wi_X1 : Cond.instantiable RX1 2 ∈ lw_tbl := ce_t (i := 152) (by decide +kernel)
theorem kRX1_9 : Cond.classLink RX1 9 "CellarClub$Club" ∈ lw_tbl := ce_t (i := 157) (by decide +kernel)
theorem kRX7_30 : Cond.classLink RX7 30 "CellarClub$Rehearsal" ∈ lw_tbl := ce_t (i := 168) (by decide +kernel)
theorem wi_X4 : Cond.instantiable RX4 1 ∈ lw_tbl := ce_t (i := 169) (by decide +kernel)
theorem kRX4_9 : Cond.classLink RX4 9 "CellarClub$Club" ∈ lw_tbl := ce_t (i := 174) (by decide +kernel)
theorem kRX7_37 : Cond.classLink RX7 37 "CellarClub$Packing" ∈ lw_tbl := ce_t (i := 181) (by decide +kernel)
theorem wi_X2 : Cond.instantiable RX2 2 ∈ lw_tbl := ce_t (i := 182) (by decide +kernel)
theorem wa_boolean : Cond.arrayClass .boolean ∈ lw_tbl := ce_t (i := 194) (by decide +kernel)
theorem kRL_7 : Cond.constant RL 7 (15593429 : Int32) ∈ lw_tbl := ce_t (i := 220) (by decide +kernel)
theorem kRL_8 : Cond.constant RL 8 (2147483647 : Int32) ∈ lw_tbl := ce_t (i := 221) (by decide +kernel)
theorem kRL_19 : Cond.classLink RL 19 "java/lang/IllegalStateException" ∈ lw_tbl := ce_t (i := 225) (by decide +kernel)
theorem kRX6_40 : Cond.constant RX6 40 (-99999 : Int32) ∈ lw_tbl := ce_t (i := 269) (by decide +kernel)
theorem kRX3_25 : Cond.constant RX3 25 (-99999 : Int32) ∈ lw_tbl := ce_t (i := 290) (by decide +kernel)
theorem kRX7_71 : Cond.constant RX7 71 (-99999 : Int32) ∈ lw_tbl := ce_t (i := 307) (by decide +kernel)
theorem kRX7_264 : Cond.classLink RX7 264 "java/lang/IndexOutOfBoundsException" ∈ lw_tbl := ce_t (i := 311) (by decide +kernel)
theorem wc_IndexOutOfBoundsException : Cond.castable "java/lang/IndexOutOfBoundsException" "java/lang/IndexOutOfBoundsException" ∈ lw_tbl := ce_t (i := 313) (by decide +kernel)
theorem wa_byte : Cond.arrayClass .byte ∈ lw_tbl := ce_t (i := 378) (by decide +kernel)
theorem kRX7_271 : Cond.classLink RX7 271 "java/lang/IllegalArgumentException" ∈ lw_tbl := ce_t (i := 379) (by decide +kernel)
theorem wc_IllegalArgumentException : Cond.castable "java/lang/IllegalArgumentException" "java/lang/IllegalArgumentException" ∈ lw_tbl := ce_t (i := 381) (by decide +kernel)
theorem kRX7_276 : Cond.classLink RX7 276 "java/lang/IllegalStateException" ∈ lw_tbl := ce_t (i := 395) (by decide +kernel)
theorem wc_IllegalStateException : Cond.castable "java/lang/IllegalStateException" "java/lang/IllegalStateException" ∈ lw_tbl := ce_t (i := 397) (by decide +kernel)
theorem kRL_21 : Cond.constantLong RL 21 (-9000000000000000003 : Int64) ∈ lw_tbl := ce_t (i := 416) (by decide +kernel)
theorem kRL_34 : Cond.classLink RL 34 "java/lang/IndexOutOfBoundsException" ∈ lw_tbl := ce_t (i := 420) (by decide +kernel)
theorem kRL_36 : Cond.constantLong RL 36 (-9000000000000000001 : Int64) ∈ lw_tbl := ce_t (i := 435) (by decide +kernel)
theorem kRL_108 : Cond.constantLong RL 108 (53 : Int64) ∈ lw_tbl := ce_t (i := 453) (by decide +kernel)
theorem kRL_110 : Cond.constantLong RL 110 (31 : Int64) ∈ lw_tbl := ce_t (i := 454) (by decide +kernel)
theorem kRL_15 : Cond.classLink RL 15 "java/lang/IllegalArgumentException" ∈ lw_tbl := ce_t (i := 458) (by decide +kernel)
theorem kRL_17 : Cond.constantLong RL 17 (-9000000000000000002 : Int64) ∈ lw_tbl := ce_t (i := 484) (by decide +kernel)
theorem kRL_120 : Cond.constantLong RL 120 (3 : Int64) ∈ lw_tbl := ce_t (i := 505) (by decide +kernel)
theorem kRL_125 : Cond.constantLong RL 125 (9 : Int64) ∈ lw_tbl := ce_t (i := 526) (by decide +kernel)
theorem kRX0_109 : Cond.constant RX0 109 (-99999 : Int32) ∈ lw_tbl := ce_t (i := 706) (by decide +kernel)
theorem kRL_160 : Cond.constantLong RL 160 (-99999 : Int64) ∈ lw_tbl := ce_t (i := 795) (by decide +kernel)
theorem kRL_166 : Cond.constantLong RL 166 (59 : Int64) ∈ lw_tbl := ce_t (i := 811) (by decide +kernel)
theorem kRX7_281 : Cond.constantLong RX7 281 (100000 : Int64) ∈ lw_tbl := ce_t (i := 822) (by decide +kernel)
theorem kRL_172 : Cond.constantLong RL 172 (1000000000000000 : Int64) ∈ lw_tbl := ce_t (i := 870) (by decide +kernel)
theorem kRX7_242 : Cond.constantLong RX7 242 (6364136223846793005 : Int64) ∈ lw_tbl := ce_t (i := 878) (by decide +kernel)
theorem kRX7_244 : Cond.constantLong RX7 244 (1442695040888963407 : Int64) ∈ lw_tbl := ce_t (i := 879) (by decide +kernel)
theorem kRL_183 : Cond.constantLong RL 183 (6 : Int64) ∈ lw_tbl := ce_t (i := 903) (by decide +kernel)
theorem kRL_189 : Cond.constantLong RL 189 (8 : Int64) ∈ lw_tbl := ce_t (i := 907) (by decide +kernel)
theorem kRL_191 : Cond.constantLong RL 191 (2 : Int64) ∈ lw_tbl := ce_t (i := 908) (by decide +kernel)
theorem kRJ6_265 : Cond.constant RJ6 265 (1431655765 : Int32) ∈ lw_tbl := ce_t (i := 933) (by decide +kernel)
theorem kRJ6_266 : Cond.constant RJ6 266 (858993459 : Int32) ∈ lw_tbl := ce_t (i := 934) (by decide +kernel)
theorem kRJ6_267 : Cond.constant RJ6 267 (252645135 : Int32) ∈ lw_tbl := ce_t (i := 935) (by decide +kernel)
theorem wa_long : Cond.arrayClass .long ∈ lw_tbl := ce_t (i := 937) (by decide +kernel)
theorem kRL_196 : Cond.constantLong RL 196 (999 : Int64) ∈ lw_tbl := ce_t (i := 941) (by decide +kernel)
theorem kRL_200 : Cond.constantLong RL 200 (60 : Int64) ∈ lw_tbl := ce_t (i := 953) (by decide +kernel)
theorem kRL_205 : Cond.constantLong RL 205 (201003010080000 : Int64) ∈ lw_tbl := ce_t (i := 961) (by decide +kernel)
theorem kRL_207 : Cond.constantLong RL 207 (6000090000 : Int64) ∈ lw_tbl := ce_t (i := 962) (by decide +kernel)
theorem kRL_219 : Cond.constant RL 219 (-99999 : Int32) ∈ lw_tbl := ce_t (i := 980) (by decide +kernel)
theorem kRL_248 : Cond.constant RL 248 (83003 : Int32) ∈ lw_tbl := ce_t (i := 984) (by decide +kernel)
theorem wx_nat : Cond.native arraycopyName ∈ lw_tbl := ce_t (i := 246) (by decide +kernel)
theorem wx_stat : Cond.static arraycopyName ∈ lw_tbl := ce_t (i := 245) (by decide +kernel)
theorem wx_sys : Cond.initialized "java/lang/System" ∈ lw_tbl := ce_t (i := 16) (by decide +kernel)
theorem wx_oi : Cond.instanceMethod Lib.objectInit ∈ lw_tbl := ce_t (i := 24) (by decide +kernel)
theorem wx_oc : Cond.code Lib.objectInit ⟨#[0xb1]⟩ 1 none ∈ lw_tbl := ce_t (i := 25) (by decide +kernel)
