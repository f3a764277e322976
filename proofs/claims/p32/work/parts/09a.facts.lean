/-- a word of the tables by its place -/
theorem ce_t {w : Cond} {i : Nat} (h : tables_1[i]? = some w) : w ∈ lw_tbl := List.mem_append_right _ (List.mem_of_getElem? h)
theorem ce_s {w : Cond} {i : Nat} (h : (k2_sels lw_privs)[i]? = some w) : w ∈ lw_tbl := List.mem_append_left _ (List.mem_of_getElem? h)
abbrev mX0_init : ce_Y := (yX0_init, cX0_init, 1, none, [])
theorem hX0_init : ce_MI mX0_init 0 := ⟨⟨by decide +kernel, by decide +kernel, by decide +kernel⟩, rfl, (ce_t (i := 30) (by decide +kernel)), (ce_t (i := 2) (by decide +kernel)), (ce_t (i := 29) (by decide +kernel)), rfl, rfl⟩
abbrev mX0_knowsMember : ce_Y := (yX0_knowsMember, cX0_knowsMember, 2, (some .boolean), [])
theorem hX0_knowsMember : ce_MV mX0_knowsMember 1 := ⟨⟨by decide +kernel, by decide +kernel, by decide +kernel⟩, rfl, (ce_t (i := 495) (by decide +kernel)), (ce_t (i := 2) (by decide +kernel)), (ce_t (i := 493) (by decide +kernel)), (ce_t (i := 494) (by decide +kernel))⟩
abbrev mX0_knowsWine : ce_Y := (yX0_knowsWine, cX0_knowsWine, 2, (some .boolean), [])
theorem hX0_knowsWine : ce_MV mX0_knowsWine 1 := ⟨⟨by decide +kernel, by decide +kernel, by decide +kernel⟩, rfl, (ce_t (i := 521) (by decide +kernel)), (ce_t (i := 2) (by decide +kernel)), (ce_t (i := 519) (by decide +kernel)), (ce_t (i := 520) (by decide +kernel))⟩
abbrev mX0_knowsBoth : ce_Y := (yX0_knowsBoth, cX0_knowsBoth, 3, (some .boolean), [])
theorem hX0_knowsBoth : ce_MV mX0_knowsBoth 2 := ⟨⟨by decide +kernel, by decide +kernel, by decide +kernel⟩, rfl, (ce_t (i := 516) (by decide +kernel)), (ce_t (i := 2) (by decide +kernel)), (ce_t (i := 514) (by decide +kernel)), (ce_t (i := 515) (by decide +kernel))⟩
abbrev mX0_factOfAll : ce_Y := (yX0_factOfAll, cX0_factOfAll, 2, (some .int), [])
theorem hX0_factOfAll : ce_MV mX0_factOfAll 1 := ⟨⟨by decide +kernel, by decide +kernel, by decide +kernel⟩, rfl, (ce_t (i := 469) (by decide +kernel)), (ce_t (i := 2) (by decide +kernel)), (ce_t (i := 467) (by decide +kernel)), (ce_t (i := 468) (by decide +kernel))⟩
abbrev mX0_factOfMember : ce_Y := (yX0_factOfMember, cX0_factOfMember, 3, (some .int), [])
theorem hX0_factOfMember : ce_MV mX0_factOfMember 2 := ⟨⟨by decide +kernel, by decide +kernel, by decide +kernel⟩, rfl, (ce_t (i := 499) (by decide +kernel)), (ce_t (i := 2) (by decide +kernel)), (ce_t (i := 497) (by decide +kernel)), (ce_t (i := 498) (by decide +kernel))⟩
abbrev mX0_factOfWine : ce_Y := (yX0_factOfWine, cX0_factOfWine, 3, (some .int), [])
theorem hX0_factOfWine : ce_MV mX0_factOfWine 2 := ⟨⟨by decide +kernel, by decide +kernel, by decide +kernel⟩, rfl, (ce_t (i := 538) (by decide +kernel)), (ce_t (i := 2) (by decide +kernel)), (ce_t (i := 536) (by decide +kernel)), (ce_t (i := 537) (by decide +kernel))⟩
abbrev mX0_factOfBoth : ce_Y := (yX0_factOfBoth, cX0_factOfBoth, 4, (some .int), [])
theorem hX0_factOfBoth : ce_MV mX0_factOfBoth 3 := ⟨⟨by decide +kernel, by decide +kernel, by decide +kernel⟩, rfl, (ce_t (i := 525) (by decide +kernel)), (ce_t (i := 2) (by decide +kernel)), (ce_t (i := 523) (by decide +kernel)), (ce_t (i := 524) (by decide +kernel))⟩
abbrev mX0_memberFault : ce_Y := (yX0_memberFault, cX0_memberFault, 2, (some .int), [])
theorem hX0_memberFault : ce_MV mX0_memberFault 1 := ⟨⟨by decide +kernel, by decide +kernel, by decide +kernel⟩, rfl, (ce_t (i := 661) (by decide +kernel)), (ce_t (i := 2) (by decide +kernel)), (ce_t (i := 659) (by decide +kernel)), (ce_t (i := 660) (by decide +kernel))⟩
abbrev mX0_enrol : ce_Y := (yX0_enrol, cX0_enrol, 3, (some .int), [])
theorem hX0_enrol : ce_MV mX0_enrol 1 := ⟨⟨by decide +kernel, by decide +kernel, by decide +kernel⟩, rfl, (ce_t (i := 273) (by decide +kernel)), (ce_t (i := 2) (by decide +kernel)), (ce_t (i := 271) (by decide +kernel)), (ce_t (i := 272) (by decide +kernel))⟩
abbrev mX0_wineFault : ce_Y := (yX0_wineFault, cX0_wineFault, 3, (some .int), [])
theorem hX0_wineFault : ce_MV mX0_wineFault 2 := ⟨⟨by decide +kernel, by decide +kernel, by decide +kernel⟩, rfl, (ce_t (i := 673) (by decide +kernel)), (ce_t (i := 2) (by decide +kernel)), (ce_t (i := 671) (by decide +kernel)), (ce_t (i := 672) (by decide +kernel))⟩
abbrev mX0_offer : ce_Y := (yX0_offer, cX0_offer, 4, (some .int), [])
theorem hX0_offer : ce_MV mX0_offer 2 := ⟨⟨by decide +kernel, by decide +kernel, by decide +kernel⟩, rfl, (ce_t (i := 281) (by decide +kernel)), (ce_t (i := 2) (by decide +kernel)), (ce_t (i := 279) (by decide +kernel)), (ce_t (i := 280) (by decide +kernel))⟩
abbrev mX0_orderFault : ce_Y := (yX0_orderFault, cX0_orderFault, 4, (some .int), [])
theorem hX0_orderFault : ce_MV mX0_orderFault 3 := ⟨⟨by decide +kernel, by decide +kernel, by decide +kernel⟩, rfl, (ce_t (i := 605) (by decide +kernel)), (ce_t (i := 2) (by decide +kernel)), (ce_t (i := 603) (by decide +kernel)), (ce_t (i := 604) (by decide +kernel))⟩
abbrev mX0_changeOrder : ce_Y := (yX0_changeOrder, cX0_changeOrder, 5, (some .int), [])
theorem hX0_changeOrder : ce_MV mX0_changeOrder 3 := ⟨⟨by decide +kernel, by decide +kernel, by decide +kernel⟩, rfl, (ce_t (i := 298) (by decide +kernel)), (ce_t (i := 2) (by decide +kernel)), (ce_t (i := 296) (by decide +kernel)), (ce_t (i := 297) (by decide +kernel))⟩
abbrev mX0_allocationFault : ce_Y := (yX0_allocationFault, cX0_allocationFault, 2, (some .int), [])
theorem hX0_allocationFault : ce_MV mX0_allocationFault 1 := ⟨⟨by decide +kernel, by decide +kernel, by decide +kernel⟩, rfl, (ce_t (i := 697) (by decide +kernel)), (ce_t (i := 2) (by decide +kernel)), (ce_t (i := 695) (by decide +kernel)), (ce_t (i := 696) (by decide +kernel))⟩
abbrev mX0_shareOut : ce_Y := (yX0_shareOut, cX0_shareOut, 4, (some .int), [])
theorem hX0_shareOut : ce_MV mX0_shareOut 1 := ⟨⟨by decide +kernel, by decide +kernel, by decide +kernel⟩, rfl, (ce_t (i := 701) (by decide +kernel)), (ce_t (i := 2) (by decide +kernel)), (ce_t (i := 699) (by decide +kernel)), (ce_t (i := 700) (by decide +kernel))⟩
abbrev mX0_nextToGet : ce_Y := (yX0_nextToGet, cX0_nextToGet, 5, (some .int), [])
theorem hX0_nextToGet : ce_MV mX0_nextToGet 1 := ⟨⟨by decide +kernel, by decide +kernel, by decide +kernel⟩, rfl, (ce_t (i := 705) (by decide +kernel)), (ce_t (i := 2) (by decide +kernel)), (ce_t (i := 704) (by decide +kernel)), (ce_s (i := 12) (by decide +kernel))⟩
abbrev mX0_comesBefore : ce_Y := (yX0_comesBefore, cX0_comesBefore, 4, (some .boolean), [])
theorem hX0_comesBefore : ce_MV mX0_comesBefore 3 := ⟨⟨by decide +kernel, by decide +kernel, by decide +kernel⟩, rfl, (ce_t (i := 710) (by decide +kernel)), (ce_t (i := 2) (by decide +kernel)), (ce_t (i := 709) (by decide +kernel)), (ce_s (i := 13) (by decide +kernel))⟩
abbrev mX0_paidAhead : ce_Y := (yX0_paidAhead, cX0_paidAhead, 3, (some .int), [])
theorem hX0_paidAhead : ce_MV mX0_paidAhead 2 := ⟨⟨by decide +kernel, by decide +kernel, by decide +kernel⟩, rfl, (ce_t (i := 714) (by decide +kernel)), (ce_t (i := 2) (by decide +kernel)), (ce_t (i := 713) (by decide +kernel)), (ce_s (i := 14) (by decide +kernel))⟩
abbrev mX0_deliveryFault : ce_Y := (yX0_deliveryFault, cX0_deliveryFault, 2, (some .int), [])
theorem hX0_deliveryFault : ce_MV mX0_deliveryFault 1 := ⟨⟨by decide +kernel, by decide +kernel, by decide +kernel⟩, rfl, (ce_t (i := 726) (by decide +kernel)), (ce_t (i := 2) (by decide +kernel)), (ce_t (i := 724) (by decide +kernel)), (ce_t (i := 725) (by decide +kernel))⟩
abbrev mX0_bringIn : ce_Y := (yX0_bringIn, cX0_bringIn, 5, (some .int), [])
theorem hX0_bringIn : ce_MV mX0_bringIn 1 := ⟨⟨by decide +kernel, by decide +kernel, by decide +kernel⟩, rfl, (ce_t (i := 734) (by decide +kernel)), (ce_t (i := 2) (by decide +kernel)), (ce_t (i := 732) (by decide +kernel)), (ce_t (i := 733) (by decide +kernel))⟩
abbrev mX0_drinkFault : ce_Y := (yX0_drinkFault, cX0_drinkFault, 4, (some .int), [])
theorem hX0_drinkFault : ce_MV mX0_drinkFault 3 := ⟨⟨by decide +kernel, by decide +kernel, by decide +kernel⟩, rfl, (ce_t (i := 618) (by decide +kernel)), (ce_t (i := 2) (by decide +kernel)), (ce_t (i := 616) (by decide +kernel)), (ce_t (i := 617) (by decide +kernel))⟩
abbrev mX0_drinkUp : ce_Y := (yX0_drinkUp, cX0_drinkUp, 4, (some .int), [])
theorem hX0_drinkUp : ce_MV mX0_drinkUp 3 := ⟨⟨by decide +kernel, by decide +kernel, by decide +kernel⟩, rfl, (ce_t (i := 622) (by decide +kernel)), (ce_t (i := 2) (by decide +kernel)), (ce_t (i := 620) (by decide +kernel)), (ce_t (i := 621) (by decide +kernel))⟩
abbrev mX0_giftFault : ce_Y := (yX0_giftFault, cX0_giftFault, 5, (some .int), [])
theorem hX0_giftFault : ce_MV mX0_giftFault 4 := ⟨⟨by decide +kernel, by decide +kernel, by decide +kernel⟩, rfl, (ce_t (i := 646) (by decide +kernel)), (ce_t (i := 2) (by decide +kernel)), (ce_t (i := 644) (by decide +kernel)), (ce_t (i := 645) (by decide +kernel))⟩
abbrev mX0_handOver : ce_Y := (yX0_handOver, cX0_handOver, 5, (some .int), [])
theorem hX0_handOver : ce_MV mX0_handOver 4 := ⟨⟨by decide +kernel, by decide +kernel, by decide +kernel⟩, rfl, (ce_t (i := 650) (by decide +kernel)), (ce_t (i := 2) (by decide +kernel)), (ce_t (i := 648) (by decide +kernel)), (ce_t (i := 649) (by decide +kernel))⟩
abbrev mX0_corkFault : ce_Y := (yX0_corkFault, cX0_corkFault, 3, (some .int), [])
theorem hX0_corkFault : ce_MV mX0_corkFault 2 := ⟨⟨by decide +kernel, by decide +kernel, by decide +kernel⟩, rfl, (ce_t (i := 760) (by decide +kernel)), (ce_t (i := 2) (by decide +kernel)), (ce_t (i := 758) (by decide +kernel)), (ce_t (i := 759) (by decide +kernel))⟩
abbrev mX0_replaceCorked : ce_Y := (yX0_replaceCorked, cX0_replaceCorked, 3, (some .int), [])
theorem hX0_replaceCorked : ce_MV mX0_replaceCorked 2 := ⟨⟨by decide +kernel, by decide +kernel, by decide +kernel⟩, rfl, (ce_t (i := 764) (by decide +kernel)), (ce_t (i := 2) (by decide +kernel)), (ce_t (i := 762) (by decide +kernel)), (ce_t (i := 763) (by decide +kernel))⟩
abbrev mX0_settle : ce_Y := (yX0_settle, cX0_settle, 3, (some .int), [])
theorem hX0_settle : ce_MV mX0_settle 1 := ⟨⟨by decide +kernel, by decide +kernel, by decide +kernel⟩, rfl, (ce_t (i := 775) (by decide +kernel)), (ce_t (i := 2) (by decide +kernel)), (ce_t (i := 773) (by decide +kernel)), (ce_t (i := 774) (by decide +kernel))⟩
abbrev mX0_copyFrom : ce_Y := (yX0_copyFrom, cX0_copyFrom, 2, none, [])
theorem hX0_copyFrom : ce_MV mX0_copyFrom 1 := ⟨⟨by decide +kernel, by decide +kernel, by decide +kernel⟩, rfl, (ce_t (i := 237) (by decide +kernel)), (ce_t (i := 2) (by decide +kernel)), (ce_t (i := 235) (by decide +kernel)), (ce_t (i := 236) (by decide +kernel))⟩
abbrev mX1_init : ce_Y := (yX1_init, cX1_init, 2, none, [])
theorem hX1_init : ce_MI mX1_init 0 := ⟨⟨by decide +kernel, by decide +kernel, by decide +kernel⟩, rfl, (ce_t (i := 155) (by decide +kernel)), (ce_t (i := 6) (by decide +kernel)), (ce_t (i := 154) (by decide +kernel)), rfl, rfl⟩
abbrev mX1_remember : ce_Y := (yX1_remember, cX1_remember, 2, none, [])
theorem hX1_remember : ce_MV mX1_remember 1 := ⟨⟨by decide +kernel, by decide +kernel, by decide +kernel⟩, rfl, (ce_t (i := 577) (by decide +kernel)), (ce_t (i := 6) (by decide +kernel)), (ce_t (i := 575) (by decide +kernel)), (ce_t (i := 576) (by decide +kernel))⟩
abbrev mX1_forgetOldest : ce_Y := (yX1_forgetOldest, cX1_forgetOldest, 3, none, [])
theorem hX1_forgetOldest : ce_MV mX1_forgetOldest 0 := ⟨⟨by decide +kernel, by decide +kernel, by decide +kernel⟩, rfl, (ce_t (i := 581) (by decide +kernel)), (ce_t (i := 6) (by decide +kernel)), (ce_t (i := 580) (by decide +kernel)), (ce_s (i := 8) (by decide +kernel))⟩
abbrev mX1_takeBack : ce_Y := (yX1_takeBack, cX1_takeBack, 2, (some .int), [])
theorem hX1_takeBack : ce_MV mX1_takeBack 1 := ⟨⟨by decide +kernel, by decide +kernel, by decide +kernel⟩, rfl, (ce_t (i := 952) (by decide +kernel)), (ce_t (i := 6) (by decide +kernel)), (ce_t (i := 950) (by decide +kernel)), (ce_t (i := 951) (by decide +kernel))⟩
abbrev mX1_forgetAll : ce_Y := (yX1_forgetAll, cX1_forgetAll, 1, none, [])
theorem hX1_forgetAll : ce_MV mX1_forgetAll 0 := ⟨⟨by decide +kernel, by decide +kernel, by decide +kernel⟩, rfl, (ce_t (i := 415) (by decide +kernel)), (ce_t (i := 6) (by decide +kernel)), (ce_t (i := 413) (by decide +kernel)), (ce_t (i := 414) (by decide +kernel))⟩
abbrev mX2_init : ce_Y := (yX2_init, cX2_init, 1, none, [])
theorem hX2_init : ce_MI mX2_init 0 := ⟨⟨by decide +kernel, by decide +kernel, by decide +kernel⟩, rfl, (ce_t (i := 185) (by decide +kernel)), (ce_t (i := 8) (by decide +kernel)), (ce_t (i := 184) (by decide +kernel)), rfl, rfl⟩
abbrev mX2_fewest : ce_Y := (yX2_fewest, cX2_fewest, 6, (some .int), [])
theorem hX2_fewest : ce_MV mX2_fewest 1 := ⟨⟨by decide +kernel, by decide +kernel, by decide +kernel⟩, rfl, (ce_t (i := 916) (by decide +kernel)), (ce_t (i := 8) (by decide +kernel)), (ce_t (i := 914) (by decide +kernel)), (ce_t (i := 915) (by decide +kernel))⟩
abbrev mX2_measure : ce_Y := (yX2_measure, cX2_measure, 5, none, [])
theorem hX2_measure : ce_MV mX2_measure 2 := ⟨⟨by decide +kernel, by decide +kernel, by decide +kernel⟩, rfl, (ce_t (i := 920) (by decide +kernel)), (ce_t (i := 8) (by decide +kernel)), (ce_t (i := 919) (by decide +kernel)), (ce_s (i := 17) (by decide +kernel))⟩
abbrev mX2_packWine : ce_Y := (yX2_packWine, cX2_packWine, 4, none, [])
theorem hX2_packWine : ce_MV mX2_packWine 2 := ⟨⟨by decide +kernel, by decide +kernel, by decide +kernel⟩, rfl, (ce_t (i := 925) (by decide +kernel)), (ce_t (i := 8) (by decide +kernel)), (ce_t (i := 924) (by decide +kernel)), (ce_s (i := 18) (by decide +kernel))⟩
abbrev mX2_canPack : ce_Y := (yX2_canPack, cX2_canPack, 5, (some .boolean), [])
theorem hX2_canPack : ce_MV mX2_canPack 2 := ⟨⟨by decide +kernel, by decide +kernel, by decide +kernel⟩, rfl, (ce_t (i := 929) (by decide +kernel)), (ce_t (i := 8) (by decide +kernel)), (ce_t (i := 928) (by decide +kernel)), (ce_s (i := 19) (by decide +kernel))⟩
abbrev mX3_init : ce_Y := (yX3_init, cX3_init, 1, none, [])
theorem hX3_init : ce_MI mX3_init 0 := ⟨⟨by decide +kernel, by decide +kernel, by decide +kernel⟩, rfl, (ce_t (i := 47) (by decide +kernel)), (ce_t (i := 4) (by decide +kernel)), (ce_t (i := 46) (by decide +kernel)), rfl, rfl⟩
abbrev mX3_knows : ce_Y := (yX3_knows, cX3_knows, 2, (some .boolean), [])
theorem hX3_knows : ce_MV mX3_knows 1 := ⟨⟨by decide +kernel, by decide +kernel, by decide +kernel⟩, rfl, (ce_t (i := 553) (by decide +kernel)), (ce_t (i := 4) (by decide +kernel)), (ce_t (i := 551) (by decide +kernel)), (ce_t (i := 552) (by decide +kernel))⟩
abbrev mX3_factOf : ce_Y := (yX3_factOf, cX3_factOf, 3, (some .int), [])
theorem hX3_factOf : ce_MV mX3_factOf 2 := ⟨⟨by decide +kernel, by decide +kernel, by decide +kernel⟩, rfl, (ce_t (i := 557) (by decide +kernel)), (ce_t (i := 4) (by decide +kernel)), (ce_t (i := 555) (by decide +kernel)), (ce_t (i := 556) (by decide +kernel))⟩
abbrev mX3_binFault : ce_Y := (yX3_binFault, cX3_binFault, 2, (some .int), [])
theorem hX3_binFault : ce_MV mX3_binFault 1 := ⟨⟨by decide +kernel, by decide +kernel, by decide +kernel⟩, rfl, (ce_t (i := 685) (by decide +kernel)), (ce_t (i := 4) (by decide +kernel)), (ce_t (i := 683) (by decide +kernel)), (ce_t (i := 684) (by decide +kernel))⟩
abbrev mX3_install : ce_Y := (yX3_install, cX3_install, 3, (some .int), [])
theorem hX3_install : ce_MV mX3_install 1 := ⟨⟨by decide +kernel, by decide +kernel, by decide +kernel⟩, rfl, (ce_t (i := 289) (by decide +kernel)), (ce_t (i := 4) (by decide +kernel)), (ce_t (i := 287) (by decide +kernel)), (ce_t (i := 288) (by decide +kernel))⟩
abbrev mX3_emptyBins : ce_Y := (yX3_emptyBins, cX3_emptyBins, 3, (some .int), [])
theorem hX3_emptyBins : ce_MV mX3_emptyBins 0 := ⟨⟨by decide +kernel, by decide +kernel, by decide +kernel⟩, rfl, (ce_t (i := 475) (by decide +kernel)), (ce_t (i := 4) (by decide +kernel)), (ce_t (i := 473) (by decide +kernel)), (ce_t (i := 474) (by decide +kernel))⟩
abbrev mX3_roomIn : ce_Y := (yX3_roomIn, cX3_roomIn, 2, (some .int), [])
theorem hX3_roomIn : ce_MV mX3_roomIn 1 := ⟨⟨by decide +kernel, by decide +kernel, by decide +kernel⟩, rfl, (ce_t (i := 483) (by decide +kernel)), (ce_t (i := 4) (by decide +kernel)), (ce_t (i := 481) (by decide +kernel)), (ce_t (i := 482) (by decide +kernel))⟩
abbrev mX3_roomInAll : ce_Y := (yX3_roomInAll, cX3_roomInAll, 3, (some .int), [])
theorem hX3_roomInAll : ce_MV mX3_roomInAll 0 := ⟨⟨by decide +kernel, by decide +kernel, by decide +kernel⟩, rfl, (ce_t (i := 479) (by decide +kernel)), (ce_t (i := 4) (by decide +kernel)), (ce_t (i := 477) (by decide +kernel)), (ce_t (i := 478) (by decide +kernel))⟩
abbrev mX3_takesWine : ce_Y := (yX3_takesWine, cX3_takesWine, 3, (some .boolean), [])
theorem hX3_takesWine : ce_MV mX3_takesWine 2 := ⟨⟨by decide +kernel, by decide +kernel, by decide +kernel⟩, rfl, (ce_t (i := 573) (by decide +kernel)), (ce_t (i := 4) (by decide +kernel)), (ce_t (i := 571) (by decide +kernel)), (ce_t (i := 572) (by decide +kernel))⟩
abbrev mX3_roomForWine : ce_Y := (yX3_roomForWine, cX3_roomForWine, 4, (some .int), [])
theorem hX3_roomForWine : ce_MV mX3_roomForWine 1 := ⟨⟨by decide +kernel, by decide +kernel, by decide +kernel⟩, rfl, (ce_t (i := 730) (by decide +kernel)), (ce_t (i := 4) (by decide +kernel)), (ce_t (i := 728) (by decide +kernel)), (ce_t (i := 729) (by decide +kernel))⟩
abbrev mX3_lay : ce_Y := (yX3_lay, cX3_lay, 7, none, [])
theorem hX3_lay : ce_MV mX3_lay 2 := ⟨⟨by decide +kernel, by decide +kernel, by decide +kernel⟩, rfl, (ce_t (i := 738) (by decide +kernel)), (ce_t (i := 4) (by decide +kernel)), (ce_t (i := 736) (by decide +kernel)), (ce_t (i := 737) (by decide +kernel))⟩
abbrev mX3_binToFillUp : ce_Y := (yX3_binToFillUp, cX3_binToFillUp, 5, (some .int), [])
theorem hX3_binToFillUp : ce_MV mX3_binToFillUp 1 := ⟨⟨by decide +kernel, by decide +kernel, by decide +kernel⟩, rfl, (ce_t (i := 742) (by decide +kernel)), (ce_t (i := 4) (by decide +kernel)), (ce_t (i := 741) (by decide +kernel)), (ce_s (i := 15) (by decide +kernel))⟩
abbrev mX3_emptyBinFor : ce_Y := (yX3_emptyBinFor, cX3_emptyBinFor, 4, (some .int), [])
theorem hX3_emptyBinFor : ce_MV mX3_emptyBinFor 1 := ⟨⟨by decide +kernel, by decide +kernel, by decide +kernel⟩, rfl, (ce_t (i := 746) (by decide +kernel)), (ce_t (i := 4) (by decide +kernel)), (ce_t (i := 745) (by decide +kernel)), (ce_s (i := 16) (by decide +kernel))⟩
abbrev mX3_suitsBetter : ce_Y := (yX3_suitsBetter, cX3_suitsBetter, 3, (some .boolean), [])
theorem hX3_suitsBetter : ce_MS mX3_suitsBetter 3 := ⟨⟨by decide +kernel, by decide +kernel, by decide +kernel⟩, rfl, (ce_t (i := 749) (by decide +kernel)), (ce_t (i := 4) (by decide +kernel)), (ce_t (i := 748) (by decide +kernel))⟩
abbrev mX3_take : ce_Y := (yX3_take, cX3_take, 7, none, [])
theorem hX3_take : ce_MV mX3_take 2 := ⟨⟨by decide +kernel, by decide +kernel, by decide +kernel⟩, rfl, (ce_t (i := 626) (by decide +kernel)), (ce_t (i := 4) (by decide +kernel)), (ce_t (i := 624) (by decide +kernel)), (ce_t (i := 625) (by decide +kernel))⟩
abbrev mX3_binToTakeFrom : ce_Y := (yX3_binToTakeFrom, cX3_binToTakeFrom, 5, (some .int), [])
theorem hX3_binToTakeFrom : ce_MV mX3_binToTakeFrom 1 := ⟨⟨by decide +kernel, by decide +kernel, by decide +kernel⟩, rfl, (ce_t (i := 630) (by decide +kernel)), (ce_t (i := 4) (by decide +kernel)), (ce_t (i := 629) (by decide +kernel)), (ce_s (i := 11) (by decide +kernel))⟩
abbrev mX3_carryFault : ce_Y := (yX3_carryFault, cX3_carryFault, 4, (some .int), [])
theorem hX3_carryFault : ce_MV mX3_carryFault 3 := ⟨⟨by decide +kernel, by decide +kernel, by decide +kernel⟩, rfl, (ce_t (i := 568) (by decide +kernel)), (ce_t (i := 4) (by decide +kernel)), (ce_t (i := 566) (by decide +kernel)), (ce_t (i := 567) (by decide +kernel))⟩
abbrev mX3_carry : ce_Y := (yX3_carry, cX3_carry, 4, (some .int), [])
theorem hX3_carry : ce_MV mX3_carry 3 := ⟨⟨by decide +kernel, by decide +kernel, by decide +kernel⟩, rfl, (ce_t (i := 586) (by decide +kernel)), (ce_t (i := 4) (by decide +kernel)), (ce_t (i := 584) (by decide +kernel)), (ce_t (i := 585) (by decide +kernel))⟩
abbrev mX3_putInto : ce_Y := (yX3_putInto, cX3_putInto, 4, none, [])
theorem hX3_putInto : ce_MV mX3_putInto 3 := ⟨⟨by decide +kernel, by decide +kernel, by decide +kernel⟩, rfl, (ce_t (i := 590) (by decide +kernel)), (ce_t (i := 4) (by decide +kernel)), (ce_t (i := 589) (by decide +kernel)), (ce_s (i := 9) (by decide +kernel))⟩
abbrev mX3_removeFrom : ce_Y := (yX3_removeFrom, cX3_removeFrom, 3, none, [])
theorem hX3_removeFrom : ce_MV mX3_removeFrom 2 := ⟨⟨by decide +kernel, by decide +kernel, by decide +kernel⟩, rfl, (ce_t (i := 594) (by decide +kernel)), (ce_t (i := 4) (by decide +kernel)), (ce_t (i := 593) (by decide +kernel)), (ce_s (i := 10) (by decide +kernel))⟩
abbrev mX3_copyFrom : ce_Y := (yX3_copyFrom, cX3_copyFrom, 2, none, [])
theorem hX3_copyFrom : ce_MV mX3_copyFrom 1 := ⟨⟨by decide +kernel, by decide +kernel, by decide +kernel⟩, rfl, (ce_t (i := 255) (by decide +kernel)), (ce_t (i := 4) (by decide +kernel)), (ce_t (i := 253) (by decide +kernel)), (ce_t (i := 254) (by decide +kernel))⟩
abbrev mX4_init : ce_Y := (yX4_init, cX4_init, 1, none, [])
theorem hX4_init : ce_MI mX4_init 0 := ⟨⟨by decide +kernel, by decide +kernel, by decide +kernel⟩, rfl, (ce_t (i := 172) (by decide +kernel)), (ce_t (i := 7) (by decide +kernel)), (ce_t (i := 171) (by decide +kernel)), rfl, rfl⟩
abbrev mX4_begin : ce_Y := (yX4_begin, cX4_begin, 2, none, [])
theorem hX4_begin : ce_MV mX4_begin 1 := ⟨⟨by decide +kernel, by decide +kernel, by decide +kernel⟩, rfl, (ce_t (i := 786) (by decide +kernel)), (ce_t (i := 7) (by decide +kernel)), (ce_t (i := 784) (by decide +kernel)), (ce_t (i := 785) (by decide +kernel))⟩
abbrev mX4_obeys : ce_Y := (yX4_obeys, cX4_obeys, 5, (some .boolean), [])
theorem hX4_obeys : ce_MV mX4_obeys 1 := ⟨⟨by decide +kernel, by decide +kernel, by decide +kernel⟩, rfl, (ce_t (i := 829) (by decide +kernel)), (ce_t (i := 7) (by decide +kernel)), (ce_t (i := 827) (by decide +kernel)), (ce_t (i := 828) (by decide +kernel))⟩
abbrev mX4_spendEvening : ce_Y := (yX4_spendEvening, cX4_spendEvening, 5, none, [])
theorem hX4_spendEvening : ce_MV mX4_spendEvening 1 := ⟨⟨by decide +kernel, by decide +kernel, by decide +kernel⟩, rfl, (ce_t (i := 883) (by decide +kernel)), (ce_t (i := 7) (by decide +kernel)), (ce_t (i := 881) (by decide +kernel)), (ce_t (i := 882) (by decide +kernel))⟩
abbrev mX4_orders : ce_Y := (yX4_orders, cX4_orders, 5, (some .boolean), [])
theorem hX4_orders : ce_MV mX4_orders 3 := ⟨⟨by decide +kernel, by decide +kernel, by decide +kernel⟩, rfl, (ce_t (i := 833) (by decide +kernel)), (ce_t (i := 7) (by decide +kernel)), (ce_t (i := 831) (by decide +kernel)), (ce_t (i := 832) (by decide +kernel))⟩
abbrev mX4_allocates : ce_Y := (yX4_allocates, cX4_allocates, 3, (some .boolean), [])
theorem hX4_allocates : ce_MV mX4_allocates 1 := ⟨⟨by decide +kernel, by decide +kernel, by decide +kernel⟩, rfl, (ce_t (i := 791) (by decide +kernel)), (ce_t (i := 7) (by decide +kernel)), (ce_t (i := 789) (by decide +kernel)), (ce_t (i := 790) (by decide +kernel))⟩
abbrev mX4_delivers : ce_Y := (yX4_delivers, cX4_delivers, 3, (some .boolean), [])
theorem hX4_delivers : ce_MV mX4_delivers 1 := ⟨⟨by decide +kernel, by decide +kernel, by decide +kernel⟩, rfl, (ce_t (i := 840) (by decide +kernel)), (ce_t (i := 7) (by decide +kernel)), (ce_t (i := 838) (by decide +kernel)), (ce_t (i := 839) (by decide +kernel))⟩
abbrev mX4_drinks : ce_Y := (yX4_drinks, cX4_drinks, 5, (some .boolean), [])
theorem hX4_drinks : ce_MV mX4_drinks 3 := ⟨⟨by decide +kernel, by decide +kernel, by decide +kernel⟩, rfl, (ce_t (i := 846) (by decide +kernel)), (ce_t (i := 7) (by decide +kernel)), (ce_t (i := 844) (by decide +kernel)), (ce_t (i := 845) (by decide +kernel))⟩
abbrev mX4_gives : ce_Y := (yX4_gives, cX4_gives, 6, (some .boolean), [])
theorem hX4_gives : ce_MV mX4_gives 4 := ⟨⟨by decide +kernel, by decide +kernel, by decide +kernel⟩, rfl, (ce_t (i := 852) (by decide +kernel)), (ce_t (i := 7) (by decide +kernel)), (ce_t (i := 850) (by decide +kernel)), (ce_t (i := 851) (by decide +kernel))⟩
abbrev mX4_corks : ce_Y := (yX4_corks, cX4_corks, 4, (some .boolean), [])
theorem hX4_corks : ce_MV mX4_corks 2 := ⟨⟨by decide +kernel, by decide +kernel, by decide +kernel⟩, rfl, (ce_t (i := 858) (by decide +kernel)), (ce_t (i := 7) (by decide +kernel)), (ce_t (i := 856) (by decide +kernel)), (ce_t (i := 857) (by decide +kernel))⟩
abbrev mX4_moves : ce_Y := (yX4_moves, cX4_moves, 5, (some .boolean), [])
theorem hX4_moves : ce_MV mX4_moves 3 := ⟨⟨by decide +kernel, by decide +kernel, by decide +kernel⟩, rfl, (ce_t (i := 864) (by decide +kernel)), (ce_t (i := 7) (by decide +kernel)), (ce_t (i := 862) (by decide +kernel)), (ce_t (i := 863) (by decide +kernel))⟩
abbrev mX5_init : ce_Y := (yX5_init, cX5_init, 1, none, [])
theorem hX5_init : ce_MI mX5_init 0 := ⟨⟨by decide +kernel, by decide +kernel, by decide +kernel⟩, rfl, (ce_t (i := 36) (by decide +kernel)), (ce_t (i := 3) (by decide +kernel)), (ce_t (i := 35) (by decide +kernel)), rfl, rfl⟩
abbrev mX5_of : ce_Y := (yX5_of, cX5_of, 3, (some .int), [])
theorem hX5_of : ce_MV mX5_of 2 := ⟨⟨by decide +kernel, by decide +kernel, by decide +kernel⟩, rfl, (ce_t (i := 302) (by decide +kernel)), (ce_t (i := 3) (by decide +kernel)), (ce_t (i := 300) (by decide +kernel)), (ce_t (i := 301) (by decide +kernel))⟩
abbrev mX5_put : ce_Y := (yX5_put, cX5_put, 4, none, [])
theorem hX5_put : ce_MV mX5_put 3 := ⟨⟨by decide +kernel, by decide +kernel, by decide +kernel⟩, rfl, (ce_t (i := 306) (by decide +kernel)), (ce_t (i := 3) (by decide +kernel)), (ce_t (i := 304) (by decide +kernel)), (ce_t (i := 305) (by decide +kernel))⟩
abbrev mX5_add : ce_Y := (yX5_add, cX5_add, 4, none, [])
theorem hX5_add : ce_MV mX5_add 3 := ⟨⟨by decide +kernel, by decide +kernel, by decide +kernel⟩, rfl, (ce_t (i := 635) (by decide +kernel)), (ce_t (i := 3) (by decide +kernel)), (ce_t (i := 633) (by decide +kernel)), (ce_t (i := 634) (by decide +kernel))⟩
abbrev mX5_ofMember : ce_Y := (yX5_ofMember, cX5_ofMember, 4, (some .int), [])
theorem hX5_ofMember : ce_MV mX5_ofMember 1 := ⟨⟨by decide +kernel, by decide +kernel, by decide +kernel⟩, rfl, (ce_t (i := 503) (by decide +kernel)), (ce_t (i := 3) (by decide +kernel)), (ce_t (i := 501) (by decide +kernel)), (ce_t (i := 502) (by decide +kernel))⟩
abbrev mX5_ofWine : ce_Y := (yX5_ofWine, cX5_ofWine, 4, (some .int), [])
theorem hX5_ofWine : ce_MV mX5_ofWine 1 := ⟨⟨by decide +kernel, by decide +kernel, by decide +kernel⟩, rfl, (ce_t (i := 542) (by decide +kernel)), (ce_t (i := 3) (by decide +kernel)), (ce_t (i := 540) (by decide +kernel)), (ce_t (i := 541) (by decide +kernel))⟩
abbrev mX5_ofAll : ce_Y := (yX5_ofAll, cX5_ofAll, 1, (some .int), [])
theorem hX5_ofAll : ce_MV mX5_ofAll 0 := ⟨⟨by decide +kernel, by decide +kernel, by decide +kernel⟩, rfl, (ce_t (i := 431) (by decide +kernel)), (ce_t (i := 3) (by decide +kernel)), (ce_t (i := 429) (by decide +kernel)), (ce_t (i := 430) (by decide +kernel))⟩
abbrev mX5_copyFrom : ce_Y := (yX5_copyFrom, cX5_copyFrom, 2, none, [])
theorem hX5_copyFrom : ce_MV mX5_copyFrom 1 := ⟨⟨by decide +kernel, by decide +kernel, by decide +kernel⟩, rfl, (ce_t (i := 250) (by decide +kernel)), (ce_t (i := 3) (by decide +kernel)), (ce_t (i := 248) (by decide +kernel)), (ce_t (i := 249) (by decide +kernel))⟩
abbrev mX6_init : ce_Y := (yX6_init, cX6_init, 1, none, [])
theorem hX6_init : ce_MI mX6_init 0 := ⟨⟨by decide +kernel, by decide +kernel, by decide +kernel⟩, rfl, (ce_t (i := 129) (by decide +kernel)), (ce_t (i := 5) (by decide +kernel)), (ce_t (i := 128) (by decide +kernel)), rfl, rfl⟩
abbrev mX6_addingFault : ce_Y := (yX6_addingFault, cX6_addingFault, 2, (some .int), [])
theorem hX6_addingFault : ce_MV mX6_addingFault 1 := ⟨⟨by decide +kernel, by decide +kernel, by decide +kernel⟩, rfl, (ce_t (i := 895) (by decide +kernel)), (ce_t (i := 5) (by decide +kernel)), (ce_t (i := 893) (by decide +kernel)), (ce_t (i := 894) (by decide +kernel))⟩
abbrev mX6_add : ce_Y := (yX6_add, cX6_add, 2, (some .int), [])
theorem hX6_add : ce_MV mX6_add 1 := ⟨⟨by decide +kernel, by decide +kernel, by decide +kernel⟩, rfl, (ce_t (i := 899) (by decide +kernel)), (ce_t (i := 5) (by decide +kernel)), (ce_t (i := 897) (by decide +kernel)), (ce_t (i := 898) (by decide +kernel))⟩
abbrev mX6_wipe : ce_Y := (yX6_wipe, cX6_wipe, 2, (some .int), [])
theorem hX6_wipe : ce_MV mX6_wipe 0 := ⟨⟨by decide +kernel, by decide +kernel, by decide +kernel⟩, rfl, (ce_t (i := 973) (by decide +kernel)), (ce_t (i := 5) (by decide +kernel)), (ce_t (i := 971) (by decide +kernel)), (ce_t (i := 972) (by decide +kernel))⟩
abbrev mX6_read : ce_Y := (yX6_read, cX6_read, 2, (some .int), [])
theorem hX6_read : ce_MV mX6_read 0 := ⟨⟨by decide +kernel, by decide +kernel, by decide +kernel⟩, rfl, (ce_t (i := 233) (by decide +kernel)), (ce_t (i := 5) (by decide +kernel)), (ce_t (i := 231) (by decide +kernel)), (ce_t (i := 232) (by decide +kernel))⟩
abbrev mX6_readPart : ce_Y := (yX6_readPart, cX6_readPart, 1, (some .boolean), [])
theorem hX6_readPart : ce_MV mX6_readPart 0 := ⟨⟨by decide +kernel, by decide +kernel, by decide +kernel⟩, rfl, (ce_t (i := 260) (by decide +kernel)), (ce_t (i := 5) (by decide +kernel)), (ce_t (i := 259) (by decide +kernel)), (ce_s (i := 0) (by decide +kernel))⟩
abbrev mX6_readMember : ce_Y := (yX6_readMember, cX6_readMember, 2, (some .boolean), [])
theorem hX6_readMember : ce_MV mX6_readMember 0 := ⟨⟨by decide +kernel, by decide +kernel, by decide +kernel⟩, rfl, (ce_t (i := 264) (by decide +kernel)), (ce_t (i := 5) (by decide +kernel)), (ce_t (i := 263) (by decide +kernel)), (ce_s (i := 1) (by decide +kernel))⟩
abbrev mX6_readWine : ce_Y := (yX6_readWine, cX6_readWine, 3, (some .boolean), [])
theorem hX6_readWine : ce_MV mX6_readWine 0 := ⟨⟨by decide +kernel, by decide +kernel, by decide +kernel⟩, rfl, (ce_t (i := 277) (by decide +kernel)), (ce_t (i := 5) (by decide +kernel)), (ce_t (i := 276) (by decide +kernel)), (ce_s (i := 3) (by decide +kernel))⟩
abbrev mX6_readBin : ce_Y := (yX6_readBin, cX6_readBin, 2, (some .boolean), [])
theorem hX6_readBin : ce_MV mX6_readBin 0 := ⟨⟨by decide +kernel, by decide +kernel, by decide +kernel⟩, rfl, (ce_t (i := 285) (by decide +kernel)), (ce_t (i := 5) (by decide +kernel)), (ce_t (i := 284) (by decide +kernel)), (ce_s (i := 4) (by decide +kernel))⟩
abbrev mX6_readOrder : ce_Y := (yX6_readOrder, cX6_readOrder, 4, (some .boolean), [])
theorem hX6_readOrder : ce_MV mX6_readOrder 0 := ⟨⟨by decide +kernel, by decide +kernel, by decide +kernel⟩, rfl, (ce_t (i := 294) (by decide +kernel)), (ce_t (i := 5) (by decide +kernel)), (ce_t (i := 293) (by decide +kernel)), (ce_s (i := 5) (by decide +kernel))⟩
abbrev mX6_readNumber : ce_Y := (yX6_readNumber, cX6_readNumber, 7, (some .int), [])
theorem hX6_readNumber : ce_MV mX6_readNumber 3 := ⟨⟨by decide +kernel, by decide +kernel, by decide +kernel⟩, rfl, (ce_t (i := 268) (by decide +kernel)), (ce_t (i := 5) (by decide +kernel)), (ce_t (i := 267) (by decide +kernel)), (ce_s (i := 2) (by decide +kernel))⟩
abbrev mX7_init : ce_Y := (yX7_init, cX7_init, 2, none, [])
theorem hX7_init : ce_MI mX7_init 0 := ⟨⟨by decide +kernel, by decide +kernel, by decide +kernel⟩, rfl, (ce_t (i := 22) (by decide +kernel)), (ce_t (i := 1) (by decide +kernel)), (ce_t (i := 21) (by decide +kernel)), rfl, rfl⟩
abbrev mX7_append : ce_Y := (yX7_append, cX7_append, 2, (some .int), [])
theorem hX7_append : ce_MV mX7_append 1 := ⟨⟨by decide +kernel, by decide +kernel, by decide +kernel⟩, rfl, (ce_t (i := 891) (by decide +kernel)), (ce_t (i := 1) (by decide +kernel)), (ce_t (i := 889) (by decide +kernel)), (ce_t (i := 890) (by decide +kernel))⟩
abbrev mX7_clearText : ce_Y := (yX7_clearText, cX7_clearText, 1, (some .int), [])
theorem hX7_clearText : ce_MV mX7_clearText 0 := ⟨⟨by decide +kernel, by decide +kernel, by decide +kernel⟩, rfl, (ce_t (i := 969) (by decide +kernel)), (ce_t (i := 1) (by decide +kernel)), (ce_t (i := 967) (by decide +kernel)), (ce_t (i := 968) (by decide +kernel))⟩
abbrev mX7_errorPosition : ce_Y := (yX7_errorPosition, cX7_errorPosition, 1, (some .int), [])
theorem hX7_errorPosition : ce_MV mX7_errorPosition 0 := ⟨⟨by decide +kernel, by decide +kernel, by decide +kernel⟩, rfl, (ce_t (i := 960) (by decide +kernel)), (ce_t (i := 1) (by decide +kernel)), (ce_t (i := 958) (by decide +kernel)), (ce_t (i := 959) (by decide +kernel))⟩
abbrev mX7_load : ce_Y := (yX7_load, cX7_load, 2, (some .int), [])
theorem hX7_load : ce_MV mX7_load 0 := ⟨⟨by decide +kernel, by decide +kernel, by decide +kernel⟩, rfl, (ce_t (i := 229) (by decide +kernel)), (ce_t (i := 1) (by decide +kernel)), (ce_t (i := 227) (by decide +kernel)), (ce_t (i := 228) (by decide +kernel))⟩
abbrev mX7_about : ce_Y := (yX7_about, cX7_about, 2, (some .int), [])
theorem hX7_about : ce_MV mX7_about 1 := ⟨⟨by decide +kernel, by decide +kernel, by decide +kernel⟩, rfl, (ce_t (i := 462) (by decide +kernel)), (ce_t (i := 1) (by decide +kernel)), (ce_t (i := 460) (by decide +kernel)), (ce_t (i := 461) (by decide +kernel))⟩
abbrev mX7_member : ce_Y := (yX7_member, cX7_member, 3, (some .int), [])
theorem hX7_member : ce_MV mX7_member 2 := ⟨⟨by decide +kernel, by decide +kernel, by decide +kernel⟩, rfl, (ce_t (i := 491) (by decide +kernel)), (ce_t (i := 1) (by decide +kernel)), (ce_t (i := 489) (by decide +kernel)), (ce_t (i := 490) (by decide +kernel))⟩
abbrev mX7_wine : ce_Y := (yX7_wine, cX7_wine, 3, (some .int), [])
theorem hX7_wine : ce_MV mX7_wine 2 := ⟨⟨by decide +kernel, by decide +kernel, by decide +kernel⟩, rfl, (ce_t (i := 533) (by decide +kernel)), (ce_t (i := 1) (by decide +kernel)), (ce_t (i := 531) (by decide +kernel)), (ce_t (i := 532) (by decide +kernel))⟩
abbrev mX7_bin : ce_Y := (yX7_bin, cX7_bin, 3, (some .int), [])
theorem hX7_bin : ce_MV mX7_bin 2 := ⟨⟨by decide +kernel, by decide +kernel, by decide +kernel⟩, rfl, (ce_t (i := 549) (by decide +kernel)), (ce_t (i := 1) (by decide +kernel)), (ce_t (i := 547) (by decide +kernel)), (ce_t (i := 548) (by decide +kernel))⟩
abbrev mX7_has : ce_Y := (yX7_has, cX7_has, 4, (some .int), [])
theorem hX7_has : ce_MV mX7_has 3 := ⟨⟨by decide +kernel, by decide +kernel, by decide +kernel⟩, rfl, (ce_t (i := 512) (by decide +kernel)), (ce_t (i := 1) (by decide +kernel)), (ce_t (i := 510) (by decide +kernel)), (ce_t (i := 511) (by decide +kernel))⟩
abbrev mX7_addMember : ce_Y := (yX7_addMember, cX7_addMember, 2, (some .int), [])
theorem hX7_addMember : ce_MV mX7_addMember 1 := ⟨⟨by decide +kernel, by decide +kernel, by decide +kernel⟩, rfl, (ce_t (i := 657) (by decide +kernel)), (ce_t (i := 1) (by decide +kernel)), (ce_t (i := 655) (by decide +kernel)), (ce_t (i := 656) (by decide +kernel))⟩
abbrev mX7_addWine : ce_Y := (yX7_addWine, cX7_addWine, 3, (some .int), [])
theorem hX7_addWine : ce_MV mX7_addWine 2 := ⟨⟨by decide +kernel, by decide +kernel, by decide +kernel⟩, rfl, (ce_t (i := 669) (by decide +kernel)), (ce_t (i := 1) (by decide +kernel)), (ce_t (i := 667) (by decide +kernel)), (ce_t (i := 668) (by decide +kernel))⟩
abbrev mX7_addBin : ce_Y := (yX7_addBin, cX7_addBin, 2, (some .int), [])
theorem hX7_addBin : ce_MV mX7_addBin 1 := ⟨⟨by decide +kernel, by decide +kernel, by decide +kernel⟩, rfl, (ce_t (i := 681) (by decide +kernel)), (ce_t (i := 1) (by decide +kernel)), (ce_t (i := 679) (by decide +kernel)), (ce_t (i := 680) (by decide +kernel))⟩
abbrev mX7_order : ce_Y := (yX7_order, cX7_order, 4, (some .int), [])
theorem hX7_order : ce_MV mX7_order 3 := ⟨⟨by decide +kernel, by decide +kernel, by decide +kernel⟩, rfl, (ce_t (i := 601) (by decide +kernel)), (ce_t (i := 1) (by decide +kernel)), (ce_t (i := 599) (by decide +kernel)), (ce_t (i := 600) (by decide +kernel))⟩
abbrev mX7_allocate : ce_Y := (yX7_allocate, cX7_allocate, 2, (some .int), [])
theorem hX7_allocate : ce_MV mX7_allocate 1 := ⟨⟨by decide +kernel, by decide +kernel, by decide +kernel⟩, rfl, (ce_t (i := 693) (by decide +kernel)), (ce_t (i := 1) (by decide +kernel)), (ce_t (i := 691) (by decide +kernel)), (ce_t (i := 692) (by decide +kernel))⟩
abbrev mX7_deliver : ce_Y := (yX7_deliver, cX7_deliver, 2, (some .int), [])
theorem hX7_deliver : ce_MV mX7_deliver 1 := ⟨⟨by decide +kernel, by decide +kernel, by decide +kernel⟩, rfl, (ce_t (i := 722) (by decide +kernel)), (ce_t (i := 1) (by decide +kernel)), (ce_t (i := 720) (by decide +kernel)), (ce_t (i := 721) (by decide +kernel))⟩
abbrev mX7_drink : ce_Y := (yX7_drink, cX7_drink, 4, (some .int), [])
theorem hX7_drink : ce_MV mX7_drink 3 := ⟨⟨by decide +kernel, by decide +kernel, by decide +kernel⟩, rfl, (ce_t (i := 614) (by decide +kernel)), (ce_t (i := 1) (by decide +kernel)), (ce_t (i := 612) (by decide +kernel)), (ce_t (i := 613) (by decide +kernel))⟩
abbrev mX7_give : ce_Y := (yX7_give, cX7_give, 5, (some .int), [])
theorem hX7_give : ce_MV mX7_give 4 := ⟨⟨by decide +kernel, by decide +kernel, by decide +kernel⟩, rfl, (ce_t (i := 642) (by decide +kernel)), (ce_t (i := 1) (by decide +kernel)), (ce_t (i := 640) (by decide +kernel)), (ce_t (i := 641) (by decide +kernel))⟩
abbrev mX7_cork : ce_Y := (yX7_cork, cX7_cork, 3, (some .int), [])
theorem hX7_cork : ce_MV mX7_cork 2 := ⟨⟨by decide +kernel, by decide +kernel, by decide +kernel⟩, rfl, (ce_t (i := 756) (by decide +kernel)), (ce_t (i := 1) (by decide +kernel)), (ce_t (i := 754) (by decide +kernel)), (ce_t (i := 755) (by decide +kernel))⟩
abbrev mX7_move : ce_Y := (yX7_move, cX7_move, 4, (some .int), [])
theorem hX7_move : ce_MV mX7_move 3 := ⟨⟨by decide +kernel, by decide +kernel, by decide +kernel⟩, rfl, (ce_t (i := 564) (by decide +kernel)), (ce_t (i := 1) (by decide +kernel)), (ce_t (i := 562) (by decide +kernel)), (ce_t (i := 563) (by decide +kernel))⟩
abbrev mX7_pay : ce_Y := (yX7_pay, cX7_pay, 2, (some .int), [])
theorem hX7_pay : ce_MV mX7_pay 1 := ⟨⟨by decide +kernel, by decide +kernel, by decide +kernel⟩, rfl, (ce_t (i := 771) (by decide +kernel)), (ce_t (i := 1) (by decide +kernel)), (ce_t (i := 769) (by decide +kernel)), (ce_t (i := 770) (by decide +kernel))⟩
abbrev mX7_undo : ce_Y := (yX7_undo, cX7_undo, 1, (some .int), [])
theorem hX7_undo : ce_MV mX7_undo 0 := ⟨⟨by decide +kernel, by decide +kernel, by decide +kernel⟩, rfl, (ce_t (i := 948) (by decide +kernel)), (ce_t (i := 1) (by decide +kernel)), (ce_t (i := 946) (by decide +kernel)), (ce_t (i := 947) (by decide +kernel))⟩
abbrev mX7_wouldGet : ce_Y := (yX7_wouldGet, cX7_wouldGet, 3, (some .int), [])
theorem hX7_wouldGet : ce_MV mX7_wouldGet 2 := ⟨⟨by decide +kernel, by decide +kernel, by decide +kernel⟩, rfl, (ce_t (i := 782) (by decide +kernel)), (ce_t (i := 1) (by decide +kernel)), (ce_t (i := 780) (by decide +kernel)), (ce_t (i := 781) (by decide +kernel))⟩
abbrev mX7_roomFor : ce_Y := (yX7_roomFor, cX7_roomFor, 2, (some .int), [])
theorem hX7_roomFor : ce_MV mX7_roomFor 1 := ⟨⟨by decide +kernel, by decide +kernel, by decide +kernel⟩, rfl, (ce_t (i := 809) (by decide +kernel)), (ce_t (i := 1) (by decide +kernel)), (ce_t (i := 807) (by decide +kernel)), (ce_t (i := 808) (by decide +kernel))⟩
abbrev mX7_fewestBins : ce_Y := (yX7_fewestBins, cX7_fewestBins, 1, (some .int), [])
theorem hX7_fewestBins : ce_MV mX7_fewestBins 0 := ⟨⟨by decide +kernel, by decide +kernel, by decide +kernel⟩, rfl, (ce_t (i := 912) (by decide +kernel)), (ce_t (i := 1) (by decide +kernel)), (ce_t (i := 910) (by decide +kernel)), (ce_t (i := 911) (by decide +kernel))⟩
abbrev mX7_shortest : ce_Y := (yX7_shortest, cX7_shortest, 6, (some .int), [])
theorem hX7_shortest : ce_MV mX7_shortest 1 := ⟨⟨by decide +kernel, by decide +kernel, by decide +kernel⟩, rfl, (ce_t (i := 802) (by decide +kernel)), (ce_t (i := 1) (by decide +kernel)), (ce_t (i := 800) (by decide +kernel)), (ce_t (i := 801) (by decide +kernel))⟩
abbrev mX7_runScript : ce_Y := (yX7_runScript, cX7_runScript, 5, (some .int), [])
theorem hX7_runScript : ce_MV mX7_runScript 2 := ⟨⟨by decide +kernel, by decide +kernel, by decide +kernel⟩, rfl, (ce_t (i := 818) (by decide +kernel)), (ce_t (i := 1) (by decide +kernel)), (ce_t (i := 816) (by decide +kernel)), (ce_t (i := 817) (by decide +kernel))⟩
abbrev mX7_simulate : ce_Y := (yX7_simulate, cX7_simulate, 7, (some .int), [])
theorem hX7_simulate : ce_MV mX7_simulate 2 := ⟨⟨by decide +kernel, by decide +kernel, by decide +kernel⟩, rfl, (ce_t (i := 877) (by decide +kernel)), (ce_t (i := 1) (by decide +kernel)), (ce_t (i := 875) (by decide +kernel)), (ce_t (i := 876) (by decide +kernel))⟩
abbrev mX7_save : ce_Y := (yX7_save, cX7_save, 2, (some .int), [])
theorem hX7_save : ce_MV mX7_save 1 := ⟨⟨by decide +kernel, by decide +kernel, by decide +kernel⟩, rfl, (ce_t (i := 424) (by decide +kernel)), (ce_t (i := 1) (by decide +kernel)), (ce_t (i := 422) (by decide +kernel)), (ce_t (i := 423) (by decide +kernel))⟩
abbrev mX7_restore : ce_Y := (yX7_restore, cX7_restore, 2, (some .int), [])
theorem hX7_restore : ce_MV mX7_restore 1 := ⟨⟨by decide +kernel, by decide +kernel, by decide +kernel⟩, rfl, (ce_t (i := 442) (by decide +kernel)), (ce_t (i := 1) (by decide +kernel)), (ce_t (i := 440) (by decide +kernel)), (ce_t (i := 441) (by decide +kernel))⟩
abbrev mX7_check : ce_Y := (yX7_check, cX7_check, 1, none, [])
theorem hX7_check : ce_MS mX7_check 1 := ⟨⟨by decide +kernel, by decide +kernel, by decide +kernel⟩, rfl, (ce_t (i := 310) (by decide +kernel)), (ce_t (i := 1) (by decide +kernel)), (ce_t (i := 309) (by decide +kernel))⟩
abbrev mX7_rangeFault : ce_Y := (yX7_rangeFault, cX7_rangeFault, 3, (some .int), [])
theorem hX7_rangeFault : ce_MS mX7_rangeFault 3 := ⟨⟨by decide +kernel, by decide +kernel, by decide +kernel⟩, rfl, (ce_t (i := 465) (by decide +kernel)), (ce_t (i := 1) (by decide +kernel)), (ce_t (i := 464) (by decide +kernel))⟩
abbrev mX7_isSlot : ce_Y := (yX7_isSlot, cX7_isSlot, 1, (some .boolean), [])
theorem hX7_isSlot : ce_MS mX7_isSlot 1 := ⟨⟨by decide +kernel, by decide +kernel, by decide +kernel⟩, rfl, (ce_t (i := 427) (by decide +kernel)), (ce_t (i := 1) (by decide +kernel)), (ce_t (i := 426) (by decide +kernel))⟩
abbrev mX7_restoreFault : ce_Y := (yX7_restoreFault, cX7_restoreFault, 2, (some .int), [])
theorem hX7_restoreFault : ce_MV mX7_restoreFault 1 := ⟨⟨by decide +kernel, by decide +kernel, by decide +kernel⟩, rfl, (ce_t (i := 446) (by decide +kernel)), (ce_t (i := 1) (by decide +kernel)), (ce_t (i := 445) (by decide +kernel)), (ce_s (i := 7) (by decide +kernel))⟩
