abbrev mX7_scriptFault : ce_Y := (yX7_scriptFault, cX7_scriptFault, 6, (some .int), [])
theorem hX7_scriptFault : ce_MS mX7_scriptFault 2 := ⟨⟨by decide +kernel, by decide +kernel, by decide +kernel⟩, rfl, (ce_t (i := 821) (by decide +kernel)), (ce_t (i := 1) (by decide +kernel)), (ce_t (i := 820) (by decide +kernel))⟩
abbrev mX7_groupAt : ce_Y := (yX7_groupAt, cX7_groupAt, 6, (some .int), [])
theorem hX7_groupAt : ce_MS mX7_groupAt 2 := ⟨⟨by decide +kernel, by decide +kernel, by decide +kernel⟩, rfl, (ce_t (i := 825) (by decide +kernel)), (ce_t (i := 1) (by decide +kernel)), (ce_t (i := 824) (by decide +kernel))⟩
abbrev mX7_sumOf : ce_Y := (yX7_sumOf, cX7_sumOf, 3, (some .int), [])
theorem hX7_sumOf : ce_MS mX7_sumOf 1 := ⟨⟨by decide +kernel, by decide +kernel, by decide +kernel⟩, rfl, (ce_t (i := 434) (by decide +kernel)), (ce_t (i := 1) (by decide +kernel)), (ce_t (i := 433) (by decide +kernel))⟩
abbrev mX7_copyRow : ce_Y := (yX7_copyRow, cX7_copyRow, 2, none, [])
theorem hX7_copyRow : ce_MS mX7_copyRow 2 := ⟨⟨by decide +kernel, by decide +kernel, by decide +kernel⟩, rfl, (ce_t (i := 240) (by decide +kernel)), (ce_t (i := 1) (by decide +kernel)), (ce_t (i := 239) (by decide +kernel))⟩
abbrev mJ6_bitCount_0f7a4 : ce_Y := (yJ6_bitCount_0f7a4, cJ6_bitCount_0f7a4, 1, (some .int), [])
theorem hJ6_bitCount_0f7a4 : ce_MS mJ6_bitCount_0f7a4 1 := ⟨⟨by decide +kernel, by decide +kernel, by decide +kernel⟩, rfl, (ce_t (i := 932) (by decide +kernel)), (ce_t (i := 17) (by decide +kernel)), (ce_t (i := 931) (by decide +kernel))⟩
abbrev mJ9_min_7cf53 : ce_Y := (yJ9_min_7cf53, cJ9_min_7cf53, 2, (some .int), [])
theorem hJ9_min_7cf53 : ce_MS mJ9_min_7cf53 2 := ⟨⟨by decide +kernel, by decide +kernel, by decide +kernel⟩, rfl, (ce_t (i := 243) (by decide +kernel)), (ce_t (i := 15) (by decide +kernel)), (ce_t (i := 242) (by decide +kernel))⟩
abbrev mL_draw : ce_Y := (yL_draw, cL_draw, 2, (some .int), [])
theorem hL_draw : ce_MS mL_draw 2 := ⟨⟨by decide +kernel, by decide +kernel, by decide +kernel⟩, rfl, (ce_t (i := 219) (by decide +kernel)), (ce_t (i := 0) (by decide +kernel)), (ce_t (i := 218) (by decide +kernel))⟩
abbrev mL_in : ce_Y := (yL_in, cL_in, 6, (some .boolean), [])
theorem hL_in : ce_MS mL_in 3 := ⟨⟨by decide +kernel, by decide +kernel, by decide +kernel⟩, rfl, (ce_t (i := 906) (by decide +kernel)), (ce_t (i := 0) (by decide +kernel)), (ce_t (i := 905) (by decide +kernel))⟩
abbrev mL_append : ce_Y := (yL_append, cL_append, 3, (some .long), [(0, 6, 7, 15), (0, 6, 12, 19)])
theorem hL_append : ce_MH mL_append 2 := ⟨⟨by decide +kernel, by decide +kernel, by decide +kernel⟩, ⟨_, _, rfl⟩, (ce_t (i := 887) (by decide +kernel)), (ce_t (i := 0) (by decide +kernel)), (ce_t (i := 886) (by decide +kernel))⟩
abbrev mL_load : ce_Y := (yL_load, cL_load, 2, (some .long), [(0, 5, 6, 19)])
theorem hL_load : ce_MH mL_load 1 := ⟨⟨by decide +kernel, by decide +kernel, by decide +kernel⟩, ⟨_, _, rfl⟩, (ce_t (i := 224) (by decide +kernel)), (ce_t (i := 0) (by decide +kernel)), (ce_t (i := 223) (by decide +kernel))⟩
abbrev mL_about : ce_Y := (yL_about, cL_about, 3, (some .long), [(0, 6, 7, 15)])
theorem hL_about : ce_MH mL_about 2 := ⟨⟨by decide +kernel, by decide +kernel, by decide +kernel⟩, ⟨_, _, rfl⟩, (ce_t (i := 457) (by decide +kernel)), (ce_t (i := 0) (by decide +kernel)), (ce_t (i := 456) (by decide +kernel))⟩
abbrev mL_member : ce_Y := (yL_member, cL_member, 4, (some .long), [(0, 7, 8, 34), (0, 7, 13, 15)])
theorem hL_member : ce_MH mL_member 3 := ⟨⟨by decide +kernel, by decide +kernel, by decide +kernel⟩, ⟨_, _, rfl⟩, (ce_t (i := 487) (by decide +kernel)), (ce_t (i := 0) (by decide +kernel)), (ce_t (i := 486) (by decide +kernel))⟩
abbrev mL_wine : ce_Y := (yL_wine, cL_wine, 4, (some .long), [(0, 7, 8, 34), (0, 7, 13, 15)])
theorem hL_wine : ce_MH mL_wine 3 := ⟨⟨by decide +kernel, by decide +kernel, by decide +kernel⟩, ⟨_, _, rfl⟩, (ce_t (i := 529) (by decide +kernel)), (ce_t (i := 0) (by decide +kernel)), (ce_t (i := 528) (by decide +kernel))⟩
abbrev mL_bin : ce_Y := (yL_bin, cL_bin, 4, (some .long), [(0, 7, 8, 34), (0, 7, 13, 15)])
theorem hL_bin : ce_MH mL_bin 3 := ⟨⟨by decide +kernel, by decide +kernel, by decide +kernel⟩, ⟨_, _, rfl⟩, (ce_t (i := 545) (by decide +kernel)), (ce_t (i := 0) (by decide +kernel)), (ce_t (i := 544) (by decide +kernel))⟩
abbrev mL_has : ce_Y := (yL_has, cL_has, 5, (some .long), [(0, 8, 9, 34), (0, 8, 15, 15)])
theorem hL_has : ce_MH mL_has 4 := ⟨⟨by decide +kernel, by decide +kernel, by decide +kernel⟩, ⟨_, _, rfl⟩, (ce_t (i := 508) (by decide +kernel)), (ce_t (i := 0) (by decide +kernel)), (ce_t (i := 507) (by decide +kernel))⟩
abbrev mL_addMember : ce_Y := (yL_addMember, cL_addMember, 3, (some .long), [(0, 6, 7, 15), (0, 6, 12, 19)])
theorem hL_addMember : ce_MH mL_addMember 2 := ⟨⟨by decide +kernel, by decide +kernel, by decide +kernel⟩, ⟨_, _, rfl⟩, (ce_t (i := 653) (by decide +kernel)), (ce_t (i := 0) (by decide +kernel)), (ce_t (i := 652) (by decide +kernel))⟩
abbrev mL_addWine : ce_Y := (yL_addWine, cL_addWine, 4, (some .long), [(0, 7, 8, 15), (0, 7, 13, 19)])
theorem hL_addWine : ce_MH mL_addWine 3 := ⟨⟨by decide +kernel, by decide +kernel, by decide +kernel⟩, ⟨_, _, rfl⟩, (ce_t (i := 665) (by decide +kernel)), (ce_t (i := 0) (by decide +kernel)), (ce_t (i := 664) (by decide +kernel))⟩
abbrev mL_addBin : ce_Y := (yL_addBin, cL_addBin, 3, (some .long), [(0, 6, 7, 15), (0, 6, 12, 19)])
theorem hL_addBin : ce_MH mL_addBin 2 := ⟨⟨by decide +kernel, by decide +kernel, by decide +kernel⟩, ⟨_, _, rfl⟩, (ce_t (i := 677) (by decide +kernel)), (ce_t (i := 0) (by decide +kernel)), (ce_t (i := 676) (by decide +kernel))⟩
abbrev mL_order : ce_Y := (yL_order, cL_order, 5, (some .long), [(0, 8, 9, 34), (0, 8, 15, 15), (0, 8, 21, 19)])
theorem hL_order : ce_MH mL_order 4 := ⟨⟨by decide +kernel, by decide +kernel, by decide +kernel⟩, ⟨_, _, rfl⟩, (ce_t (i := 597) (by decide +kernel)), (ce_t (i := 0) (by decide +kernel)), (ce_t (i := 596) (by decide +kernel))⟩
abbrev mL_allocate : ce_Y := (yL_allocate, cL_allocate, 3, (some .long), [(0, 6, 7, 34), (0, 6, 12, 19)])
theorem hL_allocate : ce_MH mL_allocate 2 := ⟨⟨by decide +kernel, by decide +kernel, by decide +kernel⟩, ⟨_, _, rfl⟩, (ce_t (i := 689) (by decide +kernel)), (ce_t (i := 0) (by decide +kernel)), (ce_t (i := 688) (by decide +kernel))⟩
abbrev mL_deliver : ce_Y := (yL_deliver, cL_deliver, 3, (some .long), [(0, 6, 7, 34), (0, 6, 12, 19)])
theorem hL_deliver : ce_MH mL_deliver 2 := ⟨⟨by decide +kernel, by decide +kernel, by decide +kernel⟩, ⟨_, _, rfl⟩, (ce_t (i := 718) (by decide +kernel)), (ce_t (i := 0) (by decide +kernel)), (ce_t (i := 717) (by decide +kernel))⟩
abbrev mL_drink : ce_Y := (yL_drink, cL_drink, 5, (some .long), [(0, 8, 9, 34), (0, 8, 15, 15), (0, 8, 21, 19)])
theorem hL_drink : ce_MH mL_drink 4 := ⟨⟨by decide +kernel, by decide +kernel, by decide +kernel⟩, ⟨_, _, rfl⟩, (ce_t (i := 610) (by decide +kernel)), (ce_t (i := 0) (by decide +kernel)), (ce_t (i := 609) (by decide +kernel))⟩
abbrev mL_give : ce_Y := (yL_give, cL_give, 6, (some .long), [(0, 10, 11, 34), (0, 10, 17, 15), (0, 10, 23, 19)])
theorem hL_give : ce_MH mL_give 5 := ⟨⟨by decide +kernel, by decide +kernel, by decide +kernel⟩, ⟨_, _, rfl⟩, (ce_t (i := 638) (by decide +kernel)), (ce_t (i := 0) (by decide +kernel)), (ce_t (i := 637) (by decide +kernel))⟩
abbrev mL_cork : ce_Y := (yL_cork, cL_cork, 4, (some .long), [(0, 7, 8, 34), (0, 7, 13, 19)])
theorem hL_cork : ce_MH mL_cork 3 := ⟨⟨by decide +kernel, by decide +kernel, by decide +kernel⟩, ⟨_, _, rfl⟩, (ce_t (i := 752) (by decide +kernel)), (ce_t (i := 0) (by decide +kernel)), (ce_t (i := 751) (by decide +kernel))⟩
abbrev mL_move : ce_Y := (yL_move, cL_move, 5, (some .long), [(0, 8, 9, 34), (0, 8, 15, 15), (0, 8, 21, 19)])
theorem hL_move : ce_MH mL_move 4 := ⟨⟨by decide +kernel, by decide +kernel, by decide +kernel⟩, ⟨_, _, rfl⟩, (ce_t (i := 560) (by decide +kernel)), (ce_t (i := 0) (by decide +kernel)), (ce_t (i := 559) (by decide +kernel))⟩
abbrev mL_pay : ce_Y := (yL_pay, cL_pay, 3, (some .long), [(0, 6, 7, 34)])
theorem hL_pay : ce_MH mL_pay 2 := ⟨⟨by decide +kernel, by decide +kernel, by decide +kernel⟩, ⟨_, _, rfl⟩, (ce_t (i := 767) (by decide +kernel)), (ce_t (i := 0) (by decide +kernel)), (ce_t (i := 766) (by decide +kernel))⟩
abbrev mL_undo : ce_Y := (yL_undo, cL_undo, 2, (some .long), [(0, 5, 6, 19)])
theorem hL_undo : ce_MH mL_undo 1 := ⟨⟨by decide +kernel, by decide +kernel, by decide +kernel⟩, ⟨_, _, rfl⟩, (ce_t (i := 944) (by decide +kernel)), (ce_t (i := 0) (by decide +kernel)), (ce_t (i := 943) (by decide +kernel))⟩
abbrev mL_wouldGet : ce_Y := (yL_wouldGet, cL_wouldGet, 4, (some .long), [(0, 7, 8, 34)])
theorem hL_wouldGet : ce_MH mL_wouldGet 3 := ⟨⟨by decide +kernel, by decide +kernel, by decide +kernel⟩, ⟨_, _, rfl⟩, (ce_t (i := 778) (by decide +kernel)), (ce_t (i := 0) (by decide +kernel)), (ce_t (i := 777) (by decide +kernel))⟩
abbrev mL_roomFor : ce_Y := (yL_roomFor, cL_roomFor, 3, (some .long), [(0, 6, 7, 34)])
theorem hL_roomFor : ce_MH mL_roomFor 2 := ⟨⟨by decide +kernel, by decide +kernel, by decide +kernel⟩, ⟨_, _, rfl⟩, (ce_t (i := 805) (by decide +kernel)), (ce_t (i := 0) (by decide +kernel)), (ce_t (i := 804) (by decide +kernel))⟩
abbrev mL_shortest : ce_Y := (yL_shortest, cL_shortest, 3, (some .long), [(0, 6, 7, 34)])
theorem hL_shortest : ce_MH mL_shortest 2 := ⟨⟨by decide +kernel, by decide +kernel, by decide +kernel⟩, ⟨_, _, rfl⟩, (ce_t (i := 798) (by decide +kernel)), (ce_t (i := 0) (by decide +kernel)), (ce_t (i := 797) (by decide +kernel))⟩
abbrev mL_script : ce_Y := (yL_script, cL_script, 5, (some .long), [(0, 7, 8, 15)])
theorem hL_script : ce_MH mL_script 3 := ⟨⟨by decide +kernel, by decide +kernel, by decide +kernel⟩, ⟨_, _, rfl⟩, (ce_t (i := 814) (by decide +kernel)), (ce_t (i := 0) (by decide +kernel)), (ce_t (i := 813) (by decide +kernel))⟩
abbrev mL_simulate : ce_Y := (yL_simulate, cL_simulate, 5, (some .long), [(0, 7, 8, 15)])
theorem hL_simulate : ce_MH mL_simulate 3 := ⟨⟨by decide +kernel, by decide +kernel, by decide +kernel⟩, ⟨_, _, rfl⟩, (ce_t (i := 873) (by decide +kernel)), (ce_t (i := 0) (by decide +kernel)), (ce_t (i := 872) (by decide +kernel))⟩
abbrev mL_save : ce_Y := (yL_save, cL_save, 3, (some .long), [(0, 6, 7, 34)])
theorem hL_save : ce_MH mL_save 2 := ⟨⟨by decide +kernel, by decide +kernel, by decide +kernel⟩, ⟨_, _, rfl⟩, (ce_t (i := 419) (by decide +kernel)), (ce_t (i := 0) (by decide +kernel)), (ce_t (i := 418) (by decide +kernel))⟩
abbrev mL_restore : ce_Y := (yL_restore, cL_restore, 3, (some .long), [(0, 6, 7, 34), (0, 6, 12, 19)])
theorem hL_restore : ce_MH mL_restore 2 := ⟨⟨by decide +kernel, by decide +kernel, by decide +kernel⟩, ⟨_, _, rfl⟩, (ce_t (i := 438) (by decide +kernel)), (ce_t (i := 0) (by decide +kernel)), (ce_t (i := 437) (by decide +kernel))⟩
abbrev mL_now : ce_Y := (yL_now, cL_now, 5, (some .long), [])
theorem hL_now : ce_MS mL_now 1 := ⟨⟨by decide +kernel, by decide +kernel, by decide +kernel⟩, rfl, (ce_t (i := 452) (by decide +kernel)), (ce_t (i := 0) (by decide +kernel)), (ce_t (i := 451) (by decide +kernel))⟩
abbrev mL_errors : ce_Y := (yL_errors, cL_errors, 13, (some .boolean), [])
set_option maxHeartbeats 4000000 in
set_option maxRecDepth 200000 in
theorem qL_errors : tables_1[449]? = some (Cond.code yL_errors cL_errors 13 (some .boolean)) := rfl
theorem hL_errors : ce_MS mL_errors 1 := ⟨⟨by decide +kernel, by decide +kernel, by decide +kernel⟩, rfl, (ce_t qL_errors), (ce_t (i := 0) (by decide +kernel)), (ce_t (i := 448) (by decide +kernel))⟩
abbrev mL_kept : ce_Y := (yL_kept, cL_kept, 26, (some .boolean), [])
set_option maxHeartbeats 4000000 in
set_option maxRecDepth 200000 in
theorem qL_kept : tables_1[902]? = some (Cond.code yL_kept cL_kept 26 (some .boolean)) := rfl
theorem hL_kept : ce_MS mL_kept 1 := ⟨⟨by decide +kernel, by decide +kernel, by decide +kernel⟩, rfl, (ce_t qL_kept), (ce_t (i := 0) (by decide +kernel)), (ce_t (i := 901) (by decide +kernel))⟩
abbrev mL_follows : ce_Y := (yL_follows, cL_follows, 23, (some .boolean), [])
set_option maxHeartbeats 4000000 in
set_option maxRecDepth 200000 in
theorem qL_follows : tables_1[940]? = some (Cond.code yL_follows cL_follows 23 (some .boolean)) := rfl
theorem hL_follows : ce_MS mL_follows 2 := ⟨⟨by decide +kernel, by decide +kernel, by decide +kernel⟩, rfl, (ce_t qL_follows), (ce_t (i := 0) (by decide +kernel)), (ce_t (i := 939) (by decide +kernel))⟩
abbrev mL_alike : ce_Y := (yL_alike, cL_alike, 3, (some .boolean), [])
theorem hL_alike : ce_MS mL_alike 3 := ⟨⟨by decide +kernel, by decide +kernel, by decide +kernel⟩, rfl, (ce_t (i := 956) (by decide +kernel)), (ce_t (i := 0) (by decide +kernel)), (ce_t (i := 955) (by decide +kernel))⟩
abbrev mL_says : ce_Y := (yL_says, cL_says, 2, (some .boolean), [])
theorem hL_says : ce_MS mL_says 2 := ⟨⟨by decide +kernel, by decide +kernel, by decide +kernel⟩, rfl, (ce_t (i := 976) (by decide +kernel)), (ce_t (i := 0) (by decide +kernel)), (ce_t (i := 975) (by decide +kernel))⟩
abbrev mL_two : ce_Y := (yL_two, cL_two, 2, (some .boolean), [])
theorem hL_two : ce_MS mL_two 2 := ⟨⟨by decide +kernel, by decide +kernel, by decide +kernel⟩, rfl, (ce_t (i := 979) (by decide +kernel)), (ce_t (i := 0) (by decide +kernel)), (ce_t (i := 978) (by decide +kernel))⟩
abbrev mL_tells : ce_Y := (yL_tells, cL_tells, 8, (some .boolean), [])
theorem hL_tells : ce_MS mL_tells 3 := ⟨⟨by decide +kernel, by decide +kernel, by decide +kernel⟩, rfl, (ce_t (i := 965) (by decide +kernel)), (ce_t (i := 0) (by decide +kernel)), (ce_t (i := 964) (by decide +kernel))⟩
abbrev mL_act : ce_Y := (yL_act, cL_act, 8, (some .long), [])
theorem hL_act : ce_MS mL_act 3 := ⟨⟨by decide +kernel, by decide +kernel, by decide +kernel⟩, rfl, (ce_t (i := 983) (by decide +kernel)), (ce_t (i := 0) (by decide +kernel)), (ce_t (i := 982) (by decide +kernel))⟩
theorem kRL_220 : Cond.methodLink RL 220 yX7_init ∈ lw_tbl := ce_t (i := 20) (by decide +kernel)
theorem kRX7_1 : Cond.methodLink RX7 1 Lib.objectInit ∈ lw_tbl := ce_t (i := 23) (by decide +kernel)
theorem kRX7_9 : Cond.methodLinkNest RX7 9 yX0_init "CellarClub" ∈ lw_tbl := ce_t (i := 28) (by decide +kernel)
theorem kRX0_3 : Cond.methodLink RX0 3 Lib.objectInit ∈ lw_tbl := ce_t (i := 31) (by decide +kernel)
theorem kRX0_35 : Cond.methodLinkNest RX0 35 yX5_init "CellarClub" ∈ lw_tbl := ce_t (i := 34) (by decide +kernel)
theorem kRX5_3 : Cond.methodLink RX5 3 Lib.objectInit ∈ lw_tbl := ce_t (i := 37) (by decide +kernel)
theorem kRX0_51 : Cond.methodLinkNest RX0 51 yX3_init "CellarClub" ∈ lw_tbl := ce_t (i := 45) (by decide +kernel)
theorem kRX3_3 : Cond.methodLink RX3 3 Lib.objectInit ∈ lw_tbl := ce_t (i := 48) (by decide +kernel)
theorem kRX7_18 : Cond.methodLinkNest RX7 18 yX6_init "CellarClub" ∈ lw_tbl := ce_t (i := 127) (by decide +kernel)
theorem kRX6_3 : Cond.methodLink RX6 3 Lib.objectInit ∈ lw_tbl := ce_t (i := 130) (by decide +kernel)
theorem kRX6_17 : Cond.methodLinkNest RX6 17 yX0_init "CellarClub" ∈ lw_tbl := ce_t (i := 132) (by decide +kernel)
theorem kRX7_25 : Cond.methodLink RX7 25 yX1_init ∈ lw_tbl := ce_t (i := 153) (by decide +kernel)
theorem kRX1_3 : Cond.methodLink RX1 3 Lib.objectInit ∈ lw_tbl := ce_t (i := 156) (by decide +kernel)
theorem kRX1_17 : Cond.methodLinkNest RX1 17 yX0_init "CellarClub" ∈ lw_tbl := ce_t (i := 159) (by decide +kernel)
theorem kRX7_32 : Cond.methodLinkNest RX7 32 yX4_init "CellarClub" ∈ lw_tbl := ce_t (i := 170) (by decide +kernel)
theorem kRX4_3 : Cond.methodLink RX4 3 Lib.objectInit ∈ lw_tbl := ce_t (i := 173) (by decide +kernel)
theorem kRX4_11 : Cond.methodLinkNest RX4 11 yX0_init "CellarClub" ∈ lw_tbl := ce_t (i := 175) (by decide +kernel)
theorem kRX7_39 : Cond.methodLinkNest RX7 39 yX2_init "CellarClub" ∈ lw_tbl := ce_t (i := 183) (by decide +kernel)
theorem kRX2_3 : Cond.methodLink RX2 3 Lib.objectInit ∈ lw_tbl := ce_t (i := 186) (by decide +kernel)
theorem kRL_221 : Cond.methodLink RL 221 yL_draw ∈ lw_tbl := ce_t (i := 217) (by decide +kernel)
theorem kRL_240 : Cond.methodLink RL 240 yL_load ∈ lw_tbl := ce_t (i := 222) (by decide +kernel)
theorem kRL_23 : Cond.methodLink RL 23 yX7_load ∈ lw_tbl := ce_t (i := 226) (by decide +kernel)
theorem kRX7_68 : Cond.methodLink RX7 68 yX6_read ∈ lw_tbl := ce_t (i := 230) (by decide +kernel)
theorem kRX6_29 : Cond.methodLink RX6 29 yX0_copyFrom ∈ lw_tbl := ce_t (i := 234) (by decide +kernel)
theorem kRX0_135 : Cond.methodLinkNest RX0 135 yX7_copyRow "CellarClub" ∈ lw_tbl := ce_t (i := 238) (by decide +kernel)
theorem kRX7_283 : Cond.methodLink RX7 283 yJ9_min_7cf53 ∈ lw_tbl := ce_t (i := 241) (by decide +kernel)
theorem kRX7_288 : Cond.methodLink RX7 288 arraycopyName ∈ lw_tbl := ce_t (i := 244) (by decide +kernel)
theorem kRX0_139 : Cond.methodLink RX0 139 yX5_copyFrom ∈ lw_tbl := ce_t (i := 247) (by decide +kernel)
theorem kRX5_23 : Cond.methodLinkNest RX5 23 yX7_copyRow "CellarClub" ∈ lw_tbl := ce_t (i := 251) (by decide +kernel)
theorem kRX0_143 : Cond.methodLink RX0 143 yX3_copyFrom ∈ lw_tbl := ce_t (i := 252) (by decide +kernel)
theorem kRX3_65 : Cond.methodLinkNest RX3 65 yX7_copyRow "CellarClub" ∈ lw_tbl := ce_t (i := 256) (by decide +kernel)
theorem kRX6_36 : Cond.methodLink RX6 36 yX6_readPart ∈ lw_tbl := ce_t (i := 257) (by decide +kernel)
theorem kRX6_41 : Cond.methodLink RX6 41 yX6_readMember ∈ lw_tbl := ce_t (i := 261) (by decide +kernel)
theorem kRX6_56 : Cond.methodLink RX6 56 yX6_readNumber ∈ lw_tbl := ce_t (i := 265) (by decide +kernel)
theorem kRX6_60 : Cond.methodLink RX6 60 yX0_enrol ∈ lw_tbl := ce_t (i := 270) (by decide +kernel)
theorem kRX6_44 : Cond.methodLink RX6 44 yX6_readWine ∈ lw_tbl := ce_t (i := 274) (by decide +kernel)
theorem kRX6_67 : Cond.methodLink RX6 67 yX0_offer ∈ lw_tbl := ce_t (i := 278) (by decide +kernel)
theorem kRX6_47 : Cond.methodLink RX6 47 yX6_readBin ∈ lw_tbl := ce_t (i := 282) (by decide +kernel)
theorem kRX6_80 : Cond.methodLink RX6 80 yX3_install ∈ lw_tbl := ce_t (i := 286) (by decide +kernel)
theorem kRX6_50 : Cond.methodLink RX6 50 yX6_readOrder ∈ lw_tbl := ce_t (i := 291) (by decide +kernel)
theorem kRX6_83 : Cond.methodLink RX6 83 yX0_changeOrder ∈ lw_tbl := ce_t (i := 295) (by decide +kernel)
theorem kRX0_94 : Cond.methodLink RX0 94 yX5_of ∈ lw_tbl := ce_t (i := 299) (by decide +kernel)
theorem kRX0_102 : Cond.methodLink RX0 102 yX5_put ∈ lw_tbl := ce_t (i := 303) (by decide +kernel)
theorem kRX7_56 : Cond.methodLink RX7 56 yX7_check ∈ lw_tbl := ce_t (i := 308) (by decide +kernel)
theorem kRX7_75 : Cond.methodLink RX7 75 yX0_copyFrom ∈ lw_tbl := ce_t (i := 411) (by decide +kernel)
theorem kRX7_79 : Cond.methodLink RX7 79 yX1_forgetAll ∈ lw_tbl := ce_t (i := 412) (by decide +kernel)
theorem kRL_177 : Cond.methodLink RL 177 yL_save ∈ lw_tbl := ce_t (i := 417) (by decide +kernel)
theorem kRL_102 : Cond.methodLink RL 102 yX7_save ∈ lw_tbl := ce_t (i := 421) (by decide +kernel)
theorem kRX7_258 : Cond.methodLink RX7 258 yX7_isSlot ∈ lw_tbl := ce_t (i := 425) (by decide +kernel)
theorem kRX7_252 : Cond.methodLink RX7 252 yX5_ofAll ∈ lw_tbl := ce_t (i := 428) (by decide +kernel)
theorem kRX5_19 : Cond.methodLinkNest RX5 19 yX7_sumOf "CellarClub" ∈ lw_tbl := ce_t (i := 432) (by decide +kernel)
theorem kRL_179 : Cond.methodLink RL 179 yL_restore ∈ lw_tbl := ce_t (i := 436) (by decide +kernel)
theorem kRL_105 : Cond.methodLink RL 105 yX7_restore ∈ lw_tbl := ce_t (i := 439) (by decide +kernel)
theorem kRX7_261 : Cond.methodLink RX7 261 yX7_restoreFault ∈ lw_tbl := ce_t (i := 443) (by decide +kernel)
theorem kRL_229 : Cond.methodLink RL 229 yL_errors ∈ lw_tbl := ce_t (i := 447) (by decide +kernel)
theorem kRL_131 : Cond.methodLink RL 131 yL_now ∈ lw_tbl := ce_t (i := 450) (by decide +kernel)
theorem kRL_112 : Cond.methodLink RL 112 yL_about ∈ lw_tbl := ce_t (i := 455) (by decide +kernel)
theorem kRL_27 : Cond.methodLink RL 27 yX7_about ∈ lw_tbl := ce_t (i := 459) (by decide +kernel)
theorem kRX7_86 : Cond.methodLink RX7 86 yX7_rangeFault ∈ lw_tbl := ce_t (i := 463) (by decide +kernel)
theorem kRX7_90 : Cond.methodLink RX7 90 yX0_factOfAll ∈ lw_tbl := ce_t (i := 466) (by decide +kernel)
theorem kRX0_73 : Cond.methodLink RX0 73 yX5_ofAll ∈ lw_tbl := ce_t (i := 470) (by decide +kernel)
theorem kRX0_77 : Cond.methodLinkNest RX0 77 yX7_sumOf "CellarClub" ∈ lw_tbl := ce_t (i := 471) (by decide +kernel)
theorem kRX0_81 : Cond.methodLink RX0 81 yX3_emptyBins ∈ lw_tbl := ce_t (i := 472) (by decide +kernel)
theorem kRX0_84 : Cond.methodLink RX0 84 yX3_roomInAll ∈ lw_tbl := ce_t (i := 476) (by decide +kernel)
theorem kRX3_26 : Cond.methodLink RX3 26 yX3_roomIn ∈ lw_tbl := ce_t (i := 480) (by decide +kernel)
theorem kRL_117 : Cond.methodLink RL 117 yL_member ∈ lw_tbl := ce_t (i := 485) (by decide +kernel)
theorem kRL_30 : Cond.methodLink RL 30 yX7_member ∈ lw_tbl := ce_t (i := 488) (by decide +kernel)
theorem kRX7_93 : Cond.methodLink RX7 93 yX0_knowsMember ∈ lw_tbl := ce_t (i := 492) (by decide +kernel)
theorem kRX7_97 : Cond.methodLink RX7 97 yX0_factOfMember ∈ lw_tbl := ce_t (i := 496) (by decide +kernel)
theorem kRX0_87 : Cond.methodLink RX0 87 yX5_ofMember ∈ lw_tbl := ce_t (i := 500) (by decide +kernel)
theorem kRX5_15 : Cond.methodLink RX5 15 yX5_of ∈ lw_tbl := ce_t (i := 504) (by decide +kernel)
theorem kRL_122 : Cond.methodLink RL 122 yL_has ∈ lw_tbl := ce_t (i := 506) (by decide +kernel)
theorem kRL_44 : Cond.methodLink RL 44 yX7_has ∈ lw_tbl := ce_t (i := 509) (by decide +kernel)
theorem kRX7_119 : Cond.methodLink RX7 119 yX0_knowsBoth ∈ lw_tbl := ce_t (i := 513) (by decide +kernel)
theorem kRX0_63 : Cond.methodLink RX0 63 yX0_knowsMember ∈ lw_tbl := ce_t (i := 517) (by decide +kernel)
theorem kRX0_67 : Cond.methodLink RX0 67 yX0_knowsWine ∈ lw_tbl := ce_t (i := 518) (by decide +kernel)
theorem kRX7_123 : Cond.methodLink RX7 123 yX0_factOfBoth ∈ lw_tbl := ce_t (i := 522) (by decide +kernel)
theorem kRL_127 : Cond.methodLink RL 127 yL_wine ∈ lw_tbl := ce_t (i := 527) (by decide +kernel)
theorem kRL_38 : Cond.methodLink RL 38 yX7_wine ∈ lw_tbl := ce_t (i := 530) (by decide +kernel)
theorem kRX7_101 : Cond.methodLink RX7 101 yX0_knowsWine ∈ lw_tbl := ce_t (i := 534) (by decide +kernel)
theorem kRX7_104 : Cond.methodLink RX7 104 yX0_factOfWine ∈ lw_tbl := ce_t (i := 535) (by decide +kernel)
theorem kRX0_91 : Cond.methodLink RX0 91 yX5_ofWine ∈ lw_tbl := ce_t (i := 539) (by decide +kernel)
theorem kRL_129 : Cond.methodLink RL 129 yL_bin ∈ lw_tbl := ce_t (i := 543) (by decide +kernel)
theorem kRL_41 : Cond.methodLink RL 41 yX7_bin ∈ lw_tbl := ce_t (i := 546) (by decide +kernel)
theorem kRX7_111 : Cond.methodLink RX7 111 yX3_knows ∈ lw_tbl := ce_t (i := 550) (by decide +kernel)
theorem kRX7_116 : Cond.methodLink RX7 116 yX3_factOf ∈ lw_tbl := ce_t (i := 554) (by decide +kernel)
theorem kRL_135 : Cond.methodLink RL 135 yL_move ∈ lw_tbl := ce_t (i := 558) (by decide +kernel)
theorem kRL_76 : Cond.methodLink RL 76 yX7_move ∈ lw_tbl := ce_t (i := 561) (by decide +kernel)
theorem kRX7_184 : Cond.methodLink RX7 184 yX3_carryFault ∈ lw_tbl := ce_t (i := 565) (by decide +kernel)
theorem kRX3_61 : Cond.methodLink RX3 61 yX3_knows ∈ lw_tbl := ce_t (i := 569) (by decide +kernel)
theorem kRX3_30 : Cond.methodLink RX3 30 yX3_takesWine ∈ lw_tbl := ce_t (i := 570) (by decide +kernel)
theorem kRX7_129 : Cond.methodLink RX7 129 yX1_remember ∈ lw_tbl := ce_t (i := 574) (by decide +kernel)
theorem kRX1_22 : Cond.methodLink RX1 22 yX1_forgetOldest ∈ lw_tbl := ce_t (i := 578) (by decide +kernel)
theorem kRX1_25 : Cond.methodLink RX1 25 yX0_copyFrom ∈ lw_tbl := ce_t (i := 582) (by decide +kernel)
theorem kRX7_187 : Cond.methodLink RX7 187 yX3_carry ∈ lw_tbl := ce_t (i := 583) (by decide +kernel)
theorem kRX3_46 : Cond.methodLink RX3 46 yX3_putInto ∈ lw_tbl := ce_t (i := 587) (by decide +kernel)
theorem kRX3_57 : Cond.methodLink RX3 57 yX3_removeFrom ∈ lw_tbl := ce_t (i := 591) (by decide +kernel)
theorem kRL_137 : Cond.methodLink RL 137 yL_order ∈ lw_tbl := ce_t (i := 595) (by decide +kernel)
theorem kRL_57 : Cond.methodLink RL 57 yX7_order ∈ lw_tbl := ce_t (i := 598) (by decide +kernel)
theorem kRX7_147 : Cond.methodLink RX7 147 yX0_orderFault ∈ lw_tbl := ce_t (i := 602) (by decide +kernel)
theorem kRX0_98 : Cond.methodLink RX0 98 yX0_knowsBoth ∈ lw_tbl := ce_t (i := 606) (by decide +kernel)
theorem kRX7_150 : Cond.methodLink RX7 150 yX0_changeOrder ∈ lw_tbl := ce_t (i := 607) (by decide +kernel)
theorem kRL_139 : Cond.methodLink RL 139 yL_drink ∈ lw_tbl := ce_t (i := 608) (by decide +kernel)
theorem kRL_66 : Cond.methodLink RL 66 yX7_drink ∈ lw_tbl := ce_t (i := 611) (by decide +kernel)
theorem kRX7_165 : Cond.methodLink RX7 165 yX0_drinkFault ∈ lw_tbl := ce_t (i := 615) (by decide +kernel)
theorem kRX7_168 : Cond.methodLink RX7 168 yX0_drinkUp ∈ lw_tbl := ce_t (i := 619) (by decide +kernel)
theorem kRX0_132 : Cond.methodLink RX0 132 yX3_take ∈ lw_tbl := ce_t (i := 623) (by decide +kernel)
theorem kRX3_54 : Cond.methodLink RX3 54 yX3_binToTakeFrom ∈ lw_tbl := ce_t (i := 627) (by decide +kernel)
theorem kRX3_40 : Cond.methodLink RX3 40 yJ9_min_7cf53 ∈ lw_tbl := ce_t (i := 631) (by decide +kernel)
theorem kRX0_110 : Cond.methodLink RX0 110 yX5_add ∈ lw_tbl := ce_t (i := 632) (by decide +kernel)
theorem kRL_141 : Cond.methodLink RL 141 yL_give ∈ lw_tbl := ce_t (i := 636) (by decide +kernel)
theorem kRL_69 : Cond.methodLink RL 69 yX7_give ∈ lw_tbl := ce_t (i := 639) (by decide +kernel)
theorem kRX7_171 : Cond.methodLink RX7 171 yX0_giftFault ∈ lw_tbl := ce_t (i := 643) (by decide +kernel)
theorem kRX7_175 : Cond.methodLink RX7 175 yX0_handOver ∈ lw_tbl := ce_t (i := 647) (by decide +kernel)
theorem kRL_144 : Cond.methodLink RL 144 yL_addMember ∈ lw_tbl := ce_t (i := 651) (by decide +kernel)
theorem kRL_48 : Cond.methodLink RL 48 yX7_addMember ∈ lw_tbl := ce_t (i := 654) (by decide +kernel)
theorem kRX7_126 : Cond.methodLink RX7 126 yX0_memberFault ∈ lw_tbl := ce_t (i := 658) (by decide +kernel)
theorem kRX7_132 : Cond.methodLink RX7 132 yX0_enrol ∈ lw_tbl := ce_t (i := 662) (by decide +kernel)
theorem kRL_146 : Cond.methodLink RL 146 yL_addWine ∈ lw_tbl := ce_t (i := 663) (by decide +kernel)
theorem kRL_51 : Cond.methodLink RL 51 yX7_addWine ∈ lw_tbl := ce_t (i := 666) (by decide +kernel)
theorem kRX7_135 : Cond.methodLink RX7 135 yX0_wineFault ∈ lw_tbl := ce_t (i := 670) (by decide +kernel)
theorem kRX7_138 : Cond.methodLink RX7 138 yX0_offer ∈ lw_tbl := ce_t (i := 674) (by decide +kernel)
theorem kRL_148 : Cond.methodLink RL 148 yL_addBin ∈ lw_tbl := ce_t (i := 675) (by decide +kernel)
theorem kRL_54 : Cond.methodLink RL 54 yX7_addBin ∈ lw_tbl := ce_t (i := 678) (by decide +kernel)
theorem kRX7_141 : Cond.methodLink RX7 141 yX3_binFault ∈ lw_tbl := ce_t (i := 682) (by decide +kernel)
theorem kRX7_144 : Cond.methodLink RX7 144 yX3_install ∈ lw_tbl := ce_t (i := 686) (by decide +kernel)
theorem kRL_150 : Cond.methodLink RL 150 yL_allocate ∈ lw_tbl := ce_t (i := 687) (by decide +kernel)
theorem kRL_60 : Cond.methodLink RL 60 yX7_allocate ∈ lw_tbl := ce_t (i := 690) (by decide +kernel)
theorem kRX7_153 : Cond.methodLink RX7 153 yX0_allocationFault ∈ lw_tbl := ce_t (i := 694) (by decide +kernel)
theorem kRX7_156 : Cond.methodLink RX7 156 yX0_shareOut ∈ lw_tbl := ce_t (i := 698) (by decide +kernel)
theorem kRX0_106 : Cond.methodLink RX0 106 yX0_nextToGet ∈ lw_tbl := ce_t (i := 702) (by decide +kernel)
theorem kRX0_121 : Cond.methodLink RX0 121 yX0_comesBefore ∈ lw_tbl := ce_t (i := 707) (by decide +kernel)
theorem kRX0_113 : Cond.methodLink RX0 113 yX0_paidAhead ∈ lw_tbl := ce_t (i := 711) (by decide +kernel)
theorem kRX0_116 : Cond.methodLink RX0 116 yJ9_min_7cf53 ∈ lw_tbl := ce_t (i := 715) (by decide +kernel)
theorem kRL_152 : Cond.methodLink RL 152 yL_deliver ∈ lw_tbl := ce_t (i := 716) (by decide +kernel)
theorem kRL_63 : Cond.methodLink RL 63 yX7_deliver ∈ lw_tbl := ce_t (i := 719) (by decide +kernel)
theorem kRX7_159 : Cond.methodLink RX7 159 yX0_deliveryFault ∈ lw_tbl := ce_t (i := 723) (by decide +kernel)
theorem kRX0_125 : Cond.methodLink RX0 125 yX3_roomForWine ∈ lw_tbl := ce_t (i := 727) (by decide +kernel)
theorem kRX7_162 : Cond.methodLink RX7 162 yX0_bringIn ∈ lw_tbl := ce_t (i := 731) (by decide +kernel)
theorem kRX0_128 : Cond.methodLink RX0 128 yX3_lay ∈ lw_tbl := ce_t (i := 735) (by decide +kernel)
theorem kRX3_34 : Cond.methodLink RX3 34 yX3_binToFillUp ∈ lw_tbl := ce_t (i := 739) (by decide +kernel)
theorem kRX3_37 : Cond.methodLink RX3 37 yX3_emptyBinFor ∈ lw_tbl := ce_t (i := 743) (by decide +kernel)
theorem kRX3_50 : Cond.methodLink RX3 50 yX3_suitsBetter ∈ lw_tbl := ce_t (i := 747) (by decide +kernel)
theorem kRL_154 : Cond.methodLink RL 154 yL_cork ∈ lw_tbl := ce_t (i := 750) (by decide +kernel)
theorem kRL_73 : Cond.methodLink RL 73 yX7_cork ∈ lw_tbl := ce_t (i := 753) (by decide +kernel)
theorem kRX7_178 : Cond.methodLink RX7 178 yX0_corkFault ∈ lw_tbl := ce_t (i := 757) (by decide +kernel)
theorem kRX7_181 : Cond.methodLink RX7 181 yX0_replaceCorked ∈ lw_tbl := ce_t (i := 761) (by decide +kernel)
theorem kRL_156 : Cond.methodLink RL 156 yL_pay ∈ lw_tbl := ce_t (i := 765) (by decide +kernel)
theorem kRL_79 : Cond.methodLink RL 79 yX7_pay ∈ lw_tbl := ce_t (i := 768) (by decide +kernel)
theorem kRX7_190 : Cond.methodLink RX7 190 yX0_settle ∈ lw_tbl := ce_t (i := 772) (by decide +kernel)
theorem kRL_158 : Cond.methodLink RL 158 yL_wouldGet ∈ lw_tbl := ce_t (i := 776) (by decide +kernel)
theorem kRL_85 : Cond.methodLink RL 85 yX7_wouldGet ∈ lw_tbl := ce_t (i := 779) (by decide +kernel)
theorem kRX7_204 : Cond.methodLink RX7 204 yX4_begin ∈ lw_tbl := ce_t (i := 783) (by decide +kernel)
theorem kRX4_18 : Cond.methodLink RX4 18 yX0_copyFrom ∈ lw_tbl := ce_t (i := 787) (by decide +kernel)
theorem kRX7_207 : Cond.methodLink RX7 207 yX4_allocates ∈ lw_tbl := ce_t (i := 788) (by decide +kernel)
theorem kRX4_84 : Cond.methodLink RX4 84 yX0_allocationFault ∈ lw_tbl := ce_t (i := 792) (by decide +kernel)
theorem kRX4_88 : Cond.methodLink RX4 88 yX0_shareOut ∈ lw_tbl := ce_t (i := 793) (by decide +kernel)
theorem kRX7_217 : Cond.methodLink RX7 217 yX5_of ∈ lw_tbl := ce_t (i := 794) (by decide +kernel)
theorem kRL_162 : Cond.methodLink RL 162 yL_shortest ∈ lw_tbl := ce_t (i := 796) (by decide +kernel)
