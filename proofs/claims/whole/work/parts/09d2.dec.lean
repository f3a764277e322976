theorem dX8_wineAt_4 : decode cX8_wineAt 4 = .ok (.iload_n 0, 1) := by decide +kernel
theorem dX8_wineAt_5 : decode cX8_wineAt 5 = .ok (.imul, 1) := by decide +kernel
theorem dX8_wineAt_6 : decode cX8_wineAt 6 = .ok (.iadd, 1) := by decide +kernel
theorem dX8_wineAt_7 : decode cX8_wineAt 7 = .ok (.ireturn, 1) := by decide +kernel
theorem dX8_binAt_0 : decode cX8_binAt 0 = .ok (.bipush 57, 2) := by decide +kernel
theorem dX8_binAt_2 : decode cX8_binAt 2 = .ok (.iconst 3, 1) := by decide +kernel
theorem dX8_binAt_3 : decode cX8_binAt 3 = .ok (.iload_n 0, 1) := by decide +kernel
theorem dX8_binAt_4 : decode cX8_binAt 4 = .ok (.imul, 1) := by decide +kernel
theorem dX8_binAt_5 : decode cX8_binAt 5 = .ok (.iadd, 1) := by decide +kernel
theorem dX8_binAt_6 : decode cX8_binAt 6 = .ok (.ireturn, 1) := by decide +kernel
theorem dX8_hold_0 : decode cX8_hold 0 = .ok (.bipush 81, 2) := by decide +kernel
theorem dX8_hold_2 : decode cX8_hold 2 = .ok (.bipush 18, 2) := by decide +kernel
theorem dX8_hold_4 : decode cX8_hold 4 = .ok (.iload_n 0, 1) := by decide +kernel
theorem dX8_hold_5 : decode cX8_hold 5 = .ok (.imul, 1) := by decide +kernel
theorem dX8_hold_6 : decode cX8_hold 6 = .ok (.iadd, 1) := by decide +kernel
theorem dX8_hold_7 : decode cX8_hold 7 = .ok (.iconst 3, 1) := by decide +kernel
theorem dX8_hold_8 : decode cX8_hold 8 = .ok (.iload_n 1, 1) := by decide +kernel
theorem dX8_hold_9 : decode cX8_hold 9 = .ok (.imul, 1) := by decide +kernel
theorem dX8_hold_10 : decode cX8_hold 10 = .ok (.iadd, 1) := by decide +kernel
theorem dX8_hold_11 : decode cX8_hold 11 = .ok (.ireturn, 1) := by decide +kernel
theorem dX8_allOf_0 : decode cX8_allOf 0 = .ok (.iconst 0, 1) := by decide +kernel
theorem dX8_allOf_1 : decode cX8_allOf 1 = .ok (.istore_n 3, 1) := by decide +kernel
theorem dX8_allOf_2 : decode cX8_allOf 2 = .ok (.iconst 0, 1) := by decide +kernel
theorem dX8_allOf_3 : decode cX8_allOf 3 = .ok (.istore 4, 2) := by decide +kernel
theorem dX8_allOf_5 : decode cX8_allOf 5 = .ok (.iload 4, 2) := by decide +kernel
theorem dX8_allOf_7 : decode cX8_allOf 7 = .ok (.aload_n 0, 1) := by decide +kernel
theorem dX8_allOf_8 : decode cX8_allOf 8 = .ok (.iconst 0, 1) := by decide +kernel
theorem dX8_allOf_9 : decode cX8_allOf 9 = .ok (.iaload, 1) := by decide +kernel
theorem dX8_allOf_10 : decode cX8_allOf 10 = .ok (.if_icmp .ge 22, 3) := by decide +kernel
theorem dX8_allOf_13 : decode cX8_allOf 13 = .ok (.iload_n 3, 1) := by decide +kernel
theorem dX8_allOf_14 : decode cX8_allOf 14 = .ok (.aload_n 0, 1) := by decide +kernel
theorem dX8_allOf_15 : decode cX8_allOf 15 = .ok (.iload 4, 2) := by decide +kernel
theorem dX8_allOf_17 : decode cX8_allOf 17 = .ok (.iload_n 1, 1) := by decide +kernel
theorem dX8_allOf_18 : decode cX8_allOf 18 = .ok (.invokestatic 54, 3) := by decide +kernel
theorem dX8_allOf_21 : decode cX8_allOf 21 = .ok (.iload_n 2, 1) := by decide +kernel
theorem dX8_allOf_22 : decode cX8_allOf 22 = .ok (.iadd, 1) := by decide +kernel
theorem dX8_allOf_23 : decode cX8_allOf 23 = .ok (.iaload, 1) := by decide +kernel
theorem dX8_allOf_24 : decode cX8_allOf 24 = .ok (.iadd, 1) := by decide +kernel
theorem dX8_allOf_25 : decode cX8_allOf 25 = .ok (.istore_n 3, 1) := by decide +kernel
theorem dX8_allOf_26 : decode cX8_allOf 26 = .ok (.iinc 4 1, 3) := by decide +kernel
theorem dX8_allOf_29 : decode cX8_allOf 29 = .ok (.goto (-24), 3) := by decide +kernel
theorem dX8_allOf_32 : decode cX8_allOf 32 = .ok (.iload_n 3, 1) := by decide +kernel
theorem dX8_allOf_33 : decode cX8_allOf 33 = .ok (.ireturn, 1) := by decide +kernel
theorem dX8_ownedBy_0 : decode cX8_ownedBy 0 = .ok (.iconst 0, 1) := by decide +kernel
theorem dX8_ownedBy_1 : decode cX8_ownedBy 1 = .ok (.istore_n 2, 1) := by decide +kernel
theorem dX8_ownedBy_2 : decode cX8_ownedBy 2 = .ok (.iconst 0, 1) := by decide +kernel
theorem dX8_ownedBy_3 : decode cX8_ownedBy 3 = .ok (.istore_n 3, 1) := by decide +kernel
theorem dX8_ownedBy_4 : decode cX8_ownedBy 4 = .ok (.iload_n 3, 1) := by decide +kernel
theorem dX8_ownedBy_5 : decode cX8_ownedBy 5 = .ok (.aload_n 0, 1) := by decide +kernel
theorem dX8_ownedBy_6 : decode cX8_ownedBy 6 = .ok (.iconst 1, 1) := by decide +kernel
theorem dX8_ownedBy_7 : decode cX8_ownedBy 7 = .ok (.iaload, 1) := by decide +kernel
theorem dX8_ownedBy_8 : decode cX8_ownedBy 8 = .ok (.if_icmp .ge 21, 3) := by decide +kernel
theorem dX8_ownedBy_11 : decode cX8_ownedBy 11 = .ok (.iload_n 2, 1) := by decide +kernel
theorem dX8_ownedBy_12 : decode cX8_ownedBy 12 = .ok (.aload_n 0, 1) := by decide +kernel
theorem dX8_ownedBy_13 : decode cX8_ownedBy 13 = .ok (.iload_n 1, 1) := by decide +kernel
theorem dX8_ownedBy_14 : decode cX8_ownedBy 14 = .ok (.iload_n 3, 1) := by decide +kernel
theorem dX8_ownedBy_15 : decode cX8_ownedBy 15 = .ok (.invokestatic 54, 3) := by decide +kernel
theorem dX8_ownedBy_18 : decode cX8_ownedBy 18 = .ok (.iconst 2, 1) := by decide +kernel
theorem dX8_ownedBy_19 : decode cX8_ownedBy 19 = .ok (.iadd, 1) := by decide +kernel
theorem dX8_ownedBy_20 : decode cX8_ownedBy 20 = .ok (.iaload, 1) := by decide +kernel
theorem dX8_ownedBy_21 : decode cX8_ownedBy 21 = .ok (.iadd, 1) := by decide +kernel
theorem dX8_ownedBy_22 : decode cX8_ownedBy 22 = .ok (.istore_n 2, 1) := by decide +kernel
theorem dX8_ownedBy_23 : decode cX8_ownedBy 23 = .ok (.iinc 3 1, 3) := by decide +kernel
theorem dX8_ownedBy_26 : decode cX8_ownedBy 26 = .ok (.goto (-22), 3) := by decide +kernel
theorem dX8_ownedBy_29 : decode cX8_ownedBy 29 = .ok (.iload_n 2, 1) := by decide +kernel
theorem dX8_ownedBy_30 : decode cX8_ownedBy 30 = .ok (.ireturn, 1) := by decide +kernel
theorem dX8_cellar_0 : decode cX8_cellar 0 = .ok (.iconst 0, 1) := by decide +kernel
theorem dX8_cellar_1 : decode cX8_cellar 1 = .ok (.istore_n 1, 1) := by decide +kernel
theorem dX8_cellar_2 : decode cX8_cellar 2 = .ok (.iconst 0, 1) := by decide +kernel
theorem dX8_cellar_3 : decode cX8_cellar 3 = .ok (.istore_n 2, 1) := by decide +kernel
theorem dX8_cellar_4 : decode cX8_cellar 4 = .ok (.iload_n 2, 1) := by decide +kernel
theorem dX8_cellar_5 : decode cX8_cellar 5 = .ok (.aload_n 0, 1) := by decide +kernel
theorem dX8_cellar_6 : decode cX8_cellar 6 = .ok (.iconst 2, 1) := by decide +kernel
theorem dX8_cellar_7 : decode cX8_cellar 7 = .ok (.iaload, 1) := by decide +kernel
theorem dX8_cellar_8 : decode cX8_cellar 8 = .ok (.if_icmp .ge 20, 3) := by decide +kernel
theorem dX8_cellar_11 : decode cX8_cellar 11 = .ok (.iload_n 1, 1) := by decide +kernel
theorem dX8_cellar_12 : decode cX8_cellar 12 = .ok (.aload_n 0, 1) := by decide +kernel
theorem dX8_cellar_13 : decode cX8_cellar 13 = .ok (.iload_n 2, 1) := by decide +kernel
theorem dX8_cellar_14 : decode cX8_cellar 14 = .ok (.invokestatic 58, 3) := by decide +kernel
theorem dX8_cellar_17 : decode cX8_cellar 17 = .ok (.iconst 2, 1) := by decide +kernel
theorem dX8_cellar_18 : decode cX8_cellar 18 = .ok (.iadd, 1) := by decide +kernel
theorem dX8_cellar_19 : decode cX8_cellar 19 = .ok (.iaload, 1) := by decide +kernel
theorem dX8_cellar_20 : decode cX8_cellar 20 = .ok (.iadd, 1) := by decide +kernel
theorem dX8_cellar_21 : decode cX8_cellar 21 = .ok (.istore_n 1, 1) := by decide +kernel
theorem dX8_cellar_22 : decode cX8_cellar 22 = .ok (.iinc 2 1, 3) := by decide +kernel
theorem dX8_cellar_25 : decode cX8_cellar 25 = .ok (.goto (-21), 3) := by decide +kernel
theorem dX8_cellar_28 : decode cX8_cellar 28 = .ok (.iload_n 1, 1) := by decide +kernel
theorem dX8_cellar_29 : decode cX8_cellar 29 = .ok (.ireturn, 1) := by decide +kernel
theorem dX8_emptyBins_0 : decode cX8_emptyBins 0 = .ok (.iconst 0, 1) := by decide +kernel
theorem dX8_emptyBins_1 : decode cX8_emptyBins 1 = .ok (.istore_n 1, 1) := by decide +kernel
theorem dX8_emptyBins_2 : decode cX8_emptyBins 2 = .ok (.iconst 0, 1) := by decide +kernel
theorem dX8_emptyBins_3 : decode cX8_emptyBins 3 = .ok (.istore_n 2, 1) := by decide +kernel
theorem dX8_emptyBins_4 : decode cX8_emptyBins 4 = .ok (.iload_n 2, 1) := by decide +kernel
theorem dX8_emptyBins_5 : decode cX8_emptyBins 5 = .ok (.aload_n 0, 1) := by decide +kernel
theorem dX8_emptyBins_6 : decode cX8_emptyBins 6 = .ok (.iconst 2, 1) := by decide +kernel
theorem dX8_emptyBins_7 : decode cX8_emptyBins 7 = .ok (.iaload, 1) := by decide +kernel
theorem dX8_emptyBins_8 : decode cX8_emptyBins 8 = .ok (.if_icmp .ge 28, 3) := by decide +kernel
theorem dX8_emptyBins_11 : decode cX8_emptyBins 11 = .ok (.iload_n 1, 1) := by decide +kernel
theorem dX8_emptyBins_12 : decode cX8_emptyBins 12 = .ok (.aload_n 0, 1) := by decide +kernel
theorem dX8_emptyBins_13 : decode cX8_emptyBins 13 = .ok (.iload_n 2, 1) := by decide +kernel
theorem dX8_emptyBins_14 : decode cX8_emptyBins 14 = .ok (.invokestatic 58, 3) := by decide +kernel
theorem dX8_emptyBins_17 : decode cX8_emptyBins 17 = .ok (.iconst 2, 1) := by decide +kernel
theorem dX8_emptyBins_18 : decode cX8_emptyBins 18 = .ok (.iadd, 1) := by decide +kernel
theorem dX8_emptyBins_19 : decode cX8_emptyBins 19 = .ok (.iaload, 1) := by decide +kernel
theorem dX8_emptyBins_20 : decode cX8_emptyBins 20 = .ok (.ifCond .ne 7, 3) := by decide +kernel
theorem dX8_emptyBins_23 : decode cX8_emptyBins 23 = .ok (.iconst 1, 1) := by decide +kernel
theorem dX8_emptyBins_24 : decode cX8_emptyBins 24 = .ok (.goto 4, 3) := by decide +kernel
theorem dX8_emptyBins_27 : decode cX8_emptyBins 27 = .ok (.iconst 0, 1) := by decide +kernel
theorem dX8_emptyBins_28 : decode cX8_emptyBins 28 = .ok (.iadd, 1) := by decide +kernel
theorem dX8_emptyBins_29 : decode cX8_emptyBins 29 = .ok (.istore_n 1, 1) := by decide +kernel
theorem dX8_emptyBins_30 : decode cX8_emptyBins 30 = .ok (.iinc 2 1, 3) := by decide +kernel
theorem dX8_emptyBins_33 : decode cX8_emptyBins 33 = .ok (.goto (-29), 3) := by decide +kernel
theorem dX8_emptyBins_36 : decode cX8_emptyBins 36 = .ok (.iload_n 1, 1) := by decide +kernel
theorem dX8_emptyBins_37 : decode cX8_emptyBins 37 = .ok (.ireturn, 1) := by decide +kernel
theorem dX8_roomIn_0 : decode cX8_roomIn 0 = .ok (.aload_n 0, 1) := by decide +kernel
theorem dX8_roomIn_1 : decode cX8_roomIn 1 = .ok (.iload_n 1, 1) := by decide +kernel
theorem dX8_roomIn_2 : decode cX8_roomIn 2 = .ok (.invokestatic 58, 3) := by decide +kernel
theorem dX8_roomIn_5 : decode cX8_roomIn 5 = .ok (.iaload, 1) := by decide +kernel
theorem dX8_roomIn_6 : decode cX8_roomIn 6 = .ok (.aload_n 0, 1) := by decide +kernel
theorem dX8_roomIn_7 : decode cX8_roomIn 7 = .ok (.iload_n 1, 1) := by decide +kernel
theorem dX8_roomIn_8 : decode cX8_roomIn 8 = .ok (.invokestatic 58, 3) := by decide +kernel
theorem dX8_roomIn_11 : decode cX8_roomIn 11 = .ok (.iconst 2, 1) := by decide +kernel
theorem dX8_roomIn_12 : decode cX8_roomIn 12 = .ok (.iadd, 1) := by decide +kernel
theorem dX8_roomIn_13 : decode cX8_roomIn 13 = .ok (.iaload, 1) := by decide +kernel
theorem dX8_roomIn_14 : decode cX8_roomIn 14 = .ok (.isub, 1) := by decide +kernel
theorem dX8_roomIn_15 : decode cX8_roomIn 15 = .ok (.ireturn, 1) := by decide +kernel
theorem dX8_ofWine_0 : decode cX8_ofWine 0 = .ok (.iconst 0, 1) := by decide +kernel
theorem dX8_ofWine_1 : decode cX8_ofWine 1 = .ok (.istore_n 2, 1) := by decide +kernel
theorem dX8_ofWine_2 : decode cX8_ofWine 2 = .ok (.iconst 0, 1) := by decide +kernel
theorem dX8_ofWine_3 : decode cX8_ofWine 3 = .ok (.istore_n 3, 1) := by decide +kernel
theorem dX8_ofWine_4 : decode cX8_ofWine 4 = .ok (.iload_n 3, 1) := by decide +kernel
theorem dX8_ofWine_5 : decode cX8_ofWine 5 = .ok (.aload_n 0, 1) := by decide +kernel
theorem dX8_ofWine_6 : decode cX8_ofWine 6 = .ok (.iconst 1, 1) := by decide +kernel
theorem dX8_ofWine_7 : decode cX8_ofWine 7 = .ok (.iaload, 1) := by decide +kernel
theorem dX8_ofWine_8 : decode cX8_ofWine 8 = .ok (.if_icmp .ge 20, 3) := by decide +kernel
theorem dX8_ofWine_11 : decode cX8_ofWine 11 = .ok (.iload_n 2, 1) := by decide +kernel
theorem dX8_ofWine_12 : decode cX8_ofWine 12 = .ok (.aload_n 0, 1) := by decide +kernel
theorem dX8_ofWine_13 : decode cX8_ofWine 13 = .ok (.iload_n 3, 1) := by decide +kernel
theorem dX8_ofWine_14 : decode cX8_ofWine 14 = .ok (.invokestatic 62, 3) := by decide +kernel
theorem dX8_ofWine_17 : decode cX8_ofWine 17 = .ok (.iload_n 1, 1) := by decide +kernel
theorem dX8_ofWine_18 : decode cX8_ofWine 18 = .ok (.iadd, 1) := by decide +kernel
theorem dX8_ofWine_19 : decode cX8_ofWine 19 = .ok (.iaload, 1) := by decide +kernel
theorem dX8_ofWine_20 : decode cX8_ofWine 20 = .ok (.iadd, 1) := by decide +kernel
theorem dX8_ofWine_21 : decode cX8_ofWine 21 = .ok (.istore_n 2, 1) := by decide +kernel
theorem dX8_ofWine_22 : decode cX8_ofWine 22 = .ok (.iinc 3 1, 3) := by decide +kernel
theorem dX8_ofWine_25 : decode cX8_ofWine 25 = .ok (.goto (-21), 3) := by decide +kernel
theorem dX8_ofWine_28 : decode cX8_ofWine 28 = .ok (.iload_n 2, 1) := by decide +kernel
theorem dX8_ofWine_29 : decode cX8_ofWine 29 = .ok (.ireturn, 1) := by decide +kernel
theorem dX8_hasWine_0 : decode cX8_hasWine 0 = .ok (.aload_n 0, 1) := by decide +kernel
theorem dX8_hasWine_1 : decode cX8_hasWine 1 = .ok (.iload_n 1, 1) := by decide +kernel
theorem dX8_hasWine_2 : decode cX8_hasWine 2 = .ok (.invokestatic 58, 3) := by decide +kernel
theorem dX8_hasWine_5 : decode cX8_hasWine 5 = .ok (.iconst 2, 1) := by decide +kernel
theorem dX8_hasWine_6 : decode cX8_hasWine 6 = .ok (.iadd, 1) := by decide +kernel
theorem dX8_hasWine_7 : decode cX8_hasWine 7 = .ok (.iaload, 1) := by decide +kernel
theorem dX8_hasWine_8 : decode cX8_hasWine 8 = .ok (.ifCond .le 21, 3) := by decide +kernel
theorem dX8_hasWine_11 : decode cX8_hasWine 11 = .ok (.aload_n 0, 1) := by decide +kernel
theorem dX8_hasWine_12 : decode cX8_hasWine 12 = .ok (.iload_n 1, 1) := by decide +kernel
theorem dX8_hasWine_13 : decode cX8_hasWine 13 = .ok (.invokestatic 58, 3) := by decide +kernel
theorem dX8_hasWine_16 : decode cX8_hasWine 16 = .ok (.iconst 1, 1) := by decide +kernel
theorem dX8_hasWine_17 : decode cX8_hasWine 17 = .ok (.iadd, 1) := by decide +kernel
theorem dX8_hasWine_18 : decode cX8_hasWine 18 = .ok (.iaload, 1) := by decide +kernel
theorem dX8_hasWine_19 : decode cX8_hasWine 19 = .ok (.iload_n 2, 1) := by decide +kernel
theorem dX8_hasWine_20 : decode cX8_hasWine 20 = .ok (.iconst 1, 1) := by decide +kernel
theorem dX8_hasWine_21 : decode cX8_hasWine 21 = .ok (.iadd, 1) := by decide +kernel
theorem dX8_hasWine_22 : decode cX8_hasWine 22 = .ok (.if_icmp .ne 7, 3) := by decide +kernel
theorem dX8_hasWine_25 : decode cX8_hasWine 25 = .ok (.iconst 1, 1) := by decide +kernel
theorem dX8_hasWine_26 : decode cX8_hasWine 26 = .ok (.goto 4, 3) := by decide +kernel
theorem dX8_hasWine_29 : decode cX8_hasWine 29 = .ok (.iconst 0, 1) := by decide +kernel
theorem dX8_hasWine_30 : decode cX8_hasWine 30 = .ok (.ireturn, 1) := by decide +kernel
theorem dX8_tightest_0 : decode cX8_tightest 0 = .ok (.ldc 65, 2) := by decide +kernel
theorem dX8_tightest_2 : decode cX8_tightest 2 = .ok (.istore_n 2, 1) := by decide +kernel
theorem dX8_tightest_3 : decode cX8_tightest 3 = .ok (.iconst 0, 1) := by decide +kernel
theorem dX8_tightest_4 : decode cX8_tightest 4 = .ok (.istore_n 3, 1) := by decide +kernel
theorem dX8_tightest_5 : decode cX8_tightest 5 = .ok (.iload_n 3, 1) := by decide +kernel
theorem dX8_tightest_6 : decode cX8_tightest 6 = .ok (.aload_n 0, 1) := by decide +kernel
theorem dX8_tightest_7 : decode cX8_tightest 7 = .ok (.iconst 2, 1) := by decide +kernel
theorem dX8_tightest_8 : decode cX8_tightest 8 = .ok (.iaload, 1) := by decide +kernel
theorem dX8_tightest_9 : decode cX8_tightest 9 = .ok (.if_icmp .ge 63, 3) := by decide +kernel
theorem dX8_tightest_12 : decode cX8_tightest 12 = .ok (.aload_n 0, 1) := by decide +kernel
theorem dX8_tightest_13 : decode cX8_tightest 13 = .ok (.iload_n 3, 1) := by decide +kernel
theorem dX8_tightest_14 : decode cX8_tightest 14 = .ok (.iload_n 1, 1) := by decide +kernel
theorem dX8_tightest_15 : decode cX8_tightest 15 = .ok (.invokestatic 66, 3) := by decide +kernel
theorem dX8_tightest_18 : decode cX8_tightest 18 = .ok (.ifCond .eq 15, 3) := by decide +kernel
theorem dX8_tightest_21 : decode cX8_tightest 21 = .ok (.aload_n 0, 1) := by decide +kernel
theorem dX8_tightest_22 : decode cX8_tightest 22 = .ok (.iload_n 3, 1) := by decide +kernel
theorem dX8_tightest_23 : decode cX8_tightest 23 = .ok (.invokestatic 70, 3) := by decide +kernel
theorem dX8_tightest_26 : decode cX8_tightest 26 = .ok (.ifCond .le 7, 3) := by decide +kernel
theorem dX8_tightest_29 : decode cX8_tightest 29 = .ok (.iconst 1, 1) := by decide +kernel
theorem dX8_tightest_30 : decode cX8_tightest 30 = .ok (.goto 4, 3) := by decide +kernel
theorem dX8_tightest_33 : decode cX8_tightest 33 = .ok (.iconst 0, 1) := by decide +kernel
theorem dX8_tightest_34 : decode cX8_tightest 34 = .ok (.istore 4, 2) := by decide +kernel
theorem dX8_tightest_36 : decode cX8_tightest 36 = .ok (.iload 4, 2) := by decide +kernel
theorem dX8_tightest_38 : decode cX8_tightest 38 = .ok (.ifCond .eq 26, 3) := by decide +kernel
theorem dX8_tightest_41 : decode cX8_tightest 41 = .ok (.iload_n 2, 1) := by decide +kernel
theorem dX8_tightest_42 : decode cX8_tightest 42 = .ok (.ldc 65, 2) := by decide +kernel
theorem dX8_tightest_44 : decode cX8_tightest 44 = .ok (.if_icmp .eq 16, 3) := by decide +kernel
theorem dX8_tightest_47 : decode cX8_tightest 47 = .ok (.aload_n 0, 1) := by decide +kernel
theorem dX8_tightest_48 : decode cX8_tightest 48 = .ok (.iload_n 3, 1) := by decide +kernel
theorem dX8_tightest_49 : decode cX8_tightest 49 = .ok (.invokestatic 70, 3) := by decide +kernel
theorem dX8_tightest_52 : decode cX8_tightest 52 = .ok (.aload_n 0, 1) := by decide +kernel
theorem dX8_tightest_53 : decode cX8_tightest 53 = .ok (.iload_n 2, 1) := by decide +kernel
theorem dX8_tightest_54 : decode cX8_tightest 54 = .ok (.invokestatic 70, 3) := by decide +kernel
theorem dX8_tightest_57 : decode cX8_tightest 57 = .ok (.if_icmp .ge 7, 3) := by decide +kernel
theorem dX8_tightest_60 : decode cX8_tightest 60 = .ok (.iload_n 3, 1) := by decide +kernel
theorem dX8_tightest_61 : decode cX8_tightest 61 = .ok (.goto 4, 3) := by decide +kernel
theorem dX8_tightest_64 : decode cX8_tightest 64 = .ok (.iload_n 2, 1) := by decide +kernel
theorem dX8_tightest_65 : decode cX8_tightest 65 = .ok (.istore_n 2, 1) := by decide +kernel
theorem dX8_tightest_66 : decode cX8_tightest 66 = .ok (.iinc 3 1, 3) := by decide +kernel
theorem dX8_tightest_69 : decode cX8_tightest 69 = .ok (.goto (-64), 3) := by decide +kernel
theorem dX8_tightest_72 : decode cX8_tightest 72 = .ok (.iload_n 2, 1) := by decide +kernel
theorem dX8_tightest_73 : decode cX8_tightest 73 = .ok (.ireturn, 1) := by decide +kernel
theorem dX8_emptyFor_0 : decode cX8_emptyFor 0 = .ok (.ldc 65, 2) := by decide +kernel
theorem dX8_emptyFor_2 : decode cX8_emptyFor 2 = .ok (.istore_n 2, 1) := by decide +kernel
theorem dX8_emptyFor_3 : decode cX8_emptyFor 3 = .ok (.ldc 65, 2) := by decide +kernel
theorem dX8_emptyFor_5 : decode cX8_emptyFor 5 = .ok (.istore_n 3, 1) := by decide +kernel
theorem dX8_emptyFor_6 : decode cX8_emptyFor 6 = .ok (.iconst 0, 1) := by decide +kernel
theorem dX8_emptyFor_7 : decode cX8_emptyFor 7 = .ok (.istore 4, 2) := by decide +kernel
theorem dX8_emptyFor_9 : decode cX8_emptyFor 9 = .ok (.iload 4, 2) := by decide +kernel
theorem dX8_emptyFor_11 : decode cX8_emptyFor 11 = .ok (.aload_n 0, 1) := by decide +kernel
theorem dX8_emptyFor_12 : decode cX8_emptyFor 12 = .ok (.iconst 2, 1) := by decide +kernel
theorem dX8_emptyFor_13 : decode cX8_emptyFor 13 = .ok (.iaload, 1) := by decide +kernel
theorem dX8_emptyFor_14 : decode cX8_emptyFor 14 = .ok (.if_icmp .ge 93, 3) := by decide +kernel
theorem dX8_emptyFor_17 : decode cX8_emptyFor 17 = .ok (.aload_n 0, 1) := by decide +kernel
theorem dX8_emptyFor_18 : decode cX8_emptyFor 18 = .ok (.iload 4, 2) := by decide +kernel
theorem dX8_emptyFor_20 : decode cX8_emptyFor 20 = .ok (.invokestatic 58, 3) := by decide +kernel
theorem dX8_emptyFor_23 : decode cX8_emptyFor 23 = .ok (.iconst 2, 1) := by decide +kernel
theorem dX8_emptyFor_24 : decode cX8_emptyFor 24 = .ok (.iadd, 1) := by decide +kernel
theorem dX8_emptyFor_25 : decode cX8_emptyFor 25 = .ok (.iaload, 1) := by decide +kernel
theorem dX8_emptyFor_26 : decode cX8_emptyFor 26 = .ok (.ifCond .ne 13, 3) := by decide +kernel
theorem dX8_emptyFor_29 : decode cX8_emptyFor 29 = .ok (.aload_n 0, 1) := by decide +kernel
theorem dX8_emptyFor_30 : decode cX8_emptyFor 30 = .ok (.iload 4, 2) := by decide +kernel
theorem dX8_emptyFor_32 : decode cX8_emptyFor 32 = .ok (.invokestatic 58, 3) := by decide +kernel
theorem dX8_emptyFor_35 : decode cX8_emptyFor 35 = .ok (.iaload, 1) := by decide +kernel
theorem dX8_emptyFor_36 : decode cX8_emptyFor 36 = .ok (.goto 4, 3) := by decide +kernel
theorem dX8_emptyFor_39 : decode cX8_emptyFor 39 = .ok (.iconst 0, 1) := by decide +kernel
theorem dX8_emptyFor_40 : decode cX8_emptyFor 40 = .ok (.istore 5, 2) := by decide +kernel
theorem dX8_emptyFor_42 : decode cX8_emptyFor 42 = .ok (.iload 5, 2) := by decide +kernel
theorem dX8_emptyFor_44 : decode cX8_emptyFor 44 = .ok (.iload_n 1, 1) := by decide +kernel
theorem dX8_emptyFor_45 : decode cX8_emptyFor 45 = .ok (.if_icmp .lt 25, 3) := by decide +kernel
theorem dX8_emptyFor_48 : decode cX8_emptyFor 48 = .ok (.iload_n 2, 1) := by decide +kernel
theorem dX8_emptyFor_49 : decode cX8_emptyFor 49 = .ok (.ldc 65, 2) := by decide +kernel
theorem dX8_emptyFor_51 : decode cX8_emptyFor 51 = .ok (.if_icmp .eq 14, 3) := by decide +kernel
theorem dX8_emptyFor_54 : decode cX8_emptyFor 54 = .ok (.iload 5, 2) := by decide +kernel
theorem dX8_emptyFor_56 : decode cX8_emptyFor 56 = .ok (.aload_n 0, 1) := by decide +kernel
theorem dX8_emptyFor_57 : decode cX8_emptyFor 57 = .ok (.iload_n 2, 1) := by decide +kernel
theorem dX8_emptyFor_58 : decode cX8_emptyFor 58 = .ok (.invokestatic 58, 3) := by decide +kernel
theorem dX8_emptyFor_61 : decode cX8_emptyFor 61 = .ok (.iaload, 1) := by decide +kernel
theorem dX8_emptyFor_62 : decode cX8_emptyFor 62 = .ok (.if_icmp .ge 8, 3) := by decide +kernel
theorem dX8_emptyFor_65 : decode cX8_emptyFor 65 = .ok (.iload 4, 2) := by decide +kernel
theorem dX8_emptyFor_67 : decode cX8_emptyFor 67 = .ok (.goto 4, 3) := by decide +kernel
theorem dX8_emptyFor_70 : decode cX8_emptyFor 70 = .ok (.iload_n 2, 1) := by decide +kernel
theorem dX8_emptyFor_71 : decode cX8_emptyFor 71 = .ok (.istore_n 2, 1) := by decide +kernel
theorem dX8_emptyFor_72 : decode cX8_emptyFor 72 = .ok (.iload 5, 2) := by decide +kernel
theorem dX8_emptyFor_74 : decode cX8_emptyFor 74 = .ok (.ifCond .le 25, 3) := by decide +kernel
theorem dX8_emptyFor_77 : decode cX8_emptyFor 77 = .ok (.iload_n 3, 1) := by decide +kernel
theorem dX8_emptyFor_78 : decode cX8_emptyFor 78 = .ok (.ldc 65, 2) := by decide +kernel
theorem dX8_emptyFor_80 : decode cX8_emptyFor 80 = .ok (.if_icmp .eq 14, 3) := by decide +kernel
theorem dX8_emptyFor_83 : decode cX8_emptyFor 83 = .ok (.iload 5, 2) := by decide +kernel
theorem dX8_emptyFor_85 : decode cX8_emptyFor 85 = .ok (.aload_n 0, 1) := by decide +kernel
theorem dX8_emptyFor_86 : decode cX8_emptyFor 86 = .ok (.iload_n 3, 1) := by decide +kernel
theorem dX8_emptyFor_87 : decode cX8_emptyFor 87 = .ok (.invokestatic 58, 3) := by decide +kernel
theorem dX8_emptyFor_90 : decode cX8_emptyFor 90 = .ok (.iaload, 1) := by decide +kernel
theorem dX8_emptyFor_91 : decode cX8_emptyFor 91 = .ok (.if_icmp .le 8, 3) := by decide +kernel
theorem dX8_emptyFor_94 : decode cX8_emptyFor 94 = .ok (.iload 4, 2) := by decide +kernel
theorem dX8_emptyFor_96 : decode cX8_emptyFor 96 = .ok (.goto 4, 3) := by decide +kernel
theorem dX8_emptyFor_99 : decode cX8_emptyFor 99 = .ok (.iload_n 3, 1) := by decide +kernel
theorem dX8_emptyFor_100 : decode cX8_emptyFor 100 = .ok (.istore_n 3, 1) := by decide +kernel
theorem dX8_emptyFor_101 : decode cX8_emptyFor 101 = .ok (.iinc 4 1, 3) := by decide +kernel
theorem dX8_emptyFor_104 : decode cX8_emptyFor 104 = .ok (.goto (-95), 3) := by decide +kernel
theorem dX8_emptyFor_107 : decode cX8_emptyFor 107 = .ok (.iload_n 2, 1) := by decide +kernel
theorem dX8_emptyFor_108 : decode cX8_emptyFor 108 = .ok (.ldc 65, 2) := by decide +kernel
theorem dX8_emptyFor_110 : decode cX8_emptyFor 110 = .ok (.if_icmp .ne 7, 3) := by decide +kernel
theorem dX8_emptyFor_113 : decode cX8_emptyFor 113 = .ok (.iload_n 3, 1) := by decide +kernel
theorem dX8_emptyFor_114 : decode cX8_emptyFor 114 = .ok (.goto 4, 3) := by decide +kernel
theorem dX8_emptyFor_117 : decode cX8_emptyFor 117 = .ok (.iload_n 2, 1) := by decide +kernel
theorem dX8_emptyFor_118 : decode cX8_emptyFor 118 = .ok (.ireturn, 1) := by decide +kernel
theorem dX8_lay_0 : decode cX8_lay 0 = .ok (.iload_n 2, 1) := by decide +kernel
theorem dX8_lay_1 : decode cX8_lay 1 = .ok (.istore_n 3, 1) := by decide +kernel
theorem dX8_lay_2 : decode cX8_lay 2 = .ok (.iload_n 3, 1) := by decide +kernel
theorem dX8_lay_3 : decode cX8_lay 3 = .ok (.ifCond .le 85, 3) := by decide +kernel
theorem dX8_lay_6 : decode cX8_lay 6 = .ok (.aload_n 0, 1) := by decide +kernel
theorem dX8_lay_7 : decode cX8_lay 7 = .ok (.iload_n 1, 1) := by decide +kernel
theorem dX8_lay_8 : decode cX8_lay 8 = .ok (.invokestatic 74, 3) := by decide +kernel
theorem dX8_lay_11 : decode cX8_lay 11 = .ok (.istore 4, 2) := by decide +kernel
theorem dX8_lay_13 : decode cX8_lay 13 = .ok (.iload 4, 2) := by decide +kernel
theorem dX8_lay_15 : decode cX8_lay 15 = .ok (.ldc 65, 2) := by decide +kernel
theorem dX8_lay_17 : decode cX8_lay 17 = .ok (.if_icmp .ne 11, 3) := by decide +kernel
theorem dX8_lay_20 : decode cX8_lay 20 = .ok (.aload_n 0, 1) := by decide +kernel
theorem dX8_lay_21 : decode cX8_lay 21 = .ok (.iload_n 3, 1) := by decide +kernel
theorem dX8_lay_22 : decode cX8_lay 22 = .ok (.invokestatic 77, 3) := by decide +kernel
theorem dX8_lay_25 : decode cX8_lay 25 = .ok (.goto 5, 3) := by decide +kernel
theorem dX8_lay_28 : decode cX8_lay 28 = .ok (.iload 4, 2) := by decide +kernel
theorem dX8_lay_30 : decode cX8_lay 30 = .ok (.istore 4, 2) := by decide +kernel
theorem dX8_lay_32 : decode cX8_lay 32 = .ok (.iload_n 3, 1) := by decide +kernel
theorem dX8_lay_33 : decode cX8_lay 33 = .ok (.aload_n 0, 1) := by decide +kernel
theorem dX8_lay_34 : decode cX8_lay 34 = .ok (.iload 4, 2) := by decide +kernel
theorem dX8_lay_36 : decode cX8_lay 36 = .ok (.invokestatic 70, 3) := by decide +kernel
theorem dX8_lay_39 : decode cX8_lay 39 = .ok (.if_icmp .ge 7, 3) := by decide +kernel
theorem dX8_lay_42 : decode cX8_lay 42 = .ok (.iload_n 3, 1) := by decide +kernel
theorem dX8_lay_43 : decode cX8_lay 43 = .ok (.goto 9, 3) := by decide +kernel
theorem dX8_lay_46 : decode cX8_lay 46 = .ok (.aload_n 0, 1) := by decide +kernel
theorem dX8_lay_47 : decode cX8_lay 47 = .ok (.iload 4, 2) := by decide +kernel
theorem dX8_lay_49 : decode cX8_lay 49 = .ok (.invokestatic 70, 3) := by decide +kernel
theorem dX8_lay_52 : decode cX8_lay 52 = .ok (.istore 5, 2) := by decide +kernel
theorem dX8_lay_54 : decode cX8_lay 54 = .ok (.aload_n 0, 1) := by decide +kernel
theorem dX8_lay_55 : decode cX8_lay 55 = .ok (.iload 4, 2) := by decide +kernel
theorem dX8_lay_57 : decode cX8_lay 57 = .ok (.invokestatic 58, 3) := by decide +kernel
theorem dX8_lay_60 : decode cX8_lay 60 = .ok (.iconst 1, 1) := by decide +kernel
theorem dX8_lay_61 : decode cX8_lay 61 = .ok (.iadd, 1) := by decide +kernel
theorem dX8_lay_62 : decode cX8_lay 62 = .ok (.iload_n 1, 1) := by decide +kernel
theorem dX8_lay_63 : decode cX8_lay 63 = .ok (.iconst 1, 1) := by decide +kernel
theorem dX8_lay_64 : decode cX8_lay 64 = .ok (.iadd, 1) := by decide +kernel
theorem dX8_lay_65 : decode cX8_lay 65 = .ok (.iastore, 1) := by decide +kernel
theorem dX8_lay_66 : decode cX8_lay 66 = .ok (.aload_n 0, 1) := by decide +kernel
theorem dX8_lay_67 : decode cX8_lay 67 = .ok (.iload 4, 2) := by decide +kernel
theorem dX8_lay_69 : decode cX8_lay 69 = .ok (.invokestatic 58, 3) := by decide +kernel
theorem dX8_lay_72 : decode cX8_lay 72 = .ok (.iconst 2, 1) := by decide +kernel
theorem dX8_lay_73 : decode cX8_lay 73 = .ok (.iadd, 1) := by decide +kernel
theorem dX8_lay_74 : decode cX8_lay 74 = .ok (.dup2, 1) := by decide +kernel
theorem dX8_lay_75 : decode cX8_lay 75 = .ok (.iaload, 1) := by decide +kernel
theorem dX8_lay_76 : decode cX8_lay 76 = .ok (.iload 5, 2) := by decide +kernel
theorem dX8_lay_78 : decode cX8_lay 78 = .ok (.iadd, 1) := by decide +kernel
theorem dX8_lay_79 : decode cX8_lay 79 = .ok (.iastore, 1) := by decide +kernel
theorem dX8_lay_80 : decode cX8_lay 80 = .ok (.iload_n 3, 1) := by decide +kernel
theorem dX8_lay_81 : decode cX8_lay 81 = .ok (.iload 5, 2) := by decide +kernel
theorem dX8_lay_83 : decode cX8_lay 83 = .ok (.isub, 1) := by decide +kernel
theorem dX8_lay_84 : decode cX8_lay 84 = .ok (.istore_n 3, 1) := by decide +kernel
theorem dX8_lay_85 : decode cX8_lay 85 = .ok (.goto (-83), 3) := by decide +kernel
theorem dX8_lay_88 : decode cX8_lay 88 = .ok (.return_, 1) := by decide +kernel
theorem dX8_take_0 : decode cX8_take 0 = .ok (.iload_n 2, 1) := by decide +kernel
theorem dX8_take_1 : decode cX8_take 1 = .ok (.istore_n 3, 1) := by decide +kernel
theorem dX8_take_2 : decode cX8_take 2 = .ok (.iload_n 3, 1) := by decide +kernel
theorem dX8_take_3 : decode cX8_take 3 = .ok (.ifCond .le 121, 3) := by decide +kernel
theorem dX8_take_6 : decode cX8_take 6 = .ok (.ldc 65, 2) := by decide +kernel
theorem dX8_take_8 : decode cX8_take 8 = .ok (.istore 4, 2) := by decide +kernel
theorem dX8_take_10 : decode cX8_take 10 = .ok (.iconst 0, 1) := by decide +kernel
theorem dX8_take_11 : decode cX8_take 11 = .ok (.istore 5, 2) := by decide +kernel
theorem dX8_take_13 : decode cX8_take 13 = .ok (.iload 5, 2) := by decide +kernel
theorem dX8_take_15 : decode cX8_take 15 = .ok (.aload_n 0, 1) := by decide +kernel
theorem dX8_take_16 : decode cX8_take 16 = .ok (.iconst 2, 1) := by decide +kernel
theorem dX8_take_17 : decode cX8_take 17 = .ok (.iaload, 1) := by decide +kernel
theorem dX8_take_18 : decode cX8_take 18 = .ok (.if_icmp .ge 56, 3) := by decide +kernel
theorem dX8_take_21 : decode cX8_take 21 = .ok (.aload_n 0, 1) := by decide +kernel
theorem dX8_take_22 : decode cX8_take 22 = .ok (.iload 5, 2) := by decide +kernel
theorem dX8_take_24 : decode cX8_take 24 = .ok (.iload_n 1, 1) := by decide +kernel
theorem dX8_take_25 : decode cX8_take 25 = .ok (.invokestatic 66, 3) := by decide +kernel
theorem dX8_take_28 : decode cX8_take 28 = .ok (.ifCond .eq 36, 3) := by decide +kernel
theorem dX8_take_31 : decode cX8_take 31 = .ok (.iload 4, 2) := by decide +kernel
theorem dX8_take_33 : decode cX8_take 33 = .ok (.ldc 65, 2) := by decide +kernel
theorem dX8_take_35 : decode cX8_take 35 = .ok (.if_icmp .eq 24, 3) := by decide +kernel
theorem dX8_take_38 : decode cX8_take 38 = .ok (.aload_n 0, 1) := by decide +kernel
theorem dX8_take_39 : decode cX8_take 39 = .ok (.iload 5, 2) := by decide +kernel
theorem dX8_take_41 : decode cX8_take 41 = .ok (.invokestatic 58, 3) := by decide +kernel
theorem dX8_take_44 : decode cX8_take 44 = .ok (.iconst 2, 1) := by decide +kernel
theorem dX8_take_45 : decode cX8_take 45 = .ok (.iadd, 1) := by decide +kernel
theorem dX8_take_46 : decode cX8_take 46 = .ok (.iaload, 1) := by decide +kernel
theorem dX8_take_47 : decode cX8_take 47 = .ok (.aload_n 0, 1) := by decide +kernel
theorem dX8_take_48 : decode cX8_take 48 = .ok (.iload 4, 2) := by decide +kernel
theorem dX8_take_50 : decode cX8_take 50 = .ok (.invokestatic 58, 3) := by decide +kernel
theorem dX8_take_53 : decode cX8_take 53 = .ok (.iconst 2, 1) := by decide +kernel
theorem dX8_take_54 : decode cX8_take 54 = .ok (.iadd, 1) := by decide +kernel
theorem dX8_take_55 : decode cX8_take 55 = .ok (.iaload, 1) := by decide +kernel
theorem dX8_take_56 : decode cX8_take 56 = .ok (.if_icmp .gt 8, 3) := by decide +kernel
theorem dX8_take_59 : decode cX8_take 59 = .ok (.iload 5, 2) := by decide +kernel
theorem dX8_take_61 : decode cX8_take 61 = .ok (.goto 5, 3) := by decide +kernel
theorem dX8_take_64 : decode cX8_take 64 = .ok (.iload 4, 2) := by decide +kernel
theorem dX8_take_66 : decode cX8_take 66 = .ok (.istore 4, 2) := by decide +kernel
theorem dX8_take_68 : decode cX8_take 68 = .ok (.iinc 5 1, 3) := by decide +kernel
theorem dX8_take_71 : decode cX8_take 71 = .ok (.goto (-58), 3) := by decide +kernel
theorem dX8_take_74 : decode cX8_take 74 = .ok (.iload_n 3, 1) := by decide +kernel
theorem dX8_take_75 : decode cX8_take 75 = .ok (.aload_n 0, 1) := by decide +kernel
theorem dX8_take_76 : decode cX8_take 76 = .ok (.iload 4, 2) := by decide +kernel
theorem dX8_take_78 : decode cX8_take 78 = .ok (.invokestatic 58, 3) := by decide +kernel
theorem dX8_take_81 : decode cX8_take 81 = .ok (.iconst 2, 1) := by decide +kernel
theorem dX8_take_82 : decode cX8_take 82 = .ok (.iadd, 1) := by decide +kernel
theorem dX8_take_83 : decode cX8_take 83 = .ok (.iaload, 1) := by decide +kernel
theorem dX8_take_84 : decode cX8_take 84 = .ok (.if_icmp .ge 7, 3) := by decide +kernel
theorem dX8_take_87 : decode cX8_take 87 = .ok (.iload_n 3, 1) := by decide +kernel
theorem dX8_take_88 : decode cX8_take 88 = .ok (.goto 12, 3) := by decide +kernel
theorem dX8_take_91 : decode cX8_take 91 = .ok (.aload_n 0, 1) := by decide +kernel
theorem dX8_take_92 : decode cX8_take 92 = .ok (.iload 4, 2) := by decide +kernel
theorem dX8_take_94 : decode cX8_take 94 = .ok (.invokestatic 58, 3) := by decide +kernel
theorem dX8_take_97 : decode cX8_take 97 = .ok (.iconst 2, 1) := by decide +kernel
theorem dX8_take_98 : decode cX8_take 98 = .ok (.iadd, 1) := by decide +kernel
theorem dX8_take_99 : decode cX8_take 99 = .ok (.iaload, 1) := by decide +kernel
theorem dX8_take_100 : decode cX8_take 100 = .ok (.istore 5, 2) := by decide +kernel
theorem dX8_take_102 : decode cX8_take 102 = .ok (.aload_n 0, 1) := by decide +kernel
theorem dX8_take_103 : decode cX8_take 103 = .ok (.iload 4, 2) := by decide +kernel
theorem dX8_take_105 : decode cX8_take 105 = .ok (.invokestatic 58, 3) := by decide +kernel
theorem dX8_take_108 : decode cX8_take 108 = .ok (.iconst 2, 1) := by decide +kernel
theorem dX8_take_109 : decode cX8_take 109 = .ok (.iadd, 1) := by decide +kernel
theorem dX8_take_110 : decode cX8_take 110 = .ok (.dup2, 1) := by decide +kernel
theorem dX8_take_111 : decode cX8_take 111 = .ok (.iaload, 1) := by decide +kernel
theorem dX8_take_112 : decode cX8_take 112 = .ok (.iload 5, 2) := by decide +kernel
theorem dX8_take_114 : decode cX8_take 114 = .ok (.isub, 1) := by decide +kernel
theorem dX8_take_115 : decode cX8_take 115 = .ok (.iastore, 1) := by decide +kernel
theorem dX8_take_116 : decode cX8_take 116 = .ok (.iload_n 3, 1) := by decide +kernel
theorem dX8_take_117 : decode cX8_take 117 = .ok (.iload 5, 2) := by decide +kernel
theorem dX8_take_119 : decode cX8_take 119 = .ok (.isub, 1) := by decide +kernel
theorem dX8_take_120 : decode cX8_take 120 = .ok (.istore_n 3, 1) := by decide +kernel
theorem dX8_take_121 : decode cX8_take 121 = .ok (.goto (-119), 3) := by decide +kernel
theorem dX8_take_124 : decode cX8_take 124 = .ok (.return_, 1) := by decide +kernel
theorem dX8_roomOf_0 : decode cX8_roomOf 0 = .ok (.iconst 0, 1) := by decide +kernel
theorem dX8_roomOf_1 : decode cX8_roomOf 1 = .ok (.istore_n 2, 1) := by decide +kernel
theorem dX8_roomOf_2 : decode cX8_roomOf 2 = .ok (.iconst 0, 1) := by decide +kernel
theorem dX8_roomOf_3 : decode cX8_roomOf 3 = .ok (.istore_n 3, 1) := by decide +kernel
theorem dX8_roomOf_4 : decode cX8_roomOf 4 = .ok (.iload_n 3, 1) := by decide +kernel
theorem dX8_roomOf_5 : decode cX8_roomOf 5 = .ok (.aload_n 0, 1) := by decide +kernel
theorem dX8_roomOf_6 : decode cX8_roomOf 6 = .ok (.iconst 2, 1) := by decide +kernel
theorem dX8_roomOf_7 : decode cX8_roomOf 7 = .ok (.iaload, 1) := by decide +kernel
theorem dX8_roomOf_8 : decode cX8_roomOf 8 = .ok (.if_icmp .ge 41, 3) := by decide +kernel
theorem dX8_roomOf_11 : decode cX8_roomOf 11 = .ok (.iload_n 2, 1) := by decide +kernel
theorem dX8_roomOf_12 : decode cX8_roomOf 12 = .ok (.aload_n 0, 1) := by decide +kernel
theorem dX8_roomOf_13 : decode cX8_roomOf 13 = .ok (.iload_n 3, 1) := by decide +kernel
theorem dX8_roomOf_14 : decode cX8_roomOf 14 = .ok (.invokestatic 58, 3) := by decide +kernel
theorem dX8_roomOf_17 : decode cX8_roomOf 17 = .ok (.iconst 2, 1) := by decide +kernel
theorem dX8_roomOf_18 : decode cX8_roomOf 18 = .ok (.iadd, 1) := by decide +kernel
theorem dX8_roomOf_19 : decode cX8_roomOf 19 = .ok (.iaload, 1) := by decide +kernel
theorem dX8_roomOf_20 : decode cX8_roomOf 20 = .ok (.ifCond .eq 12, 3) := by decide +kernel
theorem dX8_roomOf_23 : decode cX8_roomOf 23 = .ok (.aload_n 0, 1) := by decide +kernel
theorem dX8_roomOf_24 : decode cX8_roomOf 24 = .ok (.iload_n 3, 1) := by decide +kernel
theorem dX8_roomOf_25 : decode cX8_roomOf 25 = .ok (.iload_n 1, 1) := by decide +kernel
theorem dX8_roomOf_26 : decode cX8_roomOf 26 = .ok (.invokestatic 66, 3) := by decide +kernel
theorem dX8_roomOf_29 : decode cX8_roomOf 29 = .ok (.ifCond .eq 11, 3) := by decide +kernel
theorem dX8_roomOf_32 : decode cX8_roomOf 32 = .ok (.aload_n 0, 1) := by decide +kernel
theorem dX8_roomOf_33 : decode cX8_roomOf 33 = .ok (.iload_n 3, 1) := by decide +kernel
theorem dX8_roomOf_34 : decode cX8_roomOf 34 = .ok (.invokestatic 70, 3) := by decide +kernel
theorem dX8_roomOf_37 : decode cX8_roomOf 37 = .ok (.goto 4, 3) := by decide +kernel
theorem dX8_roomOf_40 : decode cX8_roomOf 40 = .ok (.iconst 0, 1) := by decide +kernel
theorem dX8_roomOf_41 : decode cX8_roomOf 41 = .ok (.iadd, 1) := by decide +kernel
theorem dX8_roomOf_42 : decode cX8_roomOf 42 = .ok (.istore_n 2, 1) := by decide +kernel
theorem dX8_roomOf_43 : decode cX8_roomOf 43 = .ok (.iinc 3 1, 3) := by decide +kernel
theorem dX8_roomOf_46 : decode cX8_roomOf 46 = .ok (.goto (-42), 3) := by decide +kernel
theorem dX8_roomOf_49 : decode cX8_roomOf 49 = .ok (.iload_n 2, 1) := by decide +kernel
theorem dX8_roomOf_50 : decode cX8_roomOf 50 = .ok (.ireturn, 1) := by decide +kernel
theorem dX8_layGot_0 : decode cX8_layGot 0 = .ok (.iconst 0, 1) := by decide +kernel
theorem dX8_layGot_1 : decode cX8_layGot 1 = .ok (.istore_n 3, 1) := by decide +kernel
theorem dX8_layGot_2 : decode cX8_layGot 2 = .ok (.iload_n 3, 1) := by decide +kernel
theorem dX8_layGot_3 : decode cX8_layGot 3 = .ok (.bipush 6, 2) := by decide +kernel
theorem dX8_layGot_5 : decode cX8_layGot 5 = .ok (.if_icmp .ge 16, 3) := by decide +kernel
theorem dX8_layGot_8 : decode cX8_layGot 8 = .ok (.aload_n 0, 1) := by decide +kernel
theorem dX8_layGot_9 : decode cX8_layGot 9 = .ok (.getfield 32, 3) := by decide +kernel
theorem dX8_layGot_12 : decode cX8_layGot 12 = .ok (.iload_n 3, 1) := by decide +kernel
theorem dX8_layGot_13 : decode cX8_layGot 13 = .ok (.iconst 0, 1) := by decide +kernel
theorem dX8_layGot_14 : decode cX8_layGot 14 = .ok (.iastore, 1) := by decide +kernel
theorem dX8_layGot_15 : decode cX8_layGot 15 = .ok (.iinc 3 1, 3) := by decide +kernel
theorem dX8_layGot_18 : decode cX8_layGot 18 = .ok (.goto (-16), 3) := by decide +kernel
theorem dX8_layGot_21 : decode cX8_layGot 21 = .ok (.aload_n 1, 1) := by decide +kernel
theorem dX8_layGot_22 : decode cX8_layGot 22 = .ok (.iload_n 2, 1) := by decide +kernel
theorem dX8_layGot_23 : decode cX8_layGot 23 = .ok (.invokestatic 62, 3) := by decide +kernel
theorem dX8_layGot_26 : decode cX8_layGot 26 = .ok (.iconst 2, 1) := by decide +kernel
theorem dX8_layGot_27 : decode cX8_layGot 27 = .ok (.iadd, 1) := by decide +kernel
theorem dX8_layGot_28 : decode cX8_layGot 28 = .ok (.iaload, 1) := by decide +kernel
theorem dX8_layGot_29 : decode cX8_layGot 29 = .ok (.istore_n 3, 1) := by decide +kernel
theorem dX8_layGot_30 : decode cX8_layGot 30 = .ok (.iconst 0, 1) := by decide +kernel
theorem dX8_layGot_31 : decode cX8_layGot 31 = .ok (.istore 4, 2) := by decide +kernel
theorem dX8_layGot_33 : decode cX8_layGot 33 = .ok (.iconst 1, 1) := by decide +kernel
theorem dX8_layGot_34 : decode cX8_layGot 34 = .ok (.istore 5, 2) := by decide +kernel
theorem dX8_layGot_36 : decode cX8_layGot 36 = .ok (.iload 5, 2) := by decide +kernel
theorem dX8_layGot_38 : decode cX8_layGot 38 = .ok (.ifCond .eq 125, 3) := by decide +kernel
theorem dX8_layGot_41 : decode cX8_layGot 41 = .ok (.iload_n 3, 1) := by decide +kernel
theorem dX8_layGot_42 : decode cX8_layGot 42 = .ok (.ifCond .le 121, 3) := by decide +kernel
theorem dX8_layGot_45 : decode cX8_layGot 45 = .ok (.ldc 65, 2) := by decide +kernel
theorem dX8_layGot_47 : decode cX8_layGot 47 = .ok (.istore 6, 2) := by decide +kernel
theorem dX8_layGot_49 : decode cX8_layGot 49 = .ok (.iconst 0, 1) := by decide +kernel
theorem dX8_layGot_50 : decode cX8_layGot 50 = .ok (.istore 7, 2) := by decide +kernel
theorem dX8_layGot_52 : decode cX8_layGot 52 = .ok (.iload 7, 2) := by decide +kernel
theorem dX8_layGot_54 : decode cX8_layGot 54 = .ok (.aload_n 1, 1) := by decide +kernel
theorem dX8_layGot_55 : decode cX8_layGot 55 = .ok (.iconst 0, 1) := by decide +kernel
theorem dX8_layGot_56 : decode cX8_layGot 56 = .ok (.iaload, 1) := by decide +kernel
theorem dX8_layGot_57 : decode cX8_layGot 57 = .ok (.if_icmp .ge 67, 3) := by decide +kernel
theorem dX8_layGot_60 : decode cX8_layGot 60 = .ok (.aload_n 0, 1) := by decide +kernel
theorem dX8_layGot_61 : decode cX8_layGot 61 = .ok (.getfield 32, 3) := by decide +kernel
theorem dX8_layGot_64 : decode cX8_layGot 64 = .ok (.iload 7, 2) := by decide +kernel
theorem dX8_layGot_66 : decode cX8_layGot 66 = .ok (.iaload, 1) := by decide +kernel
theorem dX8_layGot_67 : decode cX8_layGot 67 = .ok (.aload_n 1, 1) := by decide +kernel
theorem dX8_layGot_68 : decode cX8_layGot 68 = .ok (.iload 7, 2) := by decide +kernel
theorem dX8_layGot_70 : decode cX8_layGot 70 = .ok (.iload_n 2, 1) := by decide +kernel
theorem dX8_layGot_71 : decode cX8_layGot 71 = .ok (.invokestatic 54, 3) := by decide +kernel
theorem dX8_layGot_74 : decode cX8_layGot 74 = .ok (.iaload, 1) := by decide +kernel
theorem dX8_layGot_75 : decode cX8_layGot 75 = .ok (.if_icmp .ge 7, 3) := by decide +kernel
theorem dX8_layGot_78 : decode cX8_layGot 78 = .ok (.iconst 1, 1) := by decide +kernel
theorem dX8_layGot_79 : decode cX8_layGot 79 = .ok (.goto 4, 3) := by decide +kernel
theorem dX8_layGot_82 : decode cX8_layGot 82 = .ok (.iconst 0, 1) := by decide +kernel
theorem dX8_layGot_83 : decode cX8_layGot 83 = .ok (.istore 8, 2) := by decide +kernel
theorem dX8_layGot_85 : decode cX8_layGot 85 = .ok (.iload 8, 2) := by decide +kernel
theorem dX8_layGot_87 : decode cX8_layGot 87 = .ok (.ifCond .eq 27, 3) := by decide +kernel
theorem dX8_layGot_90 : decode cX8_layGot 90 = .ok (.iload 6, 2) := by decide +kernel
theorem dX8_layGot_92 : decode cX8_layGot 92 = .ok (.ldc 65, 2) := by decide +kernel
theorem dX8_layGot_94 : decode cX8_layGot 94 = .ok (.if_icmp .eq 15, 3) := by decide +kernel
theorem dX8_layGot_97 : decode cX8_layGot 97 = .ok (.aload_n 0, 1) := by decide +kernel
theorem dX8_layGot_98 : decode cX8_layGot 98 = .ok (.aload_n 1, 1) := by decide +kernel
theorem dX8_layGot_99 : decode cX8_layGot 99 = .ok (.iload 7, 2) := by decide +kernel
theorem dX8_layGot_101 : decode cX8_layGot 101 = .ok (.iload 6, 2) := by decide +kernel
theorem dX8_layGot_103 : decode cX8_layGot 103 = .ok (.invokevirtual 80, 3) := by decide +kernel
theorem dX8_layGot_106 : decode cX8_layGot 106 = .ok (.ifCond .eq 8, 3) := by decide +kernel
theorem dX8_layGot_109 : decode cX8_layGot 109 = .ok (.iload 7, 2) := by decide +kernel
theorem dX8_layGot_111 : decode cX8_layGot 111 = .ok (.goto 5, 3) := by decide +kernel
theorem dX8_layGot_114 : decode cX8_layGot 114 = .ok (.iload 6, 2) := by decide +kernel
theorem dX8_layGot_116 : decode cX8_layGot 116 = .ok (.istore 6, 2) := by decide +kernel
theorem dX8_layGot_118 : decode cX8_layGot 118 = .ok (.iinc 7 1, 3) := by decide +kernel
theorem dX8_layGot_121 : decode cX8_layGot 121 = .ok (.goto (-69), 3) := by decide +kernel
theorem dX8_layGot_124 : decode cX8_layGot 124 = .ok (.iload 6, 2) := by decide +kernel
theorem dX8_layGot_126 : decode cX8_layGot 126 = .ok (.ldc 65, 2) := by decide +kernel
theorem dX8_layGot_128 : decode cX8_layGot 128 = .ok (.if_icmp .eq 7, 3) := by decide +kernel
theorem dX8_layGot_131 : decode cX8_layGot 131 = .ok (.iconst 1, 1) := by decide +kernel
theorem dX8_layGot_132 : decode cX8_layGot 132 = .ok (.goto 4, 3) := by decide +kernel
theorem dX8_layGot_135 : decode cX8_layGot 135 = .ok (.iconst 0, 1) := by decide +kernel
theorem dX8_layGot_136 : decode cX8_layGot 136 = .ok (.istore 5, 2) := by decide +kernel
theorem dX8_layGot_138 : decode cX8_layGot 138 = .ok (.iload 5, 2) := by decide +kernel
theorem dX8_layGot_140 : decode cX8_layGot 140 = .ok (.ifCond .eq 20, 3) := by decide +kernel
theorem dX8_layGot_143 : decode cX8_layGot 143 = .ok (.aload_n 0, 1) := by decide +kernel
theorem dX8_layGot_144 : decode cX8_layGot 144 = .ok (.getfield 32, 3) := by decide +kernel
theorem dX8_layGot_147 : decode cX8_layGot 147 = .ok (.iload 6, 2) := by decide +kernel
theorem dX8_layGot_149 : decode cX8_layGot 149 = .ok (.dup2, 1) := by decide +kernel
theorem dX8_layGot_150 : decode cX8_layGot 150 = .ok (.iaload, 1) := by decide +kernel
theorem dX8_layGot_151 : decode cX8_layGot 151 = .ok (.iconst 1, 1) := by decide +kernel
theorem dX8_layGot_152 : decode cX8_layGot 152 = .ok (.iadd, 1) := by decide +kernel
theorem dX8_layGot_153 : decode cX8_layGot 153 = .ok (.iastore, 1) := by decide +kernel
theorem dX8_layGot_154 : decode cX8_layGot 154 = .ok (.iinc 3 (-1), 3) := by decide +kernel
theorem dX8_layGot_157 : decode cX8_layGot 157 = .ok (.iinc 4 1, 3) := by decide +kernel
theorem dX8_layGot_160 : decode cX8_layGot 160 = .ok (.goto (-124), 3) := by decide +kernel
theorem dX8_layGot_163 : decode cX8_layGot 163 = .ok (.iload 4, 2) := by decide +kernel
theorem dX8_layGot_165 : decode cX8_layGot 165 = .ok (.ireturn, 1) := by decide +kernel
theorem dX8_isAhead_0 : decode cX8_isAhead 0 = .ok (.aload_n 1, 1) := by decide +kernel
theorem dX8_isAhead_1 : decode cX8_isAhead 1 = .ok (.iload_n 2, 1) := by decide +kernel
theorem dX8_isAhead_2 : decode cX8_isAhead 2 = .ok (.invokestatic 83, 3) := by decide +kernel
theorem dX8_isAhead_5 : decode cX8_isAhead 5 = .ok (.iaload, 1) := by decide +kernel
theorem dX8_isAhead_6 : decode cX8_isAhead 6 = .ok (.iconst 1, 1) := by decide +kernel
theorem dX8_isAhead_7 : decode cX8_isAhead 7 = .ok (.iadd, 1) := by decide +kernel
theorem dX8_isAhead_8 : decode cX8_isAhead 8 = .ok (.aload_n 0, 1) := by decide +kernel
theorem dX8_isAhead_9 : decode cX8_isAhead 9 = .ok (.getfield 32, 3) := by decide +kernel
theorem dX8_isAhead_12 : decode cX8_isAhead 12 = .ok (.iload_n 3, 1) := by decide +kernel
theorem dX8_isAhead_13 : decode cX8_isAhead 13 = .ok (.iaload, 1) := by decide +kernel
theorem dX8_isAhead_14 : decode cX8_isAhead 14 = .ok (.iconst 1, 1) := by decide +kernel
theorem dX8_isAhead_15 : decode cX8_isAhead 15 = .ok (.iadd, 1) := by decide +kernel
theorem dX8_isAhead_16 : decode cX8_isAhead 16 = .ok (.imul, 1) := by decide +kernel
theorem dX8_isAhead_17 : decode cX8_isAhead 17 = .ok (.aload_n 1, 1) := by decide +kernel
theorem dX8_isAhead_18 : decode cX8_isAhead 18 = .ok (.iload_n 3, 1) := by decide +kernel
theorem dX8_isAhead_19 : decode cX8_isAhead 19 = .ok (.invokestatic 83, 3) := by decide +kernel
theorem dX8_isAhead_22 : decode cX8_isAhead 22 = .ok (.iaload, 1) := by decide +kernel
theorem dX8_isAhead_23 : decode cX8_isAhead 23 = .ok (.iconst 1, 1) := by decide +kernel
theorem dX8_isAhead_24 : decode cX8_isAhead 24 = .ok (.iadd, 1) := by decide +kernel
theorem dX8_isAhead_25 : decode cX8_isAhead 25 = .ok (.aload_n 0, 1) := by decide +kernel
theorem dX8_isAhead_26 : decode cX8_isAhead 26 = .ok (.getfield 32, 3) := by decide +kernel
theorem dX8_isAhead_29 : decode cX8_isAhead 29 = .ok (.iload_n 2, 1) := by decide +kernel
theorem dX8_isAhead_30 : decode cX8_isAhead 30 = .ok (.iaload, 1) := by decide +kernel
theorem dX8_isAhead_31 : decode cX8_isAhead 31 = .ok (.iconst 1, 1) := by decide +kernel
theorem dX8_isAhead_32 : decode cX8_isAhead 32 = .ok (.iadd, 1) := by decide +kernel
theorem dX8_isAhead_33 : decode cX8_isAhead 33 = .ok (.imul, 1) := by decide +kernel
theorem dX8_isAhead_34 : decode cX8_isAhead 34 = .ok (.if_icmp .le 7, 3) := by decide +kernel
theorem dX8_isAhead_37 : decode cX8_isAhead 37 = .ok (.iconst 1, 1) := by decide +kernel
theorem dX8_isAhead_38 : decode cX8_isAhead 38 = .ok (.goto 4, 3) := by decide +kernel
theorem dX8_isAhead_41 : decode cX8_isAhead 41 = .ok (.iconst 0, 1) := by decide +kernel
theorem dX8_isAhead_42 : decode cX8_isAhead 42 = .ok (.ireturn, 1) := by decide +kernel
theorem dX8_half_0 : decode cX8_half 0 = .ok (.iload_n 0, 1) := by decide +kernel
theorem dX8_half_1 : decode cX8_half 1 = .ok (.iconst 1, 1) := by decide +kernel
theorem dX8_half_2 : decode cX8_half 2 = .ok (.iadd, 1) := by decide +kernel
theorem dX8_half_3 : decode cX8_half 3 = .ok (.iconst 2, 1) := by decide +kernel
theorem dX8_half_4 : decode cX8_half 4 = .ok (.idiv, 1) := by decide +kernel
theorem dX8_half_5 : decode cX8_half 5 = .ok (.ireturn, 1) := by decide +kernel
theorem dX8_goAllocate_0 : decode cX8_goAllocate 0 = .ok (.aload_n 0, 1) := by decide +kernel
theorem dX8_goAllocate_1 : decode cX8_goAllocate 1 = .ok (.aload_n 1, 1) := by decide +kernel
theorem dX8_goAllocate_2 : decode cX8_goAllocate 2 = .ok (.iload_n 2, 1) := by decide +kernel
theorem dX8_goAllocate_3 : decode cX8_goAllocate 3 = .ok (.invokevirtual 86, 3) := by decide +kernel
theorem dX8_goAllocate_6 : decode cX8_goAllocate 6 = .ok (.istore_n 3, 1) := by decide +kernel
theorem dX8_goAllocate_7 : decode cX8_goAllocate 7 = .ok (.iconst 0, 1) := by decide +kernel
theorem dX8_goAllocate_8 : decode cX8_goAllocate 8 = .ok (.istore 4, 2) := by decide +kernel
theorem dX8_goAllocate_10 : decode cX8_goAllocate 10 = .ok (.iload 4, 2) := by decide +kernel
theorem dX8_goAllocate_12 : decode cX8_goAllocate 12 = .ok (.aload_n 1, 1) := by decide +kernel
theorem dX8_goAllocate_13 : decode cX8_goAllocate 13 = .ok (.iconst 0, 1) := by decide +kernel
theorem dX8_goAllocate_14 : decode cX8_goAllocate 14 = .ok (.iaload, 1) := by decide +kernel
theorem dX8_goAllocate_15 : decode cX8_goAllocate 15 = .ok (.if_icmp .ge 106, 3) := by decide +kernel
theorem dX8_goAllocate_18 : decode cX8_goAllocate 18 = .ok (.aload_n 1, 1) := by decide +kernel
theorem dX8_goAllocate_19 : decode cX8_goAllocate 19 = .ok (.iload 4, 2) := by decide +kernel
theorem dX8_goAllocate_21 : decode cX8_goAllocate 21 = .ok (.iload_n 2, 1) := by decide +kernel
theorem dX8_goAllocate_22 : decode cX8_goAllocate 22 = .ok (.invokestatic 54, 3) := by decide +kernel
theorem dX8_goAllocate_25 : decode cX8_goAllocate 25 = .ok (.iconst 0, 1) := by decide +kernel
theorem dX8_goAllocate_26 : decode cX8_goAllocate 26 = .ok (.iastore, 1) := by decide +kernel
theorem dX8_goAllocate_27 : decode cX8_goAllocate 27 = .ok (.aload_n 1, 1) := by decide +kernel
theorem dX8_goAllocate_28 : decode cX8_goAllocate 28 = .ok (.iload 4, 2) := by decide +kernel
theorem dX8_goAllocate_30 : decode cX8_goAllocate 30 = .ok (.iload_n 2, 1) := by decide +kernel
theorem dX8_goAllocate_31 : decode cX8_goAllocate 31 = .ok (.invokestatic 54, 3) := by decide +kernel
theorem dX8_goAllocate_34 : decode cX8_goAllocate 34 = .ok (.iconst 1, 1) := by decide +kernel
theorem dX8_goAllocate_35 : decode cX8_goAllocate 35 = .ok (.iadd, 1) := by decide +kernel
theorem dX8_goAllocate_36 : decode cX8_goAllocate 36 = .ok (.aload_n 0, 1) := by decide +kernel
theorem dX8_goAllocate_37 : decode cX8_goAllocate 37 = .ok (.getfield 32, 3) := by decide +kernel
theorem dX8_goAllocate_40 : decode cX8_goAllocate 40 = .ok (.iload 4, 2) := by decide +kernel
theorem dX8_goAllocate_42 : decode cX8_goAllocate 42 = .ok (.iaload, 1) := by decide +kernel
theorem dX8_goAllocate_43 : decode cX8_goAllocate 43 = .ok (.iastore, 1) := by decide +kernel
theorem dX8_goAllocate_44 : decode cX8_goAllocate 44 = .ok (.aload_n 1, 1) := by decide +kernel
theorem dX8_goAllocate_45 : decode cX8_goAllocate 45 = .ok (.iload 4, 2) := by decide +kernel
theorem dX8_goAllocate_47 : decode cX8_goAllocate 47 = .ok (.invokestatic 83, 3) := by decide +kernel
theorem dX8_goAllocate_50 : decode cX8_goAllocate 50 = .ok (.iconst 1, 1) := by decide +kernel
theorem dX8_goAllocate_51 : decode cX8_goAllocate 51 = .ok (.iadd, 1) := by decide +kernel
theorem dX8_goAllocate_52 : decode cX8_goAllocate 52 = .ok (.dup2, 1) := by decide +kernel
theorem dX8_goAllocate_53 : decode cX8_goAllocate 53 = .ok (.iaload, 1) := by decide +kernel
theorem dX8_goAllocate_54 : decode cX8_goAllocate 54 = .ok (.aload_n 1, 1) := by decide +kernel
theorem dX8_goAllocate_55 : decode cX8_goAllocate 55 = .ok (.iload_n 2, 1) := by decide +kernel
theorem dX8_goAllocate_56 : decode cX8_goAllocate 56 = .ok (.invokestatic 62, 3) := by decide +kernel
theorem dX8_goAllocate_59 : decode cX8_goAllocate 59 = .ok (.iconst 0, 1) := by decide +kernel
theorem dX8_goAllocate_60 : decode cX8_goAllocate 60 = .ok (.iadd, 1) := by decide +kernel
theorem dX8_goAllocate_61 : decode cX8_goAllocate 61 = .ok (.iaload, 1) := by decide +kernel
theorem dX8_goAllocate_62 : decode cX8_goAllocate 62 = .ok (.aload_n 0, 1) := by decide +kernel
theorem dX8_goAllocate_63 : decode cX8_goAllocate 63 = .ok (.getfield 32, 3) := by decide +kernel
theorem dX8_goAllocate_66 : decode cX8_goAllocate 66 = .ok (.iload 4, 2) := by decide +kernel
theorem dX8_goAllocate_68 : decode cX8_goAllocate 68 = .ok (.iaload, 1) := by decide +kernel
theorem dX8_goAllocate_69 : decode cX8_goAllocate 69 = .ok (.imul, 1) := by decide +kernel
theorem dX8_goAllocate_70 : decode cX8_goAllocate 70 = .ok (.invokestatic 89, 3) := by decide +kernel
theorem dX8_goAllocate_73 : decode cX8_goAllocate 73 = .ok (.iadd, 1) := by decide +kernel
theorem dX8_goAllocate_74 : decode cX8_goAllocate 74 = .ok (.iastore, 1) := by decide +kernel
theorem dX8_goAllocate_75 : decode cX8_goAllocate 75 = .ok (.aload_n 1, 1) := by decide +kernel
theorem dX8_goAllocate_76 : decode cX8_goAllocate 76 = .ok (.iload 4, 2) := by decide +kernel
theorem dX8_goAllocate_78 : decode cX8_goAllocate 78 = .ok (.invokestatic 83, 3) := by decide +kernel
theorem dX8_goAllocate_81 : decode cX8_goAllocate 81 = .ok (.iaload, 1) := by decide +kernel
theorem dX8_goAllocate_82 : decode cX8_goAllocate 82 = .ok (.aload_n 0, 1) := by decide +kernel
theorem dX8_goAllocate_83 : decode cX8_goAllocate 83 = .ok (.getfield 32, 3) := by decide +kernel
theorem dX8_goAllocate_86 : decode cX8_goAllocate 86 = .ok (.iload 4, 2) := by decide +kernel
theorem dX8_goAllocate_88 : decode cX8_goAllocate 88 = .ok (.iaload, 1) := by decide +kernel
theorem dX8_goAllocate_89 : decode cX8_goAllocate 89 = .ok (.iadd, 1) := by decide +kernel
theorem dX8_goAllocate_90 : decode cX8_goAllocate 90 = .ok (.istore 5, 2) := by decide +kernel
theorem dX8_goAllocate_92 : decode cX8_goAllocate 92 = .ok (.aload_n 1, 1) := by decide +kernel
theorem dX8_goAllocate_93 : decode cX8_goAllocate 93 = .ok (.iload 4, 2) := by decide +kernel
theorem dX8_goAllocate_95 : decode cX8_goAllocate 95 = .ok (.invokestatic 83, 3) := by decide +kernel
theorem dX8_goAllocate_98 : decode cX8_goAllocate 98 = .ok (.iload 5, 2) := by decide +kernel
theorem dX8_goAllocate_100 : decode cX8_goAllocate 100 = .ok (.sipush 999, 3) := by decide +kernel
theorem dX8_goAllocate_103 : decode cX8_goAllocate 103 = .ok (.if_icmp .le 9, 3) := by decide +kernel
theorem dX8_goAllocate_106 : decode cX8_goAllocate 106 = .ok (.sipush 999, 3) := by decide +kernel
theorem dX8_goAllocate_109 : decode cX8_goAllocate 109 = .ok (.goto 5, 3) := by decide +kernel
theorem dX8_goAllocate_112 : decode cX8_goAllocate 112 = .ok (.iload 5, 2) := by decide +kernel
theorem dX8_goAllocate_114 : decode cX8_goAllocate 114 = .ok (.iastore, 1) := by decide +kernel
theorem dX8_goAllocate_115 : decode cX8_goAllocate 115 = .ok (.iinc 4 1, 3) := by decide +kernel
theorem dX8_goAllocate_118 : decode cX8_goAllocate 118 = .ok (.goto (-108), 3) := by decide +kernel
theorem dX8_goAllocate_121 : decode cX8_goAllocate 121 = .ok (.aload_n 1, 1) := by decide +kernel
theorem dX8_goAllocate_122 : decode cX8_goAllocate 122 = .ok (.iload_n 2, 1) := by decide +kernel
theorem dX8_goAllocate_123 : decode cX8_goAllocate 123 = .ok (.invokestatic 62, 3) := by decide +kernel
theorem dX8_goAllocate_126 : decode cX8_goAllocate 126 = .ok (.iconst 2, 1) := by decide +kernel
theorem dX8_goAllocate_127 : decode cX8_goAllocate 127 = .ok (.iadd, 1) := by decide +kernel
theorem dX8_goAllocate_128 : decode cX8_goAllocate 128 = .ok (.dup2, 1) := by decide +kernel
theorem dX8_goAllocate_129 : decode cX8_goAllocate 129 = .ok (.iaload, 1) := by decide +kernel
theorem dX8_goAllocate_130 : decode cX8_goAllocate 130 = .ok (.iload_n 3, 1) := by decide +kernel
theorem dX8_goAllocate_131 : decode cX8_goAllocate 131 = .ok (.isub, 1) := by decide +kernel
theorem dX8_goAllocate_132 : decode cX8_goAllocate 132 = .ok (.iastore, 1) := by decide +kernel
theorem dX8_goAllocate_133 : decode cX8_goAllocate 133 = .ok (.aload_n 1, 1) := by decide +kernel
theorem dX8_goAllocate_134 : decode cX8_goAllocate 134 = .ok (.iload_n 2, 1) := by decide +kernel
theorem dX8_goAllocate_135 : decode cX8_goAllocate 135 = .ok (.invokestatic 62, 3) := by decide +kernel
theorem dX8_goAllocate_138 : decode cX8_goAllocate 138 = .ok (.iconst 3, 1) := by decide +kernel
theorem dX8_goAllocate_139 : decode cX8_goAllocate 139 = .ok (.iadd, 1) := by decide +kernel
theorem dX8_goAllocate_140 : decode cX8_goAllocate 140 = .ok (.iconst 1, 1) := by decide +kernel
theorem dX8_goAllocate_141 : decode cX8_goAllocate 141 = .ok (.iastore, 1) := by decide +kernel
theorem dX8_goAllocate_142 : decode cX8_goAllocate 142 = .ok (.iload_n 3, 1) := by decide +kernel
theorem dX8_goAllocate_143 : decode cX8_goAllocate 143 = .ok (.ireturn, 1) := by decide +kernel
theorem dX8_canDeliver_0 : decode cX8_canDeliver 0 = .ok (.aload_n 0, 1) := by decide +kernel
theorem dX8_canDeliver_1 : decode cX8_canDeliver 1 = .ok (.iload_n 1, 1) := by decide +kernel
theorem dX8_canDeliver_2 : decode cX8_canDeliver 2 = .ok (.invokestatic 62, 3) := by decide +kernel
theorem dX8_canDeliver_5 : decode cX8_canDeliver 5 = .ok (.iconst 3, 1) := by decide +kernel
theorem dX8_canDeliver_6 : decode cX8_canDeliver 6 = .ok (.iadd, 1) := by decide +kernel
theorem dX8_canDeliver_7 : decode cX8_canDeliver 7 = .ok (.iaload, 1) := by decide +kernel
theorem dX8_canDeliver_8 : decode cX8_canDeliver 8 = .ok (.iconst 1, 1) := by decide +kernel
theorem dX8_canDeliver_9 : decode cX8_canDeliver 9 = .ok (.if_icmp .ne 21, 3) := by decide +kernel
theorem dX8_canDeliver_12 : decode cX8_canDeliver 12 = .ok (.aload_n 0, 1) := by decide +kernel
theorem dX8_canDeliver_13 : decode cX8_canDeliver 13 = .ok (.iload_n 1, 1) := by decide +kernel
theorem dX8_canDeliver_14 : decode cX8_canDeliver 14 = .ok (.invokestatic 92, 3) := by decide +kernel
theorem dX8_canDeliver_17 : decode cX8_canDeliver 17 = .ok (.aload_n 0, 1) := by decide +kernel
theorem dX8_canDeliver_18 : decode cX8_canDeliver 18 = .ok (.iload_n 1, 1) := by decide +kernel
theorem dX8_canDeliver_19 : decode cX8_canDeliver 19 = .ok (.iconst 1, 1) := by decide +kernel
theorem dX8_canDeliver_20 : decode cX8_canDeliver 20 = .ok (.invokestatic 95, 3) := by decide +kernel
theorem dX8_canDeliver_23 : decode cX8_canDeliver 23 = .ok (.if_icmp .lt 7, 3) := by decide +kernel
theorem dX8_canDeliver_26 : decode cX8_canDeliver 26 = .ok (.iconst 1, 1) := by decide +kernel
theorem dX8_canDeliver_27 : decode cX8_canDeliver 27 = .ok (.goto 4, 3) := by decide +kernel
theorem dX8_canDeliver_30 : decode cX8_canDeliver 30 = .ok (.iconst 0, 1) := by decide +kernel
theorem dX8_canDeliver_31 : decode cX8_canDeliver 31 = .ok (.ireturn, 1) := by decide +kernel
theorem dX8_goDeliver_0 : decode cX8_goDeliver 0 = .ok (.aload_n 0, 1) := by decide +kernel
theorem dX8_goDeliver_1 : decode cX8_goDeliver 1 = .ok (.iload_n 1, 1) := by decide +kernel
theorem dX8_goDeliver_2 : decode cX8_goDeliver 2 = .ok (.iconst 1, 1) := by decide +kernel
theorem dX8_goDeliver_3 : decode cX8_goDeliver 3 = .ok (.invokestatic 95, 3) := by decide +kernel
theorem dX8_goDeliver_6 : decode cX8_goDeliver 6 = .ok (.istore_n 2, 1) := by decide +kernel
theorem dX8_goDeliver_7 : decode cX8_goDeliver 7 = .ok (.aload_n 0, 1) := by decide +kernel
theorem dX8_goDeliver_8 : decode cX8_goDeliver 8 = .ok (.iload_n 1, 1) := by decide +kernel
theorem dX8_goDeliver_9 : decode cX8_goDeliver 9 = .ok (.iload_n 2, 1) := by decide +kernel
theorem dX8_goDeliver_10 : decode cX8_goDeliver 10 = .ok (.invokestatic 99, 3) := by decide +kernel
theorem dX8_goDeliver_13 : decode cX8_goDeliver 13 = .ok (.iconst 0, 1) := by decide +kernel
theorem dX8_goDeliver_14 : decode cX8_goDeliver 14 = .ok (.istore_n 3, 1) := by decide +kernel
theorem dX8_goDeliver_15 : decode cX8_goDeliver 15 = .ok (.iload_n 3, 1) := by decide +kernel
theorem dX8_goDeliver_16 : decode cX8_goDeliver 16 = .ok (.aload_n 0, 1) := by decide +kernel
theorem dX8_goDeliver_17 : decode cX8_goDeliver 17 = .ok (.iconst 0, 1) := by decide +kernel
theorem dX8_goDeliver_18 : decode cX8_goDeliver 18 = .ok (.iaload, 1) := by decide +kernel
theorem dX8_goDeliver_19 : decode cX8_goDeliver 19 = .ok (.if_icmp .ge 81, 3) := by decide +kernel
theorem dX8_goDeliver_22 : decode cX8_goDeliver 22 = .ok (.aload_n 0, 1) := by decide +kernel
theorem dX8_goDeliver_23 : decode cX8_goDeliver 23 = .ok (.iload_n 3, 1) := by decide +kernel
theorem dX8_goDeliver_24 : decode cX8_goDeliver 24 = .ok (.iload_n 1, 1) := by decide +kernel
theorem dX8_goDeliver_25 : decode cX8_goDeliver 25 = .ok (.invokestatic 54, 3) := by decide +kernel
theorem dX8_goDeliver_28 : decode cX8_goDeliver 28 = .ok (.iconst 1, 1) := by decide +kernel
theorem dX8_goDeliver_29 : decode cX8_goDeliver 29 = .ok (.iadd, 1) := by decide +kernel
theorem dX8_goDeliver_30 : decode cX8_goDeliver 30 = .ok (.iaload, 1) := by decide +kernel
theorem dX8_goDeliver_31 : decode cX8_goDeliver 31 = .ok (.istore 4, 2) := by decide +kernel
theorem dX8_goDeliver_33 : decode cX8_goDeliver 33 = .ok (.aload_n 0, 1) := by decide +kernel
theorem dX8_goDeliver_34 : decode cX8_goDeliver 34 = .ok (.iload_n 3, 1) := by decide +kernel
theorem dX8_goDeliver_35 : decode cX8_goDeliver 35 = .ok (.iload_n 1, 1) := by decide +kernel
theorem dX8_goDeliver_36 : decode cX8_goDeliver 36 = .ok (.invokestatic 54, 3) := by decide +kernel
theorem dX8_goDeliver_39 : decode cX8_goDeliver 39 = .ok (.iconst 1, 1) := by decide +kernel
theorem dX8_goDeliver_40 : decode cX8_goDeliver 40 = .ok (.iadd, 1) := by decide +kernel
theorem dX8_goDeliver_41 : decode cX8_goDeliver 41 = .ok (.iconst 0, 1) := by decide +kernel
theorem dX8_goDeliver_42 : decode cX8_goDeliver 42 = .ok (.iastore, 1) := by decide +kernel
theorem dX8_goDeliver_43 : decode cX8_goDeliver 43 = .ok (.aload_n 0, 1) := by decide +kernel
theorem dX8_goDeliver_44 : decode cX8_goDeliver 44 = .ok (.iload_n 3, 1) := by decide +kernel
theorem dX8_goDeliver_45 : decode cX8_goDeliver 45 = .ok (.iload_n 1, 1) := by decide +kernel
theorem dX8_goDeliver_46 : decode cX8_goDeliver 46 = .ok (.invokestatic 54, 3) := by decide +kernel
theorem dX8_goDeliver_49 : decode cX8_goDeliver 49 = .ok (.iconst 2, 1) := by decide +kernel
theorem dX8_goDeliver_50 : decode cX8_goDeliver 50 = .ok (.iadd, 1) := by decide +kernel
theorem dX8_goDeliver_51 : decode cX8_goDeliver 51 = .ok (.dup2, 1) := by decide +kernel
theorem dX8_goDeliver_52 : decode cX8_goDeliver 52 = .ok (.iaload, 1) := by decide +kernel
theorem dX8_goDeliver_53 : decode cX8_goDeliver 53 = .ok (.iload 4, 2) := by decide +kernel
theorem dX8_goDeliver_55 : decode cX8_goDeliver 55 = .ok (.iadd, 1) := by decide +kernel
theorem dX8_goDeliver_56 : decode cX8_goDeliver 56 = .ok (.iastore, 1) := by decide +kernel
theorem dX8_goDeliver_57 : decode cX8_goDeliver 57 = .ok (.aload_n 0, 1) := by decide +kernel
theorem dX8_goDeliver_58 : decode cX8_goDeliver 58 = .ok (.iload_n 3, 1) := by decide +kernel
theorem dX8_goDeliver_59 : decode cX8_goDeliver 59 = .ok (.invokestatic 83, 3) := by decide +kernel
theorem dX8_goDeliver_62 : decode cX8_goDeliver 62 = .ok (.iconst 1, 1) := by decide +kernel
theorem dX8_goDeliver_63 : decode cX8_goDeliver 63 = .ok (.iadd, 1) := by decide +kernel
theorem dX8_goDeliver_64 : decode cX8_goDeliver 64 = .ok (.dup2, 1) := by decide +kernel
theorem dX8_goDeliver_65 : decode cX8_goDeliver 65 = .ok (.iaload, 1) := by decide +kernel
theorem dX8_goDeliver_66 : decode cX8_goDeliver 66 = .ok (.aload_n 0, 1) := by decide +kernel
theorem dX8_goDeliver_67 : decode cX8_goDeliver 67 = .ok (.iload_n 1, 1) := by decide +kernel
theorem dX8_goDeliver_68 : decode cX8_goDeliver 68 = .ok (.invokestatic 62, 3) := by decide +kernel
theorem dX8_goDeliver_71 : decode cX8_goDeliver 71 = .ok (.iconst 0, 1) := by decide +kernel
theorem dX8_goDeliver_72 : decode cX8_goDeliver 72 = .ok (.iadd, 1) := by decide +kernel
theorem dX8_goDeliver_73 : decode cX8_goDeliver 73 = .ok (.iaload, 1) := by decide +kernel
theorem dX8_goDeliver_74 : decode cX8_goDeliver 74 = .ok (.iload 4, 2) := by decide +kernel
theorem dX8_goDeliver_76 : decode cX8_goDeliver 76 = .ok (.imul, 1) := by decide +kernel
theorem dX8_goDeliver_77 : decode cX8_goDeliver 77 = .ok (.aload_n 0, 1) := by decide +kernel
theorem dX8_goDeliver_78 : decode cX8_goDeliver 78 = .ok (.iload_n 1, 1) := by decide +kernel
theorem dX8_goDeliver_79 : decode cX8_goDeliver 79 = .ok (.invokestatic 62, 3) := by decide +kernel
theorem dX8_goDeliver_82 : decode cX8_goDeliver 82 = .ok (.iconst 0, 1) := by decide +kernel
theorem dX8_goDeliver_83 : decode cX8_goDeliver 83 = .ok (.iadd, 1) := by decide +kernel
theorem dX8_goDeliver_84 : decode cX8_goDeliver 84 = .ok (.iaload, 1) := by decide +kernel
theorem dX8_goDeliver_85 : decode cX8_goDeliver 85 = .ok (.iload 4, 2) := by decide +kernel
theorem dX8_goDeliver_87 : decode cX8_goDeliver 87 = .ok (.imul, 1) := by decide +kernel
theorem dX8_goDeliver_88 : decode cX8_goDeliver 88 = .ok (.invokestatic 89, 3) := by decide +kernel
theorem dX8_goDeliver_91 : decode cX8_goDeliver 91 = .ok (.isub, 1) := by decide +kernel
theorem dX8_goDeliver_92 : decode cX8_goDeliver 92 = .ok (.iadd, 1) := by decide +kernel
theorem dX8_goDeliver_93 : decode cX8_goDeliver 93 = .ok (.iastore, 1) := by decide +kernel
theorem dX8_goDeliver_94 : decode cX8_goDeliver 94 = .ok (.iinc 3 1, 3) := by decide +kernel
theorem dX8_goDeliver_97 : decode cX8_goDeliver 97 = .ok (.goto (-82), 3) := by decide +kernel
theorem dX8_goDeliver_100 : decode cX8_goDeliver 100 = .ok (.aload_n 0, 1) := by decide +kernel
theorem dX8_goDeliver_101 : decode cX8_goDeliver 101 = .ok (.iload_n 1, 1) := by decide +kernel
theorem dX8_goDeliver_102 : decode cX8_goDeliver 102 = .ok (.invokestatic 62, 3) := by decide +kernel
theorem dX8_goDeliver_105 : decode cX8_goDeliver 105 = .ok (.iconst 3, 1) := by decide +kernel
theorem dX8_goDeliver_106 : decode cX8_goDeliver 106 = .ok (.iadd, 1) := by decide +kernel
theorem dX8_goDeliver_107 : decode cX8_goDeliver 107 = .ok (.iconst 2, 1) := by decide +kernel
theorem dX8_goDeliver_108 : decode cX8_goDeliver 108 = .ok (.iastore, 1) := by decide +kernel
theorem dX8_goDeliver_109 : decode cX8_goDeliver 109 = .ok (.iload_n 2, 1) := by decide +kernel
theorem dX8_goDeliver_110 : decode cX8_goDeliver 110 = .ok (.ireturn, 1) := by decide +kernel
theorem dX8_goDrink_0 : decode cX8_goDrink 0 = .ok (.aload_n 0, 1) := by decide +kernel
theorem dX8_goDrink_1 : decode cX8_goDrink 1 = .ok (.iload_n 2, 1) := by decide +kernel
theorem dX8_goDrink_2 : decode cX8_goDrink 2 = .ok (.iload_n 3, 1) := by decide +kernel
theorem dX8_goDrink_3 : decode cX8_goDrink 3 = .ok (.invokestatic 103, 3) := by decide +kernel
theorem dX8_goDrink_6 : decode cX8_goDrink 6 = .ok (.aload_n 0, 1) := by decide +kernel
theorem dX8_goDrink_7 : decode cX8_goDrink 7 = .ok (.iload_n 1, 1) := by decide +kernel
theorem dX8_goDrink_8 : decode cX8_goDrink 8 = .ok (.iload_n 2, 1) := by decide +kernel
theorem dX8_goDrink_9 : decode cX8_goDrink 9 = .ok (.invokestatic 54, 3) := by decide +kernel
theorem dX8_goDrink_12 : decode cX8_goDrink 12 = .ok (.iconst 2, 1) := by decide +kernel
theorem dX8_goDrink_13 : decode cX8_goDrink 13 = .ok (.iadd, 1) := by decide +kernel
theorem dX8_goDrink_14 : decode cX8_goDrink 14 = .ok (.dup2, 1) := by decide +kernel
theorem dX8_goDrink_15 : decode cX8_goDrink 15 = .ok (.iaload, 1) := by decide +kernel
theorem dX8_goDrink_16 : decode cX8_goDrink 16 = .ok (.iload_n 3, 1) := by decide +kernel
theorem dX8_goDrink_17 : decode cX8_goDrink 17 = .ok (.isub, 1) := by decide +kernel
theorem dX8_goDrink_18 : decode cX8_goDrink 18 = .ok (.iastore, 1) := by decide +kernel
theorem dX8_goDrink_19 : decode cX8_goDrink 19 = .ok (.aload_n 0, 1) := by decide +kernel
theorem dX8_goDrink_20 : decode cX8_goDrink 20 = .ok (.iload_n 2, 1) := by decide +kernel
theorem dX8_goDrink_21 : decode cX8_goDrink 21 = .ok (.invokestatic 62, 3) := by decide +kernel
theorem dX8_goDrink_24 : decode cX8_goDrink 24 = .ok (.iconst 4, 1) := by decide +kernel
theorem dX8_goDrink_25 : decode cX8_goDrink 25 = .ok (.iadd, 1) := by decide +kernel
theorem dX8_goDrink_26 : decode cX8_goDrink 26 = .ok (.dup2, 1) := by decide +kernel
theorem dX8_goDrink_27 : decode cX8_goDrink 27 = .ok (.iaload, 1) := by decide +kernel
theorem dX8_goDrink_28 : decode cX8_goDrink 28 = .ok (.iload_n 3, 1) := by decide +kernel
theorem dX8_goDrink_29 : decode cX8_goDrink 29 = .ok (.iadd, 1) := by decide +kernel
theorem dX8_goDrink_30 : decode cX8_goDrink 30 = .ok (.iastore, 1) := by decide +kernel
theorem dX8_goDrink_31 : decode cX8_goDrink 31 = .ok (.aload_n 0, 1) := by decide +kernel
theorem dX8_goDrink_32 : decode cX8_goDrink 32 = .ok (.iload_n 1, 1) := by decide +kernel
theorem dX8_goDrink_33 : decode cX8_goDrink 33 = .ok (.invokestatic 83, 3) := by decide +kernel
theorem dX8_goDrink_36 : decode cX8_goDrink 36 = .ok (.iconst 2, 1) := by decide +kernel
theorem dX8_goDrink_37 : decode cX8_goDrink 37 = .ok (.iadd, 1) := by decide +kernel
theorem dX8_goDrink_38 : decode cX8_goDrink 38 = .ok (.dup2, 1) := by decide +kernel
theorem dX8_goDrink_39 : decode cX8_goDrink 39 = .ok (.iaload, 1) := by decide +kernel
theorem dX8_goDrink_40 : decode cX8_goDrink 40 = .ok (.iload_n 3, 1) := by decide +kernel
theorem dX8_goDrink_41 : decode cX8_goDrink 41 = .ok (.iadd, 1) := by decide +kernel
theorem dX8_goDrink_42 : decode cX8_goDrink 42 = .ok (.iastore, 1) := by decide +kernel
theorem dX8_goDrink_43 : decode cX8_goDrink 43 = .ok (.return_, 1) := by decide +kernel
theorem dX8_goGive_0 : decode cX8_goGive 0 = .ok (.aload_n 0, 1) := by decide +kernel
theorem dX8_goGive_1 : decode cX8_goGive 1 = .ok (.iload_n 1, 1) := by decide +kernel
theorem dX8_goGive_2 : decode cX8_goGive 2 = .ok (.iload_n 3, 1) := by decide +kernel
theorem dX8_goGive_3 : decode cX8_goGive 3 = .ok (.invokestatic 54, 3) := by decide +kernel
theorem dX8_goGive_6 : decode cX8_goGive 6 = .ok (.iconst 2, 1) := by decide +kernel
theorem dX8_goGive_7 : decode cX8_goGive 7 = .ok (.iadd, 1) := by decide +kernel
theorem dX8_goGive_8 : decode cX8_goGive 8 = .ok (.dup2, 1) := by decide +kernel
theorem dX8_goGive_9 : decode cX8_goGive 9 = .ok (.iaload, 1) := by decide +kernel
theorem dX8_goGive_10 : decode cX8_goGive 10 = .ok (.iload 4, 2) := by decide +kernel
theorem dX8_goGive_12 : decode cX8_goGive 12 = .ok (.isub, 1) := by decide +kernel
theorem dX8_goGive_13 : decode cX8_goGive 13 = .ok (.iastore, 1) := by decide +kernel
theorem dX8_goGive_14 : decode cX8_goGive 14 = .ok (.aload_n 0, 1) := by decide +kernel
theorem dX8_goGive_15 : decode cX8_goGive 15 = .ok (.iload_n 2, 1) := by decide +kernel
theorem dX8_goGive_16 : decode cX8_goGive 16 = .ok (.iload_n 3, 1) := by decide +kernel
theorem dX8_goGive_17 : decode cX8_goGive 17 = .ok (.invokestatic 54, 3) := by decide +kernel
theorem dX8_goGive_20 : decode cX8_goGive 20 = .ok (.iconst 2, 1) := by decide +kernel
theorem dX8_goGive_21 : decode cX8_goGive 21 = .ok (.iadd, 1) := by decide +kernel
theorem dX8_goGive_22 : decode cX8_goGive 22 = .ok (.dup2, 1) := by decide +kernel
theorem dX8_goGive_23 : decode cX8_goGive 23 = .ok (.iaload, 1) := by decide +kernel
theorem dX8_goGive_24 : decode cX8_goGive 24 = .ok (.iload 4, 2) := by decide +kernel
theorem dX8_goGive_26 : decode cX8_goGive 26 = .ok (.iadd, 1) := by decide +kernel
theorem dX8_goGive_27 : decode cX8_goGive 27 = .ok (.iastore, 1) := by decide +kernel
theorem dX8_goGive_28 : decode cX8_goGive 28 = .ok (.return_, 1) := by decide +kernel
theorem dX8_goCork_0 : decode cX8_goCork 0 = .ok (.aload_n 0, 1) := by decide +kernel
theorem dX8_goCork_1 : decode cX8_goCork 1 = .ok (.iload_n 2, 1) := by decide +kernel
theorem dX8_goCork_2 : decode cX8_goCork 2 = .ok (.iconst 1, 1) := by decide +kernel
theorem dX8_goCork_3 : decode cX8_goCork 3 = .ok (.invokestatic 103, 3) := by decide +kernel
theorem dX8_goCork_6 : decode cX8_goCork 6 = .ok (.aload_n 0, 1) := by decide +kernel
theorem dX8_goCork_7 : decode cX8_goCork 7 = .ok (.iload_n 2, 1) := by decide +kernel
theorem dX8_goCork_8 : decode cX8_goCork 8 = .ok (.invokestatic 62, 3) := by decide +kernel
theorem dX8_goCork_11 : decode cX8_goCork 11 = .ok (.iconst 5, 1) := by decide +kernel
theorem dX8_goCork_12 : decode cX8_goCork 12 = .ok (.iadd, 1) := by decide +kernel
theorem dX8_goCork_13 : decode cX8_goCork 13 = .ok (.dup2, 1) := by decide +kernel
theorem dX8_goCork_14 : decode cX8_goCork 14 = .ok (.iaload, 1) := by decide +kernel
theorem dX8_goCork_15 : decode cX8_goCork 15 = .ok (.iconst 1, 1) := by decide +kernel
theorem dX8_goCork_16 : decode cX8_goCork 16 = .ok (.iadd, 1) := by decide +kernel
theorem dX8_goCork_17 : decode cX8_goCork 17 = .ok (.iastore, 1) := by decide +kernel
theorem dX8_goCork_18 : decode cX8_goCork 18 = .ok (.aload_n 0, 1) := by decide +kernel
theorem dX8_goCork_19 : decode cX8_goCork 19 = .ok (.iload_n 2, 1) := by decide +kernel
theorem dX8_goCork_20 : decode cX8_goCork 20 = .ok (.invokestatic 62, 3) := by decide +kernel
theorem dX8_goCork_23 : decode cX8_goCork 23 = .ok (.iconst 2, 1) := by decide +kernel
theorem dX8_goCork_24 : decode cX8_goCork 24 = .ok (.iadd, 1) := by decide +kernel
theorem dX8_goCork_25 : decode cX8_goCork 25 = .ok (.iaload, 1) := by decide +kernel
theorem dX8_goCork_26 : decode cX8_goCork 26 = .ok (.ifCond .le 23, 3) := by decide +kernel
theorem dX8_goCork_29 : decode cX8_goCork 29 = .ok (.aload_n 0, 1) := by decide +kernel
theorem dX8_goCork_30 : decode cX8_goCork 30 = .ok (.iload_n 2, 1) := by decide +kernel
theorem dX8_goCork_31 : decode cX8_goCork 31 = .ok (.invokestatic 62, 3) := by decide +kernel
theorem dX8_goCork_34 : decode cX8_goCork 34 = .ok (.iconst 2, 1) := by decide +kernel
theorem dX8_goCork_35 : decode cX8_goCork 35 = .ok (.iadd, 1) := by decide +kernel
theorem dX8_goCork_36 : decode cX8_goCork 36 = .ok (.dup2, 1) := by decide +kernel
theorem dX8_goCork_37 : decode cX8_goCork 37 = .ok (.iaload, 1) := by decide +kernel
theorem dX8_goCork_38 : decode cX8_goCork 38 = .ok (.iconst 1, 1) := by decide +kernel
theorem dX8_goCork_39 : decode cX8_goCork 39 = .ok (.isub, 1) := by decide +kernel
theorem dX8_goCork_40 : decode cX8_goCork 40 = .ok (.iastore, 1) := by decide +kernel
theorem dX8_goCork_41 : decode cX8_goCork 41 = .ok (.aload_n 0, 1) := by decide +kernel
theorem dX8_goCork_42 : decode cX8_goCork 42 = .ok (.iload_n 2, 1) := by decide +kernel
theorem dX8_goCork_43 : decode cX8_goCork 43 = .ok (.iconst 1, 1) := by decide +kernel
theorem dX8_goCork_44 : decode cX8_goCork 44 = .ok (.invokestatic 99, 3) := by decide +kernel
theorem dX8_goCork_47 : decode cX8_goCork 47 = .ok (.iconst 1, 1) := by decide +kernel
theorem dX8_goCork_48 : decode cX8_goCork 48 = .ok (.ireturn, 1) := by decide +kernel
theorem dX8_goCork_49 : decode cX8_goCork 49 = .ok (.aload_n 0, 1) := by decide +kernel
theorem dX8_goCork_50 : decode cX8_goCork 50 = .ok (.iload_n 1, 1) := by decide +kernel
theorem dX8_goCork_51 : decode cX8_goCork 51 = .ok (.iload_n 2, 1) := by decide +kernel
theorem dX8_goCork_52 : decode cX8_goCork 52 = .ok (.invokestatic 54, 3) := by decide +kernel
theorem dX8_goCork_55 : decode cX8_goCork 55 = .ok (.iconst 2, 1) := by decide +kernel
theorem dX8_goCork_56 : decode cX8_goCork 56 = .ok (.iadd, 1) := by decide +kernel
theorem dX8_goCork_57 : decode cX8_goCork 57 = .ok (.dup2, 1) := by decide +kernel
theorem dX8_goCork_58 : decode cX8_goCork 58 = .ok (.iaload, 1) := by decide +kernel
theorem dX8_goCork_59 : decode cX8_goCork 59 = .ok (.iconst 1, 1) := by decide +kernel
theorem dX8_goCork_60 : decode cX8_goCork 60 = .ok (.isub, 1) := by decide +kernel
theorem dX8_goCork_61 : decode cX8_goCork 61 = .ok (.iastore, 1) := by decide +kernel
theorem dX8_goCork_62 : decode cX8_goCork 62 = .ok (.aload_n 0, 1) := by decide +kernel
theorem dX8_goCork_63 : decode cX8_goCork 63 = .ok (.iload_n 1, 1) := by decide +kernel
theorem dX8_goCork_64 : decode cX8_goCork 64 = .ok (.invokestatic 83, 3) := by decide +kernel
theorem dX8_goCork_67 : decode cX8_goCork 67 = .ok (.iconst 1, 1) := by decide +kernel
theorem dX8_goCork_68 : decode cX8_goCork 68 = .ok (.iadd, 1) := by decide +kernel
theorem dX8_goCork_69 : decode cX8_goCork 69 = .ok (.dup2, 1) := by decide +kernel
theorem dX8_goCork_70 : decode cX8_goCork 70 = .ok (.iaload, 1) := by decide +kernel
theorem dX8_goCork_71 : decode cX8_goCork 71 = .ok (.aload_n 0, 1) := by decide +kernel
theorem dX8_goCork_72 : decode cX8_goCork 72 = .ok (.iload_n 2, 1) := by decide +kernel
theorem dX8_goCork_73 : decode cX8_goCork 73 = .ok (.invokestatic 62, 3) := by decide +kernel
theorem dX8_goCork_76 : decode cX8_goCork 76 = .ok (.iconst 0, 1) := by decide +kernel
theorem dX8_goCork_77 : decode cX8_goCork 77 = .ok (.iadd, 1) := by decide +kernel
theorem dX8_goCork_78 : decode cX8_goCork 78 = .ok (.iaload, 1) := by decide +kernel
theorem dX8_goCork_79 : decode cX8_goCork 79 = .ok (.isub, 1) := by decide +kernel
theorem dX8_goCork_80 : decode cX8_goCork 80 = .ok (.iastore, 1) := by decide +kernel
theorem dX8_goCork_81 : decode cX8_goCork 81 = .ok (.iconst 0, 1) := by decide +kernel
theorem dX8_goCork_82 : decode cX8_goCork 82 = .ok (.ireturn, 1) := by decide +kernel
theorem dX8_canMove_0 : decode cX8_canMove 0 = .ok (.aload_n 0, 1) := by decide +kernel
theorem dX8_canMove_1 : decode cX8_canMove 1 = .ok (.iload_n 2, 1) := by decide +kernel
theorem dX8_canMove_2 : decode cX8_canMove 2 = .ok (.invokestatic 58, 3) := by decide +kernel
theorem dX8_canMove_5 : decode cX8_canMove 5 = .ok (.iconst 2, 1) := by decide +kernel
theorem dX8_canMove_6 : decode cX8_canMove 6 = .ok (.iadd, 1) := by decide +kernel
theorem dX8_canMove_7 : decode cX8_canMove 7 = .ok (.iaload, 1) := by decide +kernel
theorem dX8_canMove_8 : decode cX8_canMove 8 = .ok (.ifCond .eq 22, 3) := by decide +kernel
theorem dX8_canMove_11 : decode cX8_canMove 11 = .ok (.aload_n 0, 1) := by decide +kernel
theorem dX8_canMove_12 : decode cX8_canMove 12 = .ok (.iload_n 2, 1) := by decide +kernel
theorem dX8_canMove_13 : decode cX8_canMove 13 = .ok (.invokestatic 58, 3) := by decide +kernel
theorem dX8_canMove_16 : decode cX8_canMove 16 = .ok (.iconst 1, 1) := by decide +kernel
theorem dX8_canMove_17 : decode cX8_canMove 17 = .ok (.iadd, 1) := by decide +kernel
theorem dX8_canMove_18 : decode cX8_canMove 18 = .ok (.iaload, 1) := by decide +kernel
theorem dX8_canMove_19 : decode cX8_canMove 19 = .ok (.aload_n 0, 1) := by decide +kernel
theorem dX8_canMove_20 : decode cX8_canMove 20 = .ok (.iload_n 1, 1) := by decide +kernel
theorem dX8_canMove_21 : decode cX8_canMove 21 = .ok (.invokestatic 58, 3) := by decide +kernel
theorem dX8_canMove_24 : decode cX8_canMove 24 = .ok (.iconst 1, 1) := by decide +kernel
theorem dX8_canMove_25 : decode cX8_canMove 25 = .ok (.iadd, 1) := by decide +kernel
theorem dX8_canMove_26 : decode cX8_canMove 26 = .ok (.iaload, 1) := by decide +kernel
theorem dX8_canMove_27 : decode cX8_canMove 27 = .ok (.if_icmp .ne 7, 3) := by decide +kernel
theorem dX8_canMove_30 : decode cX8_canMove 30 = .ok (.iconst 1, 1) := by decide +kernel
theorem dX8_canMove_31 : decode cX8_canMove 31 = .ok (.goto 4, 3) := by decide +kernel
theorem dX8_canMove_34 : decode cX8_canMove 34 = .ok (.iconst 0, 1) := by decide +kernel
theorem dX8_canMove_35 : decode cX8_canMove 35 = .ok (.istore 4, 2) := by decide +kernel
theorem dX8_canMove_37 : decode cX8_canMove 37 = .ok (.aload_n 0, 1) := by decide +kernel
theorem dX8_canMove_38 : decode cX8_canMove 38 = .ok (.iload_n 1, 1) := by decide +kernel
theorem dX8_canMove_39 : decode cX8_canMove 39 = .ok (.invokestatic 58, 3) := by decide +kernel
theorem dX8_canMove_42 : decode cX8_canMove 42 = .ok (.iconst 2, 1) := by decide +kernel
theorem dX8_canMove_43 : decode cX8_canMove 43 = .ok (.iadd, 1) := by decide +kernel
theorem dX8_canMove_44 : decode cX8_canMove 44 = .ok (.iaload, 1) := by decide +kernel
theorem dX8_canMove_45 : decode cX8_canMove 45 = .ok (.iload_n 3, 1) := by decide +kernel
theorem dX8_canMove_46 : decode cX8_canMove 46 = .ok (.if_icmp .lt 21, 3) := by decide +kernel
theorem dX8_canMove_49 : decode cX8_canMove 49 = .ok (.iload 4, 2) := by decide +kernel
theorem dX8_canMove_51 : decode cX8_canMove 51 = .ok (.ifCond .eq 16, 3) := by decide +kernel
theorem dX8_canMove_54 : decode cX8_canMove 54 = .ok (.aload_n 0, 1) := by decide +kernel
theorem dX8_canMove_55 : decode cX8_canMove 55 = .ok (.iload_n 2, 1) := by decide +kernel
theorem dX8_canMove_56 : decode cX8_canMove 56 = .ok (.invokestatic 70, 3) := by decide +kernel
theorem dX8_canMove_59 : decode cX8_canMove 59 = .ok (.iload_n 3, 1) := by decide +kernel
theorem dX8_canMove_60 : decode cX8_canMove 60 = .ok (.if_icmp .lt 7, 3) := by decide +kernel
theorem dX8_canMove_63 : decode cX8_canMove 63 = .ok (.iconst 1, 1) := by decide +kernel
theorem dX8_canMove_64 : decode cX8_canMove 64 = .ok (.goto 4, 3) := by decide +kernel
theorem dX8_canMove_67 : decode cX8_canMove 67 = .ok (.iconst 0, 1) := by decide +kernel
theorem dX8_canMove_68 : decode cX8_canMove 68 = .ok (.ireturn, 1) := by decide +kernel
theorem dX8_goMove_0 : decode cX8_goMove 0 = .ok (.aload_n 0, 1) := by decide +kernel
theorem dX8_goMove_1 : decode cX8_goMove 1 = .ok (.iload_n 2, 1) := by decide +kernel
theorem dX8_goMove_2 : decode cX8_goMove 2 = .ok (.invokestatic 58, 3) := by decide +kernel
theorem dX8_goMove_5 : decode cX8_goMove 5 = .ok (.iconst 1, 1) := by decide +kernel
theorem dX8_goMove_6 : decode cX8_goMove 6 = .ok (.iadd, 1) := by decide +kernel
theorem dX8_goMove_7 : decode cX8_goMove 7 = .ok (.aload_n 0, 1) := by decide +kernel
theorem dX8_goMove_8 : decode cX8_goMove 8 = .ok (.iload_n 1, 1) := by decide +kernel
theorem dX8_goMove_9 : decode cX8_goMove 9 = .ok (.invokestatic 58, 3) := by decide +kernel
theorem dX8_goMove_12 : decode cX8_goMove 12 = .ok (.iconst 1, 1) := by decide +kernel
theorem dX8_goMove_13 : decode cX8_goMove 13 = .ok (.iadd, 1) := by decide +kernel
theorem dX8_goMove_14 : decode cX8_goMove 14 = .ok (.iaload, 1) := by decide +kernel
theorem dX8_goMove_15 : decode cX8_goMove 15 = .ok (.iastore, 1) := by decide +kernel
theorem dX8_goMove_16 : decode cX8_goMove 16 = .ok (.aload_n 0, 1) := by decide +kernel
theorem dX8_goMove_17 : decode cX8_goMove 17 = .ok (.iload_n 1, 1) := by decide +kernel
theorem dX8_goMove_18 : decode cX8_goMove 18 = .ok (.invokestatic 58, 3) := by decide +kernel
theorem dX8_goMove_21 : decode cX8_goMove 21 = .ok (.iconst 2, 1) := by decide +kernel
theorem dX8_goMove_22 : decode cX8_goMove 22 = .ok (.iadd, 1) := by decide +kernel
theorem dX8_goMove_23 : decode cX8_goMove 23 = .ok (.dup2, 1) := by decide +kernel
theorem dX8_goMove_24 : decode cX8_goMove 24 = .ok (.iaload, 1) := by decide +kernel
theorem dX8_goMove_25 : decode cX8_goMove 25 = .ok (.iload_n 3, 1) := by decide +kernel
theorem dX8_goMove_26 : decode cX8_goMove 26 = .ok (.isub, 1) := by decide +kernel
theorem dX8_goMove_27 : decode cX8_goMove 27 = .ok (.iastore, 1) := by decide +kernel
theorem dX8_goMove_28 : decode cX8_goMove 28 = .ok (.aload_n 0, 1) := by decide +kernel
theorem dX8_goMove_29 : decode cX8_goMove 29 = .ok (.iload_n 2, 1) := by decide +kernel
theorem dX8_goMove_30 : decode cX8_goMove 30 = .ok (.invokestatic 58, 3) := by decide +kernel
theorem dX8_goMove_33 : decode cX8_goMove 33 = .ok (.iconst 2, 1) := by decide +kernel
theorem dX8_goMove_34 : decode cX8_goMove 34 = .ok (.iadd, 1) := by decide +kernel
theorem dX8_goMove_35 : decode cX8_goMove 35 = .ok (.dup2, 1) := by decide +kernel
theorem dX8_goMove_36 : decode cX8_goMove 36 = .ok (.iaload, 1) := by decide +kernel
theorem dX8_goMove_37 : decode cX8_goMove 37 = .ok (.iload_n 3, 1) := by decide +kernel
theorem dX8_goMove_38 : decode cX8_goMove 38 = .ok (.iadd, 1) := by decide +kernel
theorem dX8_goMove_39 : decode cX8_goMove 39 = .ok (.iastore, 1) := by decide +kernel
theorem dX8_goMove_40 : decode cX8_goMove 40 = .ok (.return_, 1) := by decide +kernel
theorem dX8_append_0 : decode cX8_append 0 = .ok (.aload_n 0, 1) := by decide +kernel
theorem dX8_append_1 : decode cX8_append 1 = .ok (.iload_n 1, 1) := by decide +kernel
theorem dX8_append_2 : decode cX8_append 2 = .ok (.i2l, 1) := by decide +kernel
theorem dX8_append_3 : decode cX8_append 3 = .ok (.lconst 0, 1) := by decide +kernel
theorem dX8_append_4 : decode cX8_append 4 = .ok (.ldc2_w 106, 3) := by decide +kernel
theorem dX8_append_7 : decode cX8_append 7 = .ok (.invokestatic 108, 3) := by decide +kernel
theorem dX8_append_10 : decode cX8_append 10 = .ok (.ifCond .ne 7, 3) := by decide +kernel
theorem dX8_append_13 : decode cX8_append 13 = .ok (.iconst 1, 1) := by decide +kernel
theorem dX8_append_14 : decode cX8_append 14 = .ok (.goto 17, 3) := by decide +kernel
theorem dX8_append_17 : decode cX8_append 17 = .ok (.aload_n 0, 1) := by decide +kernel
theorem dX8_append_18 : decode cX8_append 18 = .ok (.getfield 112, 3) := by decide +kernel
theorem dX8_append_21 : decode cX8_append 21 = .ok (.bipush 120, 2) := by decide +kernel
theorem dX8_append_23 : decode cX8_append 23 = .ok (.if_icmp .ne 7, 3) := by decide +kernel
theorem dX8_append_26 : decode cX8_append 26 = .ok (.iconst 2, 1) := by decide +kernel
theorem dX8_append_27 : decode cX8_append 27 = .ok (.goto 4, 3) := by decide +kernel
theorem dX8_append_30 : decode cX8_append 30 = .ok (.iconst 0, 1) := by decide +kernel
theorem dX8_append_31 : decode cX8_append 31 = .ok (.invokevirtual 115, 3) := by decide +kernel
theorem dX8_append_34 : decode cX8_append 34 = .ok (.ifCond .eq 5, 3) := by decide +kernel
theorem dX8_append_37 : decode cX8_append 37 = .ok (.iconst 0, 1) := by decide +kernel
theorem dX8_append_38 : decode cX8_append 38 = .ok (.ireturn, 1) := by decide +kernel
theorem dX8_append_39 : decode cX8_append 39 = .ok (.aload_n 0, 1) := by decide +kernel
theorem dX8_append_40 : decode cX8_append 40 = .ok (.getfield 7, 3) := by decide +kernel
theorem dX8_append_43 : decode cX8_append 43 = .ok (.aload_n 0, 1) := by decide +kernel
theorem dX8_append_44 : decode cX8_append 44 = .ok (.getfield 112, 3) := by decide +kernel
theorem dX8_append_47 : decode cX8_append 47 = .ok (.iload_n 1, 1) := by decide +kernel
theorem dX8_append_48 : decode cX8_append 48 = .ok (.iastore, 1) := by decide +kernel
theorem dX8_append_49 : decode cX8_append 49 = .ok (.aload_n 0, 1) := by decide +kernel
theorem dX8_append_50 : decode cX8_append 50 = .ok (.dup, 1) := by decide +kernel
theorem dX8_append_51 : decode cX8_append 51 = .ok (.getfield 112, 3) := by decide +kernel
theorem dX8_append_54 : decode cX8_append 54 = .ok (.iconst 1, 1) := by decide +kernel
theorem dX8_append_55 : decode cX8_append 55 = .ok (.iadd, 1) := by decide +kernel
theorem dX8_append_56 : decode cX8_append 56 = .ok (.putfield 112, 3) := by decide +kernel
theorem dX8_append_59 : decode cX8_append 59 = .ok (.aload_n 0, 1) := by decide +kernel
theorem dX8_append_60 : decode cX8_append 60 = .ok (.getfield 112, 3) := by decide +kernel
theorem dX8_append_63 : decode cX8_append 63 = .ok (.ireturn, 1) := by decide +kernel
theorem dX8_clearText_0 : decode cX8_clearText 0 = .ok (.aload_n 0, 1) := by decide +kernel
theorem dX8_clearText_1 : decode cX8_clearText 1 = .ok (.iconst 0, 1) := by decide +kernel
theorem dX8_clearText_2 : decode cX8_clearText 2 = .ok (.putfield 41, 3) := by decide +kernel
theorem dX8_clearText_5 : decode cX8_clearText 5 = .ok (.aload_n 0, 1) := by decide +kernel
theorem dX8_clearText_6 : decode cX8_clearText 6 = .ok (.getfield 112, 3) := by decide +kernel
theorem dX8_clearText_9 : decode cX8_clearText 9 = .ok (.istore_n 1, 1) := by decide +kernel
theorem dX8_clearText_10 : decode cX8_clearText 10 = .ok (.aload_n 0, 1) := by decide +kernel
theorem dX8_clearText_11 : decode cX8_clearText 11 = .ok (.iconst 0, 1) := by decide +kernel
theorem dX8_clearText_12 : decode cX8_clearText 12 = .ok (.putfield 112, 3) := by decide +kernel
theorem dX8_clearText_15 : decode cX8_clearText 15 = .ok (.iload_n 1, 1) := by decide +kernel
theorem dX8_clearText_16 : decode cX8_clearText 16 = .ok (.ireturn, 1) := by decide +kernel
theorem dX8_isNext_0 : decode cX8_isNext 0 = .ok (.aload_n 0, 1) := by decide +kernel
theorem dX8_isNext_1 : decode cX8_isNext 1 = .ok (.getfield 119, 3) := by decide +kernel
theorem dX8_isNext_4 : decode cX8_isNext 4 = .ok (.aload_n 0, 1) := by decide +kernel
theorem dX8_isNext_5 : decode cX8_isNext 5 = .ok (.getfield 112, 3) := by decide +kernel
theorem dX8_isNext_8 : decode cX8_isNext 8 = .ok (.if_icmp .ge 20, 3) := by decide +kernel
theorem dX8_isNext_11 : decode cX8_isNext 11 = .ok (.aload_n 0, 1) := by decide +kernel
theorem dX8_isNext_12 : decode cX8_isNext 12 = .ok (.getfield 7, 3) := by decide +kernel
theorem dX8_isNext_15 : decode cX8_isNext 15 = .ok (.aload_n 0, 1) := by decide +kernel
theorem dX8_isNext_16 : decode cX8_isNext 16 = .ok (.getfield 119, 3) := by decide +kernel
theorem dX8_isNext_19 : decode cX8_isNext 19 = .ok (.iaload, 1) := by decide +kernel
theorem dX8_isNext_20 : decode cX8_isNext 20 = .ok (.iload_n 1, 1) := by decide +kernel
theorem dX8_isNext_21 : decode cX8_isNext 21 = .ok (.if_icmp .ne 7, 3) := by decide +kernel
theorem dX8_isNext_24 : decode cX8_isNext 24 = .ok (.iconst 1, 1) := by decide +kernel
theorem dX8_isNext_25 : decode cX8_isNext 25 = .ok (.goto 4, 3) := by decide +kernel
theorem dX8_isNext_28 : decode cX8_isNext 28 = .ok (.iconst 0, 1) := by decide +kernel
theorem dX8_isNext_29 : decode cX8_isNext 29 = .ok (.ireturn, 1) := by decide +kernel
theorem dX8_accept_0 : decode cX8_accept 0 = .ok (.aload_n 0, 1) := by decide +kernel
theorem dX8_accept_1 : decode cX8_accept 1 = .ok (.aload_n 0, 1) := by decide +kernel
theorem dX8_accept_2 : decode cX8_accept 2 = .ok (.getfield 122, 3) := by decide +kernel
theorem dX8_accept_5 : decode cX8_accept 5 = .ok (.ifCond .eq 11, 3) := by decide +kernel
theorem dX8_accept_8 : decode cX8_accept 8 = .ok (.iload_n 1, 1) := by decide +kernel
theorem dX8_accept_9 : decode cX8_accept 9 = .ok (.ifCond .eq 7, 3) := by decide +kernel
theorem dX8_accept_12 : decode cX8_accept 12 = .ok (.iconst 1, 1) := by decide +kernel
theorem dX8_accept_13 : decode cX8_accept 13 = .ok (.goto 4, 3) := by decide +kernel
theorem dX8_accept_16 : decode cX8_accept 16 = .ok (.iconst 0, 1) := by decide +kernel
theorem dX8_accept_17 : decode cX8_accept 17 = .ok (.putfield 122, 3) := by decide +kernel
theorem dX8_accept_20 : decode cX8_accept 20 = .ok (.aload_n 0, 1) := by decide +kernel
theorem dX8_accept_21 : decode cX8_accept 21 = .ok (.dup, 1) := by decide +kernel
theorem dX8_accept_22 : decode cX8_accept 22 = .ok (.getfield 119, 3) := by decide +kernel
theorem dX8_accept_25 : decode cX8_accept 25 = .ok (.aload_n 0, 1) := by decide +kernel
theorem dX8_accept_26 : decode cX8_accept 26 = .ok (.getfield 122, 3) := by decide +kernel
theorem dX8_accept_29 : decode cX8_accept 29 = .ok (.ifCond .eq 7, 3) := by decide +kernel
theorem dX8_accept_32 : decode cX8_accept 32 = .ok (.iconst 1, 1) := by decide +kernel
theorem dX8_accept_33 : decode cX8_accept 33 = .ok (.goto 4, 3) := by decide +kernel
theorem dX8_accept_36 : decode cX8_accept 36 = .ok (.iconst 0, 1) := by decide +kernel
theorem dX8_accept_37 : decode cX8_accept 37 = .ok (.iadd, 1) := by decide +kernel
theorem dX8_accept_38 : decode cX8_accept 38 = .ok (.putfield 119, 3) := by decide +kernel
theorem dX8_accept_41 : decode cX8_accept 41 = .ok (.return_, 1) := by decide +kernel
theorem dX8_digit_0 : decode cX8_digit 0 = .ok (.aload_n 0, 1) := by decide +kernel
theorem dX8_digit_1 : decode cX8_digit 1 = .ok (.getfield 119, 3) := by decide +kernel
theorem dX8_digit_4 : decode cX8_digit 4 = .ok (.aload_n 0, 1) := by decide +kernel
theorem dX8_digit_5 : decode cX8_digit 5 = .ok (.getfield 112, 3) := by decide +kernel
theorem dX8_digit_8 : decode cX8_digit 8 = .ok (.if_icmp .ge 18, 3) := by decide +kernel
theorem dX8_digit_11 : decode cX8_digit 11 = .ok (.aload_n 0, 1) := by decide +kernel
theorem dX8_digit_12 : decode cX8_digit 12 = .ok (.getfield 7, 3) := by decide +kernel
theorem dX8_digit_15 : decode cX8_digit 15 = .ok (.aload_n 0, 1) := by decide +kernel
theorem dX8_digit_16 : decode cX8_digit 16 = .ok (.getfield 119, 3) := by decide +kernel
theorem dX8_digit_19 : decode cX8_digit 19 = .ok (.iaload, 1) := by decide +kernel
theorem dX8_digit_20 : decode cX8_digit 20 = .ok (.bipush 48, 2) := by decide +kernel
theorem dX8_digit_22 : decode cX8_digit 22 = .ok (.isub, 1) := by decide +kernel
theorem dX8_digit_23 : decode cX8_digit 23 = .ok (.goto 5, 3) := by decide +kernel
theorem dX8_digit_26 : decode cX8_digit 26 = .ok (.ldc 65, 2) := by decide +kernel
theorem dX8_digit_28 : decode cX8_digit 28 = .ok (.istore_n 3, 1) := by decide +kernel
theorem dX8_digit_29 : decode cX8_digit 29 = .ok (.aload_n 0, 1) := by decide +kernel
theorem dX8_digit_30 : decode cX8_digit 30 = .ok (.iload_n 3, 1) := by decide +kernel
theorem dX8_digit_31 : decode cX8_digit 31 = .ok (.i2l, 1) := by decide +kernel
theorem dX8_digit_32 : decode cX8_digit 32 = .ok (.lconst 0, 1) := by decide +kernel
theorem dX8_digit_33 : decode cX8_digit 33 = .ok (.ldc2_w 126, 3) := by decide +kernel
theorem dX8_digit_36 : decode cX8_digit 36 = .ok (.invokestatic 108, 3) := by decide +kernel
theorem dX8_digit_39 : decode cX8_digit 39 = .ok (.ifCond .eq 19, 3) := by decide +kernel
theorem dX8_digit_42 : decode cX8_digit 42 = .ok (.iload_n 3, 1) := by decide +kernel
theorem dX8_digit_43 : decode cX8_digit 43 = .ok (.i2l, 1) := by decide +kernel
theorem dX8_digit_44 : decode cX8_digit 44 = .ok (.iload_n 1, 1) := by decide +kernel
theorem dX8_digit_45 : decode cX8_digit 45 = .ok (.i2l, 1) := by decide +kernel
theorem dX8_digit_46 : decode cX8_digit 46 = .ok (.iload_n 2, 1) := by decide +kernel
theorem dX8_digit_47 : decode cX8_digit 47 = .ok (.i2l, 1) := by decide +kernel
theorem dX8_digit_48 : decode cX8_digit 48 = .ok (.invokestatic 108, 3) := by decide +kernel
theorem dX8_digit_51 : decode cX8_digit 51 = .ok (.ifCond .eq 7, 3) := by decide +kernel
theorem dX8_digit_54 : decode cX8_digit 54 = .ok (.iconst 1, 1) := by decide +kernel
theorem dX8_digit_55 : decode cX8_digit 55 = .ok (.goto 4, 3) := by decide +kernel
theorem dX8_digit_58 : decode cX8_digit 58 = .ok (.iconst 0, 1) := by decide +kernel
theorem dX8_digit_59 : decode cX8_digit 59 = .ok (.invokevirtual 128, 3) := by decide +kernel
theorem dX8_digit_62 : decode cX8_digit 62 = .ok (.aload_n 0, 1) := by decide +kernel
theorem dX8_digit_63 : decode cX8_digit 63 = .ok (.getfield 122, 3) := by decide +kernel
theorem dX8_digit_66 : decode cX8_digit 66 = .ok (.ifCond .eq 7, 3) := by decide +kernel
theorem dX8_digit_69 : decode cX8_digit 69 = .ok (.iload_n 3, 1) := by decide +kernel
theorem dX8_digit_70 : decode cX8_digit 70 = .ok (.goto 4, 3) := by decide +kernel
theorem dX8_digit_73 : decode cX8_digit 73 = .ok (.iload_n 1, 1) := by decide +kernel
theorem dX8_digit_74 : decode cX8_digit 74 = .ok (.ireturn, 1) := by decide +kernel
theorem dX8_two_0 : decode cX8_two 0 = .ok (.aload_n 0, 1) := by decide +kernel
theorem dX8_two_1 : decode cX8_two 1 = .ok (.iload_n 1, 1) := by decide +kernel
theorem dX8_two_2 : decode cX8_two 2 = .ok (.bipush 10, 2) := by decide +kernel
theorem dX8_two_4 : decode cX8_two 4 = .ok (.idiv, 1) := by decide +kernel
theorem dX8_two_5 : decode cX8_two 5 = .ok (.iload_n 2, 1) := by decide +kernel
theorem dX8_two_6 : decode cX8_two 6 = .ok (.bipush 10, 2) := by decide +kernel
theorem dX8_two_8 : decode cX8_two 8 = .ok (.idiv, 1) := by decide +kernel
theorem dX8_two_9 : decode cX8_two 9 = .ok (.invokevirtual 132, 3) := by decide +kernel
theorem dX8_two_12 : decode cX8_two 12 = .ok (.istore_n 3, 1) := by decide +kernel
theorem dX8_two_13 : decode cX8_two 13 = .ok (.iload_n 1, 1) := by decide +kernel
theorem dX8_two_14 : decode cX8_two 14 = .ok (.bipush 10, 2) := by decide +kernel
theorem dX8_two_16 : decode cX8_two 16 = .ok (.iload_n 3, 1) := by decide +kernel
theorem dX8_two_17 : decode cX8_two 17 = .ok (.imul, 1) := by decide +kernel
theorem dX8_two_18 : decode cX8_two 18 = .ok (.isub, 1) := by decide +kernel
theorem dX8_two_19 : decode cX8_two 19 = .ok (.istore 4, 2) := by decide +kernel
theorem dX8_two_21 : decode cX8_two 21 = .ok (.iload_n 2, 1) := by decide +kernel
theorem dX8_two_22 : decode cX8_two 22 = .ok (.bipush 10, 2) := by decide +kernel
theorem dX8_two_24 : decode cX8_two 24 = .ok (.iload_n 3, 1) := by decide +kernel
theorem dX8_two_25 : decode cX8_two 25 = .ok (.imul, 1) := by decide +kernel
theorem dX8_two_26 : decode cX8_two 26 = .ok (.isub, 1) := by decide +kernel
theorem dX8_two_27 : decode cX8_two 27 = .ok (.istore 5, 2) := by decide +kernel
theorem dX8_two_29 : decode cX8_two 29 = .ok (.bipush 10, 2) := by decide +kernel
theorem dX8_two_31 : decode cX8_two 31 = .ok (.iload_n 3, 1) := by decide +kernel
theorem dX8_two_32 : decode cX8_two 32 = .ok (.imul, 1) := by decide +kernel
theorem dX8_two_33 : decode cX8_two 33 = .ok (.aload_n 0, 1) := by decide +kernel
theorem dX8_two_34 : decode cX8_two 34 = .ok (.iload 4, 2) := by decide +kernel
theorem dX8_two_36 : decode cX8_two 36 = .ok (.ifCond .ge 7, 3) := by decide +kernel
theorem dX8_two_39 : decode cX8_two 39 = .ok (.iconst 0, 1) := by decide +kernel
theorem dX8_two_40 : decode cX8_two 40 = .ok (.goto 5, 3) := by decide +kernel
theorem dX8_two_43 : decode cX8_two 43 = .ok (.iload 4, 2) := by decide +kernel
theorem dX8_two_45 : decode cX8_two 45 = .ok (.iload 5, 2) := by decide +kernel
theorem dX8_two_47 : decode cX8_two 47 = .ok (.bipush 9, 2) := by decide +kernel
theorem dX8_two_49 : decode cX8_two 49 = .ok (.if_icmp .le 8, 3) := by decide +kernel
theorem dX8_two_52 : decode cX8_two 52 = .ok (.bipush 9, 2) := by decide +kernel
theorem dX8_two_54 : decode cX8_two 54 = .ok (.goto 5, 3) := by decide +kernel
theorem dX8_two_57 : decode cX8_two 57 = .ok (.iload 5, 2) := by decide +kernel
theorem dX8_two_59 : decode cX8_two 59 = .ok (.invokevirtual 132, 3) := by decide +kernel
theorem dX8_two_62 : decode cX8_two 62 = .ok (.iadd, 1) := by decide +kernel
theorem dX8_two_63 : decode cX8_two 63 = .ok (.ireturn, 1) := by decide +kernel
theorem dX8_addMemberTo_0 : decode cX8_addMemberTo 0 = .ok (.aload_n 0, 1) := by decide +kernel
theorem dX8_addMemberTo_1 : decode cX8_addMemberTo 1 = .ok (.aload_n 0, 1) := by decide +kernel
theorem dX8_addMemberTo_2 : decode cX8_addMemberTo 2 = .ok (.iconst 0, 1) := by decide +kernel
theorem dX8_addMemberTo_3 : decode cX8_addMemberTo 3 = .ok (.iaload, 1) := by decide +kernel
theorem dX8_addMemberTo_4 : decode cX8_addMemberTo 4 = .ok (.invokestatic 83, 3) := by decide +kernel
theorem dX8_addMemberTo_7 : decode cX8_addMemberTo 7 = .ok (.iload_n 1, 1) := by decide +kernel
theorem dX8_addMemberTo_8 : decode cX8_addMemberTo 8 = .ok (.iastore, 1) := by decide +kernel
theorem dX8_addMemberTo_9 : decode cX8_addMemberTo 9 = .ok (.aload_n 0, 1) := by decide +kernel
theorem dX8_addMemberTo_10 : decode cX8_addMemberTo 10 = .ok (.iconst 0, 1) := by decide +kernel
theorem dX8_addMemberTo_11 : decode cX8_addMemberTo 11 = .ok (.dup2, 1) := by decide +kernel
theorem dX8_addMemberTo_12 : decode cX8_addMemberTo 12 = .ok (.iaload, 1) := by decide +kernel
theorem dX8_addMemberTo_13 : decode cX8_addMemberTo 13 = .ok (.iconst 1, 1) := by decide +kernel
theorem dX8_addMemberTo_14 : decode cX8_addMemberTo 14 = .ok (.iadd, 1) := by decide +kernel
theorem dX8_addMemberTo_15 : decode cX8_addMemberTo 15 = .ok (.iastore, 1) := by decide +kernel
theorem dX8_addMemberTo_16 : decode cX8_addMemberTo 16 = .ok (.return_, 1) := by decide +kernel
theorem dX8_addWineTo_0 : decode cX8_addWineTo 0 = .ok (.aload_n 0, 1) := by decide +kernel
theorem dX8_addWineTo_1 : decode cX8_addWineTo 1 = .ok (.iconst 1, 1) := by decide +kernel
theorem dX8_addWineTo_2 : decode cX8_addWineTo 2 = .ok (.iaload, 1) := by decide +kernel
theorem dX8_addWineTo_3 : decode cX8_addWineTo 3 = .ok (.invokestatic 62, 3) := by decide +kernel
theorem dX8_addWineTo_6 : decode cX8_addWineTo 6 = .ok (.istore_n 3, 1) := by decide +kernel
theorem dX8_addWineTo_7 : decode cX8_addWineTo 7 = .ok (.aload_n 0, 1) := by decide +kernel
theorem dX8_addWineTo_8 : decode cX8_addWineTo 8 = .ok (.iload_n 3, 1) := by decide +kernel
theorem dX8_addWineTo_9 : decode cX8_addWineTo 9 = .ok (.iconst 0, 1) := by decide +kernel
theorem dX8_addWineTo_10 : decode cX8_addWineTo 10 = .ok (.iadd, 1) := by decide +kernel
theorem dX8_addWineTo_11 : decode cX8_addWineTo 11 = .ok (.iload_n 1, 1) := by decide +kernel
theorem dX8_addWineTo_12 : decode cX8_addWineTo 12 = .ok (.iastore, 1) := by decide +kernel
theorem dX8_addWineTo_13 : decode cX8_addWineTo 13 = .ok (.aload_n 0, 1) := by decide +kernel
theorem dX8_addWineTo_14 : decode cX8_addWineTo 14 = .ok (.iload_n 3, 1) := by decide +kernel
theorem dX8_addWineTo_15 : decode cX8_addWineTo 15 = .ok (.iconst 1, 1) := by decide +kernel
theorem dX8_addWineTo_16 : decode cX8_addWineTo 16 = .ok (.iadd, 1) := by decide +kernel
theorem dX8_addWineTo_17 : decode cX8_addWineTo 17 = .ok (.iload_n 2, 1) := by decide +kernel
theorem dX8_addWineTo_18 : decode cX8_addWineTo 18 = .ok (.iastore, 1) := by decide +kernel
theorem dX8_addWineTo_19 : decode cX8_addWineTo 19 = .ok (.aload_n 0, 1) := by decide +kernel
theorem dX8_addWineTo_20 : decode cX8_addWineTo 20 = .ok (.iload_n 3, 1) := by decide +kernel
theorem dX8_addWineTo_21 : decode cX8_addWineTo 21 = .ok (.iconst 2, 1) := by decide +kernel
theorem dX8_addWineTo_22 : decode cX8_addWineTo 22 = .ok (.iadd, 1) := by decide +kernel
theorem dX8_addWineTo_23 : decode cX8_addWineTo 23 = .ok (.iload_n 2, 1) := by decide +kernel
theorem dX8_addWineTo_24 : decode cX8_addWineTo 24 = .ok (.iastore, 1) := by decide +kernel
theorem dX8_addWineTo_25 : decode cX8_addWineTo 25 = .ok (.aload_n 0, 1) := by decide +kernel
theorem dX8_addWineTo_26 : decode cX8_addWineTo 26 = .ok (.iconst 1, 1) := by decide +kernel
theorem dX8_addWineTo_27 : decode cX8_addWineTo 27 = .ok (.dup2, 1) := by decide +kernel
theorem dX8_addWineTo_28 : decode cX8_addWineTo 28 = .ok (.iaload, 1) := by decide +kernel
theorem dX8_addWineTo_29 : decode cX8_addWineTo 29 = .ok (.iconst 1, 1) := by decide +kernel
theorem dX8_addWineTo_30 : decode cX8_addWineTo 30 = .ok (.iadd, 1) := by decide +kernel
theorem dX8_addWineTo_31 : decode cX8_addWineTo 31 = .ok (.iastore, 1) := by decide +kernel
theorem dX8_addWineTo_32 : decode cX8_addWineTo 32 = .ok (.return_, 1) := by decide +kernel
theorem dX8_addBinTo_0 : decode cX8_addBinTo 0 = .ok (.aload_n 0, 1) := by decide +kernel
theorem dX8_addBinTo_1 : decode cX8_addBinTo 1 = .ok (.aload_n 0, 1) := by decide +kernel
theorem dX8_addBinTo_2 : decode cX8_addBinTo 2 = .ok (.iconst 2, 1) := by decide +kernel
theorem dX8_addBinTo_3 : decode cX8_addBinTo 3 = .ok (.iaload, 1) := by decide +kernel
theorem dX8_addBinTo_4 : decode cX8_addBinTo 4 = .ok (.invokestatic 58, 3) := by decide +kernel
theorem dX8_addBinTo_7 : decode cX8_addBinTo 7 = .ok (.iload_n 1, 1) := by decide +kernel
theorem dX8_addBinTo_8 : decode cX8_addBinTo 8 = .ok (.iastore, 1) := by decide +kernel
theorem dX8_addBinTo_9 : decode cX8_addBinTo 9 = .ok (.aload_n 0, 1) := by decide +kernel
theorem dX8_addBinTo_10 : decode cX8_addBinTo 10 = .ok (.iconst 2, 1) := by decide +kernel
theorem dX8_addBinTo_11 : decode cX8_addBinTo 11 = .ok (.dup2, 1) := by decide +kernel
theorem dX8_addBinTo_12 : decode cX8_addBinTo 12 = .ok (.iaload, 1) := by decide +kernel
theorem dX8_addBinTo_13 : decode cX8_addBinTo 13 = .ok (.iconst 1, 1) := by decide +kernel
theorem dX8_addBinTo_14 : decode cX8_addBinTo 14 = .ok (.iadd, 1) := by decide +kernel
theorem dX8_addBinTo_15 : decode cX8_addBinTo 15 = .ok (.iastore, 1) := by decide +kernel
theorem dX8_addBinTo_16 : decode cX8_addBinTo 16 = .ok (.return_, 1) := by decide +kernel
theorem dX8_readPart_0 : decode cX8_readPart 0 = .ok (.aload_n 0, 1) := by decide +kernel
theorem dX8_readPart_1 : decode cX8_readPart 1 = .ok (.bipush 109, 2) := by decide +kernel
theorem dX8_readPart_3 : decode cX8_readPart 3 = .ok (.invokevirtual 135, 3) := by decide +kernel
theorem dX8_readPart_6 : decode cX8_readPart 6 = .ok (.ifCond .eq 62, 3) := by decide +kernel
theorem dX8_readPart_9 : decode cX8_readPart 9 = .ok (.aload_n 0, 1) := by decide +kernel
theorem dX8_readPart_10 : decode cX8_readPart 10 = .ok (.aload_n 0, 1) := by decide +kernel
theorem dX8_readPart_11 : decode cX8_readPart 11 = .ok (.getfield 13, 3) := by decide +kernel
theorem dX8_readPart_14 : decode cX8_readPart 14 = .ok (.iconst 0, 1) := by decide +kernel
theorem dX8_readPart_15 : decode cX8_readPart 15 = .ok (.iaload, 1) := by decide +kernel
theorem dX8_readPart_16 : decode cX8_readPart 16 = .ok (.bipush 6, 2) := by decide +kernel
theorem dX8_readPart_18 : decode cX8_readPart 18 = .ok (.if_icmp .ge 7, 3) := by decide +kernel
theorem dX8_readPart_21 : decode cX8_readPart 21 = .ok (.iconst 1, 1) := by decide +kernel
theorem dX8_readPart_22 : decode cX8_readPart 22 = .ok (.goto 4, 3) := by decide +kernel
theorem dX8_readPart_25 : decode cX8_readPart 25 = .ok (.iconst 0, 1) := by decide +kernel
theorem dX8_readPart_26 : decode cX8_readPart 26 = .ok (.invokevirtual 128, 3) := by decide +kernel
theorem dX8_readPart_29 : decode cX8_readPart 29 = .ok (.aload_n 0, 1) := by decide +kernel
theorem dX8_readPart_30 : decode cX8_readPart 30 = .ok (.iconst 0, 1) := by decide +kernel
theorem dX8_readPart_31 : decode cX8_readPart 31 = .ok (.bipush 9, 2) := by decide +kernel
theorem dX8_readPart_33 : decode cX8_readPart 33 = .ok (.invokevirtual 132, 3) := by decide +kernel
theorem dX8_readPart_36 : decode cX8_readPart 36 = .ok (.istore_n 1, 1) := by decide +kernel
theorem dX8_readPart_37 : decode cX8_readPart 37 = .ok (.bipush 100, 2) := by decide +kernel
theorem dX8_readPart_39 : decode cX8_readPart 39 = .ok (.iload_n 1, 1) := by decide +kernel
theorem dX8_readPart_40 : decode cX8_readPart 40 = .ok (.imul, 1) := by decide +kernel
theorem dX8_readPart_41 : decode cX8_readPart 41 = .ok (.aload_n 0, 1) := by decide +kernel
theorem dX8_readPart_42 : decode cX8_readPart 42 = .ok (.iconst 0, 1) := by decide +kernel
theorem dX8_readPart_43 : decode cX8_readPart 43 = .ok (.bipush 99, 2) := by decide +kernel
theorem dX8_readPart_45 : decode cX8_readPart 45 = .ok (.invokevirtual 138, 3) := by decide +kernel
theorem dX8_readPart_48 : decode cX8_readPart 48 = .ok (.iadd, 1) := by decide +kernel
theorem dX8_readPart_49 : decode cX8_readPart 49 = .ok (.istore_n 2, 1) := by decide +kernel
theorem dX8_readPart_50 : decode cX8_readPart 50 = .ok (.aload_n 0, 1) := by decide +kernel
theorem dX8_readPart_51 : decode cX8_readPart 51 = .ok (.getfield 122, 3) := by decide +kernel
theorem dX8_readPart_54 : decode cX8_readPart 54 = .ok (.ifCond .eq 11, 3) := by decide +kernel
theorem dX8_readPart_57 : decode cX8_readPart 57 = .ok (.aload_n 0, 1) := by decide +kernel
theorem dX8_readPart_58 : decode cX8_readPart 58 = .ok (.getfield 13, 3) := by decide +kernel
theorem dX8_readPart_61 : decode cX8_readPart 61 = .ok (.iload_n 2, 1) := by decide +kernel
theorem dX8_readPart_62 : decode cX8_readPart 62 = .ok (.invokestatic 141, 3) := by decide +kernel
theorem dX8_readPart_65 : decode cX8_readPart 65 = .ok (.goto 212, 3) := by decide +kernel
theorem dX8_readPart_68 : decode cX8_readPart 68 = .ok (.aload_n 0, 1) := by decide +kernel
theorem dX8_readPart_69 : decode cX8_readPart 69 = .ok (.bipush 119, 2) := by decide +kernel
theorem dX8_readPart_71 : decode cX8_readPart 71 = .ok (.invokevirtual 135, 3) := by decide +kernel
theorem dX8_readPart_74 : decode cX8_readPart 74 = .ok (.ifCond .eq 58, 3) := by decide +kernel
theorem dX8_readPart_77 : decode cX8_readPart 77 = .ok (.aload_n 0, 1) := by decide +kernel
theorem dX8_readPart_78 : decode cX8_readPart 78 = .ok (.aload_n 0, 1) := by decide +kernel
theorem dX8_readPart_79 : decode cX8_readPart 79 = .ok (.getfield 13, 3) := by decide +kernel
theorem dX8_readPart_82 : decode cX8_readPart 82 = .ok (.iconst 1, 1) := by decide +kernel
theorem dX8_readPart_83 : decode cX8_readPart 83 = .ok (.iaload, 1) := by decide +kernel
theorem dX8_readPart_84 : decode cX8_readPart 84 = .ok (.bipush 6, 2) := by decide +kernel
theorem dX8_readPart_86 : decode cX8_readPart 86 = .ok (.if_icmp .ge 7, 3) := by decide +kernel
theorem dX8_readPart_89 : decode cX8_readPart 89 = .ok (.iconst 1, 1) := by decide +kernel
theorem dX8_readPart_90 : decode cX8_readPart 90 = .ok (.goto 4, 3) := by decide +kernel
theorem dX8_readPart_93 : decode cX8_readPart 93 = .ok (.iconst 0, 1) := by decide +kernel
theorem dX8_readPart_94 : decode cX8_readPart 94 = .ok (.invokevirtual 128, 3) := by decide +kernel
theorem dX8_readPart_97 : decode cX8_readPart 97 = .ok (.aload_n 0, 1) := by decide +kernel
theorem dX8_readPart_98 : decode cX8_readPart 98 = .ok (.iconst 1, 1) := by decide +kernel
theorem dX8_readPart_99 : decode cX8_readPart 99 = .ok (.bipush 99, 2) := by decide +kernel
theorem dX8_readPart_101 : decode cX8_readPart 101 = .ok (.invokevirtual 138, 3) := by decide +kernel
theorem dX8_readPart_104 : decode cX8_readPart 104 = .ok (.istore_n 1, 1) := by decide +kernel
theorem dX8_readPart_105 : decode cX8_readPart 105 = .ok (.aload_n 0, 1) := by decide +kernel
theorem dX8_readPart_106 : decode cX8_readPart 106 = .ok (.iconst 0, 1) := by decide +kernel
theorem dX8_readPart_107 : decode cX8_readPart 107 = .ok (.bipush 60, 2) := by decide +kernel
theorem dX8_readPart_109 : decode cX8_readPart 109 = .ok (.invokevirtual 138, 3) := by decide +kernel
theorem dX8_readPart_112 : decode cX8_readPart 112 = .ok (.istore_n 2, 1) := by decide +kernel
theorem dX8_readPart_113 : decode cX8_readPart 113 = .ok (.aload_n 0, 1) := by decide +kernel
theorem dX8_readPart_114 : decode cX8_readPart 114 = .ok (.getfield 122, 3) := by decide +kernel
theorem dX8_readPart_117 : decode cX8_readPart 117 = .ok (.ifCond .eq 12, 3) := by decide +kernel
theorem dX8_readPart_120 : decode cX8_readPart 120 = .ok (.aload_n 0, 1) := by decide +kernel
theorem dX8_readPart_121 : decode cX8_readPart 121 = .ok (.getfield 13, 3) := by decide +kernel
theorem dX8_readPart_124 : decode cX8_readPart 124 = .ok (.iload_n 1, 1) := by decide +kernel
theorem dX8_readPart_125 : decode cX8_readPart 125 = .ok (.iload_n 2, 1) := by decide +kernel
theorem dX8_readPart_126 : decode cX8_readPart 126 = .ok (.invokestatic 145, 3) := by decide +kernel
theorem dX8_readPart_129 : decode cX8_readPart 129 = .ok (.goto 148, 3) := by decide +kernel
theorem dX8_readPart_132 : decode cX8_readPart 132 = .ok (.aload_n 0, 1) := by decide +kernel
theorem dX8_readPart_133 : decode cX8_readPart 133 = .ok (.bipush 98, 2) := by decide +kernel
theorem dX8_readPart_135 : decode cX8_readPart 135 = .ok (.invokevirtual 135, 3) := by decide +kernel
theorem dX8_readPart_138 : decode cX8_readPart 138 = .ok (.ifCond .eq 49, 3) := by decide +kernel
theorem dX8_readPart_141 : decode cX8_readPart 141 = .ok (.aload_n 0, 1) := by decide +kernel
theorem dX8_readPart_142 : decode cX8_readPart 142 = .ok (.aload_n 0, 1) := by decide +kernel
theorem dX8_readPart_143 : decode cX8_readPart 143 = .ok (.getfield 13, 3) := by decide +kernel
theorem dX8_readPart_146 : decode cX8_readPart 146 = .ok (.iconst 2, 1) := by decide +kernel
theorem dX8_readPart_147 : decode cX8_readPart 147 = .ok (.iaload, 1) := by decide +kernel
theorem dX8_readPart_148 : decode cX8_readPart 148 = .ok (.bipush 8, 2) := by decide +kernel
theorem dX8_readPart_150 : decode cX8_readPart 150 = .ok (.if_icmp .ge 7, 3) := by decide +kernel
theorem dX8_readPart_153 : decode cX8_readPart 153 = .ok (.iconst 1, 1) := by decide +kernel
theorem dX8_readPart_154 : decode cX8_readPart 154 = .ok (.goto 4, 3) := by decide +kernel
theorem dX8_readPart_157 : decode cX8_readPart 157 = .ok (.iconst 0, 1) := by decide +kernel
theorem dX8_readPart_158 : decode cX8_readPart 158 = .ok (.invokevirtual 128, 3) := by decide +kernel
theorem dX8_readPart_161 : decode cX8_readPart 161 = .ok (.aload_n 0, 1) := by decide +kernel
theorem dX8_readPart_162 : decode cX8_readPart 162 = .ok (.iconst 1, 1) := by decide +kernel
theorem dX8_readPart_163 : decode cX8_readPart 163 = .ok (.bipush 24, 2) := by decide +kernel
theorem dX8_readPart_165 : decode cX8_readPart 165 = .ok (.invokevirtual 138, 3) := by decide +kernel
theorem dX8_readPart_168 : decode cX8_readPart 168 = .ok (.istore_n 1, 1) := by decide +kernel
theorem dX8_readPart_169 : decode cX8_readPart 169 = .ok (.aload_n 0, 1) := by decide +kernel
theorem dX8_readPart_170 : decode cX8_readPart 170 = .ok (.getfield 122, 3) := by decide +kernel
theorem dX8_readPart_173 : decode cX8_readPart 173 = .ok (.ifCond .eq 11, 3) := by decide +kernel
theorem dX8_readPart_176 : decode cX8_readPart 176 = .ok (.aload_n 0, 1) := by decide +kernel
theorem dX8_readPart_177 : decode cX8_readPart 177 = .ok (.getfield 13, 3) := by decide +kernel
theorem dX8_readPart_180 : decode cX8_readPart 180 = .ok (.iload_n 1, 1) := by decide +kernel
theorem dX8_readPart_181 : decode cX8_readPart 181 = .ok (.invokestatic 148, 3) := by decide +kernel
theorem dX8_readPart_184 : decode cX8_readPart 184 = .ok (.goto 93, 3) := by decide +kernel
theorem dX8_readPart_187 : decode cX8_readPart 187 = .ok (.aload_n 0, 1) := by decide +kernel
theorem dX8_readPart_188 : decode cX8_readPart 188 = .ok (.aload_n 0, 1) := by decide +kernel
theorem dX8_readPart_189 : decode cX8_readPart 189 = .ok (.bipush 111, 2) := by decide +kernel
theorem dX8_readPart_191 : decode cX8_readPart 191 = .ok (.invokevirtual 135, 3) := by decide +kernel
theorem dX8_readPart_194 : decode cX8_readPart 194 = .ok (.ifCond .eq 25, 3) := by decide +kernel
theorem dX8_readPart_197 : decode cX8_readPart 197 = .ok (.aload_n 0, 1) := by decide +kernel
theorem dX8_readPart_198 : decode cX8_readPart 198 = .ok (.getfield 13, 3) := by decide +kernel
theorem dX8_readPart_201 : decode cX8_readPart 201 = .ok (.iconst 0, 1) := by decide +kernel
theorem dX8_readPart_202 : decode cX8_readPart 202 = .ok (.iaload, 1) := by decide +kernel
theorem dX8_readPart_203 : decode cX8_readPart 203 = .ok (.ifCond .le 16, 3) := by decide +kernel
theorem dX8_readPart_206 : decode cX8_readPart 206 = .ok (.aload_n 0, 1) := by decide +kernel
theorem dX8_readPart_207 : decode cX8_readPart 207 = .ok (.getfield 13, 3) := by decide +kernel
theorem dX8_readPart_210 : decode cX8_readPart 210 = .ok (.iconst 1, 1) := by decide +kernel
theorem dX8_readPart_211 : decode cX8_readPart 211 = .ok (.iaload, 1) := by decide +kernel
theorem dX8_readPart_212 : decode cX8_readPart 212 = .ok (.ifCond .le 7, 3) := by decide +kernel
theorem dX8_readPart_215 : decode cX8_readPart 215 = .ok (.iconst 1, 1) := by decide +kernel
theorem dX8_readPart_216 : decode cX8_readPart 216 = .ok (.goto 4, 3) := by decide +kernel
theorem dX8_readPart_219 : decode cX8_readPart 219 = .ok (.iconst 0, 1) := by decide +kernel
theorem dX8_readPart_220 : decode cX8_readPart 220 = .ok (.invokevirtual 128, 3) := by decide +kernel
theorem dX8_readPart_223 : decode cX8_readPart 223 = .ok (.aload_n 0, 1) := by decide +kernel
theorem dX8_readPart_224 : decode cX8_readPart 224 = .ok (.iconst 0, 1) := by decide +kernel
theorem dX8_readPart_225 : decode cX8_readPart 225 = .ok (.aload_n 0, 1) := by decide +kernel
theorem dX8_readPart_226 : decode cX8_readPart 226 = .ok (.getfield 13, 3) := by decide +kernel
theorem dX8_readPart_229 : decode cX8_readPart 229 = .ok (.iconst 0, 1) := by decide +kernel
theorem dX8_readPart_230 : decode cX8_readPart 230 = .ok (.iaload, 1) := by decide +kernel
theorem dX8_readPart_231 : decode cX8_readPart 231 = .ok (.iconst 1, 1) := by decide +kernel
theorem dX8_readPart_232 : decode cX8_readPart 232 = .ok (.isub, 1) := by decide +kernel
theorem dX8_readPart_233 : decode cX8_readPart 233 = .ok (.invokevirtual 132, 3) := by decide +kernel
theorem dX8_readPart_236 : decode cX8_readPart 236 = .ok (.istore_n 1, 1) := by decide +kernel
theorem dX8_readPart_237 : decode cX8_readPart 237 = .ok (.aload_n 0, 1) := by decide +kernel
theorem dX8_readPart_238 : decode cX8_readPart 238 = .ok (.iconst 0, 1) := by decide +kernel
theorem dX8_readPart_239 : decode cX8_readPart 239 = .ok (.aload_n 0, 1) := by decide +kernel
theorem dX8_readPart_240 : decode cX8_readPart 240 = .ok (.getfield 13, 3) := by decide +kernel
theorem dX8_readPart_243 : decode cX8_readPart 243 = .ok (.iconst 1, 1) := by decide +kernel
theorem dX8_readPart_244 : decode cX8_readPart 244 = .ok (.iaload, 1) := by decide +kernel
theorem dX8_readPart_245 : decode cX8_readPart 245 = .ok (.iconst 1, 1) := by decide +kernel
theorem dX8_readPart_246 : decode cX8_readPart 246 = .ok (.isub, 1) := by decide +kernel
theorem dX8_readPart_247 : decode cX8_readPart 247 = .ok (.invokevirtual 132, 3) := by decide +kernel
theorem dX8_readPart_250 : decode cX8_readPart 250 = .ok (.istore_n 2, 1) := by decide +kernel
theorem dX8_readPart_251 : decode cX8_readPart 251 = .ok (.aload_n 0, 1) := by decide +kernel
theorem dX8_readPart_252 : decode cX8_readPart 252 = .ok (.iconst 0, 1) := by decide +kernel
theorem dX8_readPart_253 : decode cX8_readPart 253 = .ok (.bipush 60, 2) := by decide +kernel
theorem dX8_readPart_255 : decode cX8_readPart 255 = .ok (.invokevirtual 138, 3) := by decide +kernel
theorem dX8_readPart_258 : decode cX8_readPart 258 = .ok (.istore_n 3, 1) := by decide +kernel
theorem dX8_readPart_259 : decode cX8_readPart 259 = .ok (.aload_n 0, 1) := by decide +kernel
theorem dX8_readPart_260 : decode cX8_readPart 260 = .ok (.getfield 122, 3) := by decide +kernel
theorem dX8_readPart_263 : decode cX8_readPart 263 = .ok (.ifCond .eq 14, 3) := by decide +kernel
theorem dX8_readPart_266 : decode cX8_readPart 266 = .ok (.aload_n 0, 1) := by decide +kernel
theorem dX8_readPart_267 : decode cX8_readPart 267 = .ok (.getfield 13, 3) := by decide +kernel
theorem dX8_readPart_270 : decode cX8_readPart 270 = .ok (.iload_n 1, 1) := by decide +kernel
theorem dX8_readPart_271 : decode cX8_readPart 271 = .ok (.iload_n 2, 1) := by decide +kernel
theorem dX8_readPart_272 : decode cX8_readPart 272 = .ok (.invokestatic 54, 3) := by decide +kernel
theorem dX8_readPart_275 : decode cX8_readPart 275 = .ok (.iload_n 3, 1) := by decide +kernel
theorem dX8_readPart_276 : decode cX8_readPart 276 = .ok (.iastore, 1) := by decide +kernel
theorem dX8_readPart_277 : decode cX8_readPart 277 = .ok (.return_, 1) := by decide +kernel
theorem dX8_readText_0 : decode cX8_readText 0 = .ok (.aload_n 0, 1) := by decide +kernel
theorem dX8_readText_1 : decode cX8_readText 1 = .ok (.iconst 0, 1) := by decide +kernel
theorem dX8_readText_2 : decode cX8_readText 2 = .ok (.putfield 119, 3) := by decide +kernel
theorem dX8_readText_5 : decode cX8_readText 5 = .ok (.aload_n 0, 1) := by decide +kernel
theorem dX8_readText_6 : decode cX8_readText 6 = .ok (.iconst 1, 1) := by decide +kernel
theorem dX8_readText_7 : decode cX8_readText 7 = .ok (.putfield 122, 3) := by decide +kernel
theorem dX8_readText_10 : decode cX8_readText 10 = .ok (.iconst 0, 1) := by decide +kernel
theorem dX8_readText_11 : decode cX8_readText 11 = .ok (.istore_n 1, 1) := by decide +kernel
theorem dX8_readText_12 : decode cX8_readText 12 = .ok (.iload_n 1, 1) := by decide +kernel
theorem dX8_readText_13 : decode cX8_readText 13 = .ok (.sipush 189, 3) := by decide +kernel
theorem dX8_readText_16 : decode cX8_readText 16 = .ok (.if_icmp .ge 16, 3) := by decide +kernel
theorem dX8_readText_19 : decode cX8_readText 19 = .ok (.aload_n 0, 1) := by decide +kernel
theorem dX8_readText_20 : decode cX8_readText 20 = .ok (.getfield 13, 3) := by decide +kernel
theorem dX8_readText_23 : decode cX8_readText 23 = .ok (.iload_n 1, 1) := by decide +kernel
theorem dX8_readText_24 : decode cX8_readText 24 = .ok (.iconst 0, 1) := by decide +kernel
theorem dX8_readText_25 : decode cX8_readText 25 = .ok (.iastore, 1) := by decide +kernel
theorem dX8_readText_26 : decode cX8_readText 26 = .ok (.iinc 1 1, 3) := by decide +kernel
theorem dX8_readText_29 : decode cX8_readText 29 = .ok (.goto (-17), 3) := by decide +kernel
theorem dX8_readText_32 : decode cX8_readText 32 = .ok (.aload_n 0, 1) := by decide +kernel
theorem dX8_readText_33 : decode cX8_readText 33 = .ok (.aload_n 0, 1) := by decide +kernel
theorem dX8_readText_34 : decode cX8_readText 34 = .ok (.bipush 67, 2) := by decide +kernel
theorem dX8_readText_36 : decode cX8_readText 36 = .ok (.invokevirtual 135, 3) := by decide +kernel
theorem dX8_readText_39 : decode cX8_readText 39 = .ok (.invokevirtual 128, 3) := by decide +kernel
theorem dX8_readText_42 : decode cX8_readText 42 = .ok (.aload_n 0, 1) := by decide +kernel
theorem dX8_readText_43 : decode cX8_readText 43 = .ok (.getfield 122, 3) := by decide +kernel
theorem dX8_readText_46 : decode cX8_readText 46 = .ok (.ifCond .eq 21, 3) := by decide +kernel
theorem dX8_readText_49 : decode cX8_readText 49 = .ok (.aload_n 0, 1) := by decide +kernel
theorem dX8_readText_50 : decode cX8_readText 50 = .ok (.getfield 119, 3) := by decide +kernel
theorem dX8_readText_53 : decode cX8_readText 53 = .ok (.aload_n 0, 1) := by decide +kernel
theorem dX8_readText_54 : decode cX8_readText 54 = .ok (.getfield 112, 3) := by decide +kernel
theorem dX8_readText_57 : decode cX8_readText 57 = .ok (.if_icmp .ge 10, 3) := by decide +kernel
theorem dX8_readText_60 : decode cX8_readText 60 = .ok (.aload_n 0, 1) := by decide +kernel
theorem dX8_readText_61 : decode cX8_readText 61 = .ok (.invokevirtual 151, 3) := by decide +kernel
theorem dX8_readText_64 : decode cX8_readText 64 = .ok (.goto (-22), 3) := by decide +kernel
theorem dX8_readText_67 : decode cX8_readText 67 = .ok (.aload_n 0, 1) := by decide +kernel
theorem dX8_readText_68 : decode cX8_readText 68 = .ok (.getfield 122, 3) := by decide +kernel
theorem dX8_readText_71 : decode cX8_readText 71 = .ok (.ifCond .eq 8, 3) := by decide +kernel
theorem dX8_readText_74 : decode cX8_readText 74 = .ok (.ldc 65, 2) := by decide +kernel
theorem dX8_readText_76 : decode cX8_readText 76 = .ok (.goto 7, 3) := by decide +kernel
theorem dX8_readText_79 : decode cX8_readText 79 = .ok (.aload_n 0, 1) := by decide +kernel
theorem dX8_readText_80 : decode cX8_readText 80 = .ok (.getfield 119, 3) := by decide +kernel
theorem dX8_readText_83 : decode cX8_readText 83 = .ok (.ireturn, 1) := by decide +kernel
theorem dX8_errorPosition_0 : decode cX8_errorPosition 0 = .ok (.aload_n 0, 1) := by decide +kernel
theorem dX8_errorPosition_1 : decode cX8_errorPosition 1 = .ok (.iconst 0, 1) := by decide +kernel
theorem dX8_errorPosition_2 : decode cX8_errorPosition 2 = .ok (.putfield 41, 3) := by decide +kernel
theorem dX8_errorPosition_5 : decode cX8_errorPosition 5 = .ok (.aload_n 0, 1) := by decide +kernel
theorem dX8_errorPosition_6 : decode cX8_errorPosition 6 = .ok (.invokevirtual 154, 3) := by decide +kernel
theorem dX8_errorPosition_9 : decode cX8_errorPosition 9 = .ok (.ireturn, 1) := by decide +kernel
theorem dX8_load_0 : decode cX8_load 0 = .ok (.aload_n 0, 1) := by decide +kernel
theorem dX8_load_1 : decode cX8_load 1 = .ok (.aload_n 0, 1) := by decide +kernel
theorem dX8_load_2 : decode cX8_load 2 = .ok (.invokevirtual 154, 3) := by decide +kernel
theorem dX8_load_5 : decode cX8_load 5 = .ok (.ldc 65, 2) := by decide +kernel
theorem dX8_load_7 : decode cX8_load 7 = .ok (.if_icmp .ne 7, 3) := by decide +kernel
theorem dX8_load_10 : decode cX8_load 10 = .ok (.iconst 0, 1) := by decide +kernel
theorem dX8_load_11 : decode cX8_load 11 = .ok (.goto 4, 3) := by decide +kernel
theorem dX8_load_14 : decode cX8_load 14 = .ok (.iconst 1, 1) := by decide +kernel
theorem dX8_load_15 : decode cX8_load 15 = .ok (.invokevirtual 115, 3) := by decide +kernel
theorem dX8_load_18 : decode cX8_load 18 = .ok (.ifCond .eq 5, 3) := by decide +kernel
theorem dX8_load_21 : decode cX8_load 21 = .ok (.iconst 0, 1) := by decide +kernel
theorem dX8_load_22 : decode cX8_load 22 = .ok (.ireturn, 1) := by decide +kernel
theorem dX8_load_23 : decode cX8_load 23 = .ok (.aload_n 0, 1) := by decide +kernel
theorem dX8_load_24 : decode cX8_load 24 = .ok (.getfield 13, 3) := by decide +kernel
theorem dX8_load_27 : decode cX8_load 27 = .ok (.iconst 0, 1) := by decide +kernel
theorem dX8_load_28 : decode cX8_load 28 = .ok (.aload_n 0, 1) := by decide +kernel
theorem dX8_load_29 : decode cX8_load 29 = .ok (.getfield 16, 3) := by decide +kernel
theorem dX8_load_32 : decode cX8_load 32 = .ok (.iconst 0, 1) := by decide +kernel
theorem dX8_load_33 : decode cX8_load 33 = .ok (.sipush 189, 3) := by decide +kernel
theorem dX8_load_36 : decode cX8_load 36 = .ok (.invokestatic 50, 3) := by decide +kernel
theorem dX8_load_39 : decode cX8_load 39 = .ok (.aload_n 0, 1) := by decide +kernel
theorem dX8_load_40 : decode cX8_load 40 = .ok (.iconst 0, 1) := by decide +kernel
theorem dX8_load_41 : decode cX8_load 41 = .ok (.putfield 47, 3) := by decide +kernel
theorem dX8_load_44 : decode cX8_load 44 = .ok (.aload_n 0, 1) := by decide +kernel
theorem dX8_load_45 : decode cX8_load 45 = .ok (.getfield 28, 3) := by decide +kernel
theorem dX8_load_48 : decode cX8_load 48 = .ok (.iconst 0, 1) := by decide +kernel
theorem dX8_load_49 : decode cX8_load 49 = .ok (.iconst 0, 1) := by decide +kernel
theorem dX8_load_50 : decode cX8_load 50 = .ok (.bastore, 1) := by decide +kernel
theorem dX8_load_51 : decode cX8_load 51 = .ok (.aload_n 0, 1) := by decide +kernel
theorem dX8_load_52 : decode cX8_load 52 = .ok (.getfield 28, 3) := by decide +kernel
theorem dX8_load_55 : decode cX8_load 55 = .ok (.iconst 1, 1) := by decide +kernel
theorem dX8_load_56 : decode cX8_load 56 = .ok (.iconst 0, 1) := by decide +kernel
theorem dX8_load_57 : decode cX8_load 57 = .ok (.bastore, 1) := by decide +kernel
theorem dX8_load_58 : decode cX8_load 58 = .ok (.aload_n 0, 1) := by decide +kernel
theorem dX8_load_59 : decode cX8_load 59 = .ok (.getfield 16, 3) := by decide +kernel
theorem dX8_load_62 : decode cX8_load 62 = .ok (.iconst 0, 1) := by decide +kernel
theorem dX8_load_63 : decode cX8_load 63 = .ok (.iaload, 1) := by decide +kernel
theorem dX8_load_64 : decode cX8_load 64 = .ok (.ireturn, 1) := by decide +kernel
theorem dX8_owedByAll_0 : decode cX8_owedByAll 0 = .ok (.iconst 0, 1) := by decide +kernel
theorem dX8_owedByAll_1 : decode cX8_owedByAll 1 = .ok (.istore_n 1, 1) := by decide +kernel
theorem dX8_owedByAll_2 : decode cX8_owedByAll 2 = .ok (.iconst 0, 1) := by decide +kernel
theorem dX8_owedByAll_3 : decode cX8_owedByAll 3 = .ok (.istore_n 2, 1) := by decide +kernel
theorem dX8_owedByAll_4 : decode cX8_owedByAll 4 = .ok (.iload_n 2, 1) := by decide +kernel
theorem dX8_owedByAll_5 : decode cX8_owedByAll 5 = .ok (.aload_n 0, 1) := by decide +kernel
theorem dX8_owedByAll_6 : decode cX8_owedByAll 6 = .ok (.iconst 0, 1) := by decide +kernel
theorem dX8_owedByAll_7 : decode cX8_owedByAll 7 = .ok (.iaload, 1) := by decide +kernel
theorem dX8_owedByAll_8 : decode cX8_owedByAll 8 = .ok (.if_icmp .ge 20, 3) := by decide +kernel
theorem dX8_owedByAll_11 : decode cX8_owedByAll 11 = .ok (.iload_n 1, 1) := by decide +kernel
theorem dX8_owedByAll_12 : decode cX8_owedByAll 12 = .ok (.aload_n 0, 1) := by decide +kernel
theorem dX8_owedByAll_13 : decode cX8_owedByAll 13 = .ok (.iload_n 2, 1) := by decide +kernel
theorem dX8_owedByAll_14 : decode cX8_owedByAll 14 = .ok (.invokestatic 83, 3) := by decide +kernel
theorem dX8_owedByAll_17 : decode cX8_owedByAll 17 = .ok (.iconst 1, 1) := by decide +kernel
theorem dX8_owedByAll_18 : decode cX8_owedByAll 18 = .ok (.iadd, 1) := by decide +kernel
theorem dX8_owedByAll_19 : decode cX8_owedByAll 19 = .ok (.iaload, 1) := by decide +kernel
theorem dX8_owedByAll_20 : decode cX8_owedByAll 20 = .ok (.iadd, 1) := by decide +kernel
theorem dX8_owedByAll_21 : decode cX8_owedByAll 21 = .ok (.istore_n 1, 1) := by decide +kernel
theorem dX8_owedByAll_22 : decode cX8_owedByAll 22 = .ok (.iinc 2 1, 3) := by decide +kernel
theorem dX8_owedByAll_25 : decode cX8_owedByAll 25 = .ok (.goto (-21), 3) := by decide +kernel
theorem dX8_owedByAll_28 : decode cX8_owedByAll 28 = .ok (.iload_n 1, 1) := by decide +kernel
theorem dX8_owedByAll_29 : decode cX8_owedByAll 29 = .ok (.ireturn, 1) := by decide +kernel
theorem dX8_allRoom_0 : decode cX8_allRoom 0 = .ok (.iconst 0, 1) := by decide +kernel
theorem dX8_allRoom_1 : decode cX8_allRoom 1 = .ok (.istore_n 1, 1) := by decide +kernel
theorem dX8_allRoom_2 : decode cX8_allRoom 2 = .ok (.iconst 0, 1) := by decide +kernel
theorem dX8_allRoom_3 : decode cX8_allRoom 3 = .ok (.istore_n 2, 1) := by decide +kernel
theorem dX8_allRoom_4 : decode cX8_allRoom 4 = .ok (.iload_n 2, 1) := by decide +kernel
theorem dX8_allRoom_5 : decode cX8_allRoom 5 = .ok (.aload_n 0, 1) := by decide +kernel
theorem dX8_allRoom_6 : decode cX8_allRoom 6 = .ok (.iconst 2, 1) := by decide +kernel
theorem dX8_allRoom_7 : decode cX8_allRoom 7 = .ok (.iaload, 1) := by decide +kernel
theorem dX8_allRoom_8 : decode cX8_allRoom 8 = .ok (.if_icmp .ge 17, 3) := by decide +kernel
theorem dX8_allRoom_11 : decode cX8_allRoom 11 = .ok (.iload_n 1, 1) := by decide +kernel
theorem dX8_allRoom_12 : decode cX8_allRoom 12 = .ok (.aload_n 0, 1) := by decide +kernel
theorem dX8_allRoom_13 : decode cX8_allRoom 13 = .ok (.iload_n 2, 1) := by decide +kernel
theorem dX8_allRoom_14 : decode cX8_allRoom 14 = .ok (.invokestatic 70, 3) := by decide +kernel
theorem dX8_allRoom_17 : decode cX8_allRoom 17 = .ok (.iadd, 1) := by decide +kernel
theorem dX8_allRoom_18 : decode cX8_allRoom 18 = .ok (.istore_n 1, 1) := by decide +kernel
theorem dX8_allRoom_19 : decode cX8_allRoom 19 = .ok (.iinc 2 1, 3) := by decide +kernel
theorem dX8_allRoom_22 : decode cX8_allRoom 22 = .ok (.goto (-18), 3) := by decide +kernel
theorem dX8_allRoom_25 : decode cX8_allRoom 25 = .ok (.iload_n 1, 1) := by decide +kernel
theorem dX8_allRoom_26 : decode cX8_allRoom 26 = .ok (.ireturn, 1) := by decide +kernel
theorem dX8_about_0 : decode cX8_about 0 = .ok (.aload_n 0, 1) := by decide +kernel
theorem dX8_about_1 : decode cX8_about 1 = .ok (.iload_n 1, 1) := by decide +kernel
theorem dX8_about_2 : decode cX8_about 2 = .ok (.i2l, 1) := by decide +kernel
theorem dX8_about_3 : decode cX8_about 3 = .ok (.lconst 0, 1) := by decide +kernel
theorem dX8_about_4 : decode cX8_about 4 = .ok (.ldc2_w 126, 3) := by decide +kernel
theorem dX8_about_7 : decode cX8_about 7 = .ok (.invokestatic 108, 3) := by decide +kernel
theorem dX8_about_10 : decode cX8_about 10 = .ok (.ifCond .eq 7, 3) := by decide +kernel
theorem dX8_about_13 : decode cX8_about 13 = .ok (.iconst 0, 1) := by decide +kernel
theorem dX8_about_14 : decode cX8_about 14 = .ok (.goto 4, 3) := by decide +kernel
theorem dX8_about_17 : decode cX8_about 17 = .ok (.iconst 1, 1) := by decide +kernel
theorem dX8_about_18 : decode cX8_about 18 = .ok (.invokevirtual 115, 3) := by decide +kernel
theorem dX8_about_21 : decode cX8_about 21 = .ok (.ifCond .eq 5, 3) := by decide +kernel
theorem dX8_about_24 : decode cX8_about 24 = .ok (.iconst 0, 1) := by decide +kernel
theorem dX8_about_25 : decode cX8_about 25 = .ok (.ireturn, 1) := by decide +kernel
theorem dX8_about_26 : decode cX8_about 26 = .ok (.iload_n 1, 1) := by decide +kernel
theorem dX8_about_27 : decode cX8_about 27 = .ok (.tableswitch 100 3 9 #[41, 49, 58, 67, 76, 84, 92], 41) := by decide +kernel
theorem dX8_about_68 : decode cX8_about 68 = .ok (.aload_n 0, 1) := by decide +kernel
theorem dX8_about_69 : decode cX8_about 69 = .ok (.getfield 16, 3) := by decide +kernel
theorem dX8_about_72 : decode cX8_about 72 = .ok (.invokestatic 158, 3) := by decide +kernel
theorem dX8_about_75 : decode cX8_about 75 = .ok (.ireturn, 1) := by decide +kernel
theorem dX8_about_76 : decode cX8_about 76 = .ok (.aload_n 0, 1) := by decide +kernel
theorem dX8_about_77 : decode cX8_about 77 = .ok (.getfield 16, 3) := by decide +kernel
theorem dX8_about_80 : decode cX8_about 80 = .ok (.iconst 4, 1) := by decide +kernel
theorem dX8_about_81 : decode cX8_about 81 = .ok (.invokestatic 162, 3) := by decide +kernel
theorem dX8_about_84 : decode cX8_about 84 = .ok (.ireturn, 1) := by decide +kernel
theorem dX8_about_85 : decode cX8_about 85 = .ok (.aload_n 0, 1) := by decide +kernel
theorem dX8_about_86 : decode cX8_about 86 = .ok (.getfield 16, 3) := by decide +kernel
theorem dX8_about_89 : decode cX8_about 89 = .ok (.iconst 5, 1) := by decide +kernel
theorem dX8_about_90 : decode cX8_about 90 = .ok (.invokestatic 162, 3) := by decide +kernel
theorem dX8_about_93 : decode cX8_about 93 = .ok (.ireturn, 1) := by decide +kernel
theorem dX8_about_94 : decode cX8_about 94 = .ok (.aload_n 0, 1) := by decide +kernel
theorem dX8_about_95 : decode cX8_about 95 = .ok (.getfield 16, 3) := by decide +kernel
theorem dX8_about_98 : decode cX8_about 98 = .ok (.iconst 2, 1) := by decide +kernel
theorem dX8_about_99 : decode cX8_about 99 = .ok (.invokestatic 162, 3) := by decide +kernel
theorem dX8_about_102 : decode cX8_about 102 = .ok (.ireturn, 1) := by decide +kernel
theorem dX8_about_103 : decode cX8_about 103 = .ok (.aload_n 0, 1) := by decide +kernel
theorem dX8_about_104 : decode cX8_about 104 = .ok (.getfield 16, 3) := by decide +kernel
theorem dX8_about_107 : decode cX8_about 107 = .ok (.invokestatic 165, 3) := by decide +kernel
theorem dX8_about_110 : decode cX8_about 110 = .ok (.ireturn, 1) := by decide +kernel
theorem dX8_about_111 : decode cX8_about 111 = .ok (.aload_n 0, 1) := by decide +kernel
theorem dX8_about_112 : decode cX8_about 112 = .ok (.getfield 16, 3) := by decide +kernel
theorem dX8_about_115 : decode cX8_about 115 = .ok (.invokestatic 168, 3) := by decide +kernel
theorem dX8_about_118 : decode cX8_about 118 = .ok (.ireturn, 1) := by decide +kernel
theorem dX8_about_119 : decode cX8_about 119 = .ok (.aload_n 0, 1) := by decide +kernel
theorem dX8_about_120 : decode cX8_about 120 = .ok (.getfield 16, 3) := by decide +kernel
theorem dX8_about_123 : decode cX8_about 123 = .ok (.invokestatic 171, 3) := by decide +kernel
theorem dX8_about_126 : decode cX8_about 126 = .ok (.ireturn, 1) := by decide +kernel
theorem dX8_about_127 : decode cX8_about 127 = .ok (.aload_n 0, 1) := by decide +kernel
theorem dX8_about_128 : decode cX8_about 128 = .ok (.getfield 16, 3) := by decide +kernel
theorem dX8_about_131 : decode cX8_about 131 = .ok (.iload_n 1, 1) := by decide +kernel
theorem dX8_about_132 : decode cX8_about 132 = .ok (.iaload, 1) := by decide +kernel
theorem dX8_about_133 : decode cX8_about 133 = .ok (.ireturn, 1) := by decide +kernel
theorem dX8_isMember_0 : decode cX8_isMember 0 = .ok (.iload_n 1, 1) := by decide +kernel
theorem dX8_isMember_1 : decode cX8_isMember 1 = .ok (.i2l, 1) := by decide +kernel
theorem dX8_isMember_2 : decode cX8_isMember 2 = .ok (.lconst 0, 1) := by decide +kernel
theorem dX8_isMember_3 : decode cX8_isMember 3 = .ok (.aload_n 0, 1) := by decide +kernel
theorem dX8_isMember_4 : decode cX8_isMember 4 = .ok (.getfield 16, 3) := by decide +kernel
theorem dX8_isMember_7 : decode cX8_isMember 7 = .ok (.iconst 0, 1) := by decide +kernel
theorem dX8_isMember_8 : decode cX8_isMember 8 = .ok (.iaload, 1) := by decide +kernel
theorem dX8_isMember_9 : decode cX8_isMember 9 = .ok (.iconst 1, 1) := by decide +kernel
theorem dX8_isMember_10 : decode cX8_isMember 10 = .ok (.isub, 1) := by decide +kernel
theorem dX8_isMember_11 : decode cX8_isMember 11 = .ok (.i2l, 1) := by decide +kernel
theorem dX8_isMember_12 : decode cX8_isMember 12 = .ok (.invokestatic 108, 3) := by decide +kernel
theorem dX8_isMember_15 : decode cX8_isMember 15 = .ok (.ireturn, 1) := by decide +kernel
theorem dX8_isWine_0 : decode cX8_isWine 0 = .ok (.iload_n 1, 1) := by decide +kernel
theorem dX8_isWine_1 : decode cX8_isWine 1 = .ok (.i2l, 1) := by decide +kernel
theorem dX8_isWine_2 : decode cX8_isWine 2 = .ok (.lconst 0, 1) := by decide +kernel
theorem dX8_isWine_3 : decode cX8_isWine 3 = .ok (.aload_n 0, 1) := by decide +kernel
theorem dX8_isWine_4 : decode cX8_isWine 4 = .ok (.getfield 16, 3) := by decide +kernel
theorem dX8_isWine_7 : decode cX8_isWine 7 = .ok (.iconst 1, 1) := by decide +kernel
theorem dX8_isWine_8 : decode cX8_isWine 8 = .ok (.iaload, 1) := by decide +kernel
theorem dX8_isWine_9 : decode cX8_isWine 9 = .ok (.iconst 1, 1) := by decide +kernel
theorem dX8_isWine_10 : decode cX8_isWine 10 = .ok (.isub, 1) := by decide +kernel
theorem dX8_isWine_11 : decode cX8_isWine 11 = .ok (.i2l, 1) := by decide +kernel
theorem dX8_isWine_12 : decode cX8_isWine 12 = .ok (.invokestatic 108, 3) := by decide +kernel
theorem dX8_isWine_15 : decode cX8_isWine 15 = .ok (.ireturn, 1) := by decide +kernel
theorem dX8_isBin_0 : decode cX8_isBin 0 = .ok (.iload_n 1, 1) := by decide +kernel
theorem dX8_isBin_1 : decode cX8_isBin 1 = .ok (.i2l, 1) := by decide +kernel
theorem dX8_isBin_2 : decode cX8_isBin 2 = .ok (.lconst 0, 1) := by decide +kernel
theorem dX8_isBin_3 : decode cX8_isBin 3 = .ok (.aload_n 0, 1) := by decide +kernel
theorem dX8_isBin_4 : decode cX8_isBin 4 = .ok (.getfield 16, 3) := by decide +kernel
theorem dX8_isBin_7 : decode cX8_isBin 7 = .ok (.iconst 2, 1) := by decide +kernel
theorem dX8_isBin_8 : decode cX8_isBin 8 = .ok (.iaload, 1) := by decide +kernel
theorem dX8_isBin_9 : decode cX8_isBin 9 = .ok (.iconst 1, 1) := by decide +kernel
theorem dX8_isBin_10 : decode cX8_isBin 10 = .ok (.isub, 1) := by decide +kernel
theorem dX8_isBin_11 : decode cX8_isBin 11 = .ok (.i2l, 1) := by decide +kernel
theorem dX8_isBin_12 : decode cX8_isBin 12 = .ok (.invokestatic 108, 3) := by decide +kernel
theorem dX8_isBin_15 : decode cX8_isBin 15 = .ok (.ireturn, 1) := by decide +kernel
theorem dX8_member_0 : decode cX8_member 0 = .ok (.aload_n 0, 1) := by decide +kernel
theorem dX8_member_1 : decode cX8_member 1 = .ok (.aload_n 0, 1) := by decide +kernel
theorem dX8_member_2 : decode cX8_member 2 = .ok (.iload_n 1, 1) := by decide +kernel
theorem dX8_member_3 : decode cX8_member 3 = .ok (.invokevirtual 174, 3) := by decide +kernel
theorem dX8_member_6 : decode cX8_member 6 = .ok (.ifCond .ne 7, 3) := by decide +kernel
theorem dX8_member_9 : decode cX8_member 9 = .ok (.iconst 1, 1) := by decide +kernel
theorem dX8_member_10 : decode cX8_member 10 = .ok (.goto 20, 3) := by decide +kernel
theorem dX8_member_13 : decode cX8_member 13 = .ok (.iload_n 2, 1) := by decide +kernel
theorem dX8_member_14 : decode cX8_member 14 = .ok (.i2l, 1) := by decide +kernel
theorem dX8_member_15 : decode cX8_member 15 = .ok (.lconst 0, 1) := by decide +kernel
theorem dX8_member_16 : decode cX8_member 16 = .ok (.ldc2_w 177, 3) := by decide +kernel
theorem dX8_member_19 : decode cX8_member 19 = .ok (.invokestatic 108, 3) := by decide +kernel
theorem dX8_member_22 : decode cX8_member 22 = .ok (.ifCond .eq 7, 3) := by decide +kernel
theorem dX8_member_25 : decode cX8_member 25 = .ok (.iconst 0, 1) := by decide +kernel
theorem dX8_member_26 : decode cX8_member 26 = .ok (.goto 4, 3) := by decide +kernel
theorem dX8_member_29 : decode cX8_member 29 = .ok (.iconst 2, 1) := by decide +kernel
theorem dX8_member_30 : decode cX8_member 30 = .ok (.invokevirtual 115, 3) := by decide +kernel
theorem dX8_member_33 : decode cX8_member 33 = .ok (.ifCond .eq 5, 3) := by decide +kernel
theorem dX8_member_36 : decode cX8_member 36 = .ok (.iconst 0, 1) := by decide +kernel
theorem dX8_member_37 : decode cX8_member 37 = .ok (.ireturn, 1) := by decide +kernel
theorem dX8_member_38 : decode cX8_member 38 = .ok (.iload_n 2, 1) := by decide +kernel
theorem dX8_member_39 : decode cX8_member 39 = .ok (.iconst 2, 1) := by decide +kernel
theorem dX8_member_40 : decode cX8_member 40 = .ok (.if_icmp .ne 14, 3) := by decide +kernel
theorem dX8_member_43 : decode cX8_member 43 = .ok (.aload_n 0, 1) := by decide +kernel
theorem dX8_member_44 : decode cX8_member 44 = .ok (.getfield 16, 3) := by decide +kernel
theorem dX8_member_47 : decode cX8_member 47 = .ok (.iload_n 1, 1) := by decide +kernel
theorem dX8_member_48 : decode cX8_member 48 = .ok (.invokestatic 179, 3) := by decide +kernel
theorem dX8_member_51 : decode cX8_member 51 = .ok (.goto 23, 3) := by decide +kernel
theorem dX8_member_54 : decode cX8_member 54 = .ok (.aload_n 0, 1) := by decide +kernel
theorem dX8_member_55 : decode cX8_member 55 = .ok (.getfield 16, 3) := by decide +kernel
theorem dX8_member_58 : decode cX8_member 58 = .ok (.iload_n 1, 1) := by decide +kernel
theorem dX8_member_59 : decode cX8_member 59 = .ok (.invokestatic 83, 3) := by decide +kernel
theorem dX8_member_62 : decode cX8_member 62 = .ok (.iload_n 2, 1) := by decide +kernel
theorem dX8_member_63 : decode cX8_member 63 = .ok (.iconst 3, 1) := by decide +kernel
theorem dX8_member_64 : decode cX8_member 64 = .ok (.if_icmp .ne 7, 3) := by decide +kernel
theorem dX8_member_67 : decode cX8_member 67 = .ok (.iconst 2, 1) := by decide +kernel
theorem dX8_member_68 : decode cX8_member 68 = .ok (.goto 4, 3) := by decide +kernel
theorem dX8_member_71 : decode cX8_member 71 = .ok (.iload_n 2, 1) := by decide +kernel
theorem dX8_member_72 : decode cX8_member 72 = .ok (.iadd, 1) := by decide +kernel
theorem dX8_member_73 : decode cX8_member 73 = .ok (.iaload, 1) := by decide +kernel
theorem dX8_member_74 : decode cX8_member 74 = .ok (.ireturn, 1) := by decide +kernel
theorem dX8_wine_0 : decode cX8_wine 0 = .ok (.aload_n 0, 1) := by decide +kernel
theorem dX8_wine_1 : decode cX8_wine 1 = .ok (.aload_n 0, 1) := by decide +kernel
theorem dX8_wine_2 : decode cX8_wine 2 = .ok (.iload_n 1, 1) := by decide +kernel
theorem dX8_wine_3 : decode cX8_wine 3 = .ok (.invokevirtual 182, 3) := by decide +kernel
theorem dX8_wine_6 : decode cX8_wine 6 = .ok (.ifCond .ne 7, 3) := by decide +kernel
theorem dX8_wine_9 : decode cX8_wine 9 = .ok (.iconst 1, 1) := by decide +kernel
theorem dX8_wine_10 : decode cX8_wine 10 = .ok (.goto 20, 3) := by decide +kernel
theorem dX8_wine_13 : decode cX8_wine 13 = .ok (.iload_n 2, 1) := by decide +kernel
theorem dX8_wine_14 : decode cX8_wine 14 = .ok (.i2l, 1) := by decide +kernel
theorem dX8_wine_15 : decode cX8_wine 15 = .ok (.lconst 0, 1) := by decide +kernel
theorem dX8_wine_16 : decode cX8_wine 16 = .ok (.ldc2_w 185, 3) := by decide +kernel
theorem dX8_wine_19 : decode cX8_wine 19 = .ok (.invokestatic 108, 3) := by decide +kernel
theorem dX8_wine_22 : decode cX8_wine 22 = .ok (.ifCond .eq 7, 3) := by decide +kernel
theorem dX8_wine_25 : decode cX8_wine 25 = .ok (.iconst 0, 1) := by decide +kernel
theorem dX8_wine_26 : decode cX8_wine 26 = .ok (.goto 4, 3) := by decide +kernel
theorem dX8_wine_29 : decode cX8_wine 29 = .ok (.iconst 2, 1) := by decide +kernel
theorem dX8_wine_30 : decode cX8_wine 30 = .ok (.invokevirtual 115, 3) := by decide +kernel
theorem dX8_wine_33 : decode cX8_wine 33 = .ok (.ifCond .eq 5, 3) := by decide +kernel
theorem dX8_wine_36 : decode cX8_wine 36 = .ok (.iconst 0, 1) := by decide +kernel
theorem dX8_wine_37 : decode cX8_wine 37 = .ok (.ireturn, 1) := by decide +kernel
theorem dX8_wine_38 : decode cX8_wine 38 = .ok (.iload_n 2, 1) := by decide +kernel
theorem dX8_wine_39 : decode cX8_wine 39 = .ok (.tableswitch 87 4 8 #[33, 43, 55, 67, 77], 33) := by decide +kernel
theorem dX8_wine_72 : decode cX8_wine 72 = .ok (.aload_n 0, 1) := by decide +kernel
theorem dX8_wine_73 : decode cX8_wine 73 = .ok (.getfield 16, 3) := by decide +kernel
theorem dX8_wine_76 : decode cX8_wine 76 = .ok (.iload_n 1, 1) := by decide +kernel
theorem dX8_wine_77 : decode cX8_wine 77 = .ok (.iconst 2, 1) := by decide +kernel
theorem dX8_wine_78 : decode cX8_wine 78 = .ok (.invokestatic 95, 3) := by decide +kernel
theorem dX8_wine_81 : decode cX8_wine 81 = .ok (.ireturn, 1) := by decide +kernel
theorem dX8_wine_82 : decode cX8_wine 82 = .ok (.aload_n 0, 1) := by decide +kernel
theorem dX8_wine_83 : decode cX8_wine 83 = .ok (.getfield 16, 3) := by decide +kernel
theorem dX8_wine_86 : decode cX8_wine 86 = .ok (.iload_n 1, 1) := by decide +kernel
theorem dX8_wine_87 : decode cX8_wine 87 = .ok (.invokestatic 62, 3) := by decide +kernel
theorem dX8_wine_90 : decode cX8_wine 90 = .ok (.iconst 4, 1) := by decide +kernel
theorem dX8_wine_91 : decode cX8_wine 91 = .ok (.iadd, 1) := by decide +kernel
theorem dX8_wine_92 : decode cX8_wine 92 = .ok (.iaload, 1) := by decide +kernel
theorem dX8_wine_93 : decode cX8_wine 93 = .ok (.ireturn, 1) := by decide +kernel
theorem dX8_wine_94 : decode cX8_wine 94 = .ok (.aload_n 0, 1) := by decide +kernel
theorem dX8_wine_95 : decode cX8_wine 95 = .ok (.getfield 16, 3) := by decide +kernel
theorem dX8_wine_98 : decode cX8_wine 98 = .ok (.iload_n 1, 1) := by decide +kernel
theorem dX8_wine_99 : decode cX8_wine 99 = .ok (.invokestatic 62, 3) := by decide +kernel
theorem dX8_wine_102 : decode cX8_wine 102 = .ok (.iconst 5, 1) := by decide +kernel
theorem dX8_wine_103 : decode cX8_wine 103 = .ok (.iadd, 1) := by decide +kernel
theorem dX8_wine_104 : decode cX8_wine 104 = .ok (.iaload, 1) := by decide +kernel
theorem dX8_wine_105 : decode cX8_wine 105 = .ok (.ireturn, 1) := by decide +kernel
theorem dX8_wine_106 : decode cX8_wine 106 = .ok (.aload_n 0, 1) := by decide +kernel
theorem dX8_wine_107 : decode cX8_wine 107 = .ok (.getfield 16, 3) := by decide +kernel
theorem dX8_wine_110 : decode cX8_wine 110 = .ok (.iload_n 1, 1) := by decide +kernel
theorem dX8_wine_111 : decode cX8_wine 111 = .ok (.iconst 1, 1) := by decide +kernel
theorem dX8_wine_112 : decode cX8_wine 112 = .ok (.invokestatic 95, 3) := by decide +kernel
theorem dX8_wine_115 : decode cX8_wine 115 = .ok (.ireturn, 1) := by decide +kernel
theorem dX8_wine_116 : decode cX8_wine 116 = .ok (.aload_n 0, 1) := by decide +kernel
theorem dX8_wine_117 : decode cX8_wine 117 = .ok (.getfield 16, 3) := by decide +kernel
theorem dX8_wine_120 : decode cX8_wine 120 = .ok (.iload_n 1, 1) := by decide +kernel
theorem dX8_wine_121 : decode cX8_wine 121 = .ok (.iconst 0, 1) := by decide +kernel
theorem dX8_wine_122 : decode cX8_wine 122 = .ok (.invokestatic 95, 3) := by decide +kernel
theorem dX8_wine_125 : decode cX8_wine 125 = .ok (.ireturn, 1) := by decide +kernel
theorem dX8_wine_126 : decode cX8_wine 126 = .ok (.aload_n 0, 1) := by decide +kernel
theorem dX8_wine_127 : decode cX8_wine 127 = .ok (.getfield 16, 3) := by decide +kernel
theorem dX8_wine_130 : decode cX8_wine 130 = .ok (.iload_n 1, 1) := by decide +kernel
theorem dX8_wine_131 : decode cX8_wine 131 = .ok (.invokestatic 62, 3) := by decide +kernel
theorem dX8_wine_134 : decode cX8_wine 134 = .ok (.iload_n 2, 1) := by decide +kernel
theorem dX8_wine_135 : decode cX8_wine 135 = .ok (.iadd, 1) := by decide +kernel
theorem dX8_wine_136 : decode cX8_wine 136 = .ok (.iaload, 1) := by decide +kernel
theorem dX8_wine_137 : decode cX8_wine 137 = .ok (.ireturn, 1) := by decide +kernel
theorem dX8_bin_0 : decode cX8_bin 0 = .ok (.aload_n 0, 1) := by decide +kernel
theorem dX8_bin_1 : decode cX8_bin 1 = .ok (.aload_n 0, 1) := by decide +kernel
theorem dX8_bin_2 : decode cX8_bin 2 = .ok (.iload_n 1, 1) := by decide +kernel
theorem dX8_bin_3 : decode cX8_bin 3 = .ok (.invokevirtual 187, 3) := by decide +kernel
theorem dX8_bin_6 : decode cX8_bin 6 = .ok (.ifCond .ne 7, 3) := by decide +kernel
theorem dX8_bin_9 : decode cX8_bin 9 = .ok (.iconst 1, 1) := by decide +kernel
theorem dX8_bin_10 : decode cX8_bin 10 = .ok (.goto 20, 3) := by decide +kernel
theorem dX8_bin_13 : decode cX8_bin 13 = .ok (.iload_n 2, 1) := by decide +kernel
theorem dX8_bin_14 : decode cX8_bin 14 = .ok (.i2l, 1) := by decide +kernel
theorem dX8_bin_15 : decode cX8_bin 15 = .ok (.lconst 0, 1) := by decide +kernel
theorem dX8_bin_16 : decode cX8_bin 16 = .ok (.ldc2_w 190, 3) := by decide +kernel
theorem dX8_bin_19 : decode cX8_bin 19 = .ok (.invokestatic 108, 3) := by decide +kernel
theorem dX8_bin_22 : decode cX8_bin 22 = .ok (.ifCond .eq 7, 3) := by decide +kernel
theorem dX8_bin_25 : decode cX8_bin 25 = .ok (.iconst 0, 1) := by decide +kernel
theorem dX8_bin_26 : decode cX8_bin 26 = .ok (.goto 4, 3) := by decide +kernel
theorem dX8_bin_29 : decode cX8_bin 29 = .ok (.iconst 2, 1) := by decide +kernel
theorem dX8_bin_30 : decode cX8_bin 30 = .ok (.invokevirtual 115, 3) := by decide +kernel
theorem dX8_bin_33 : decode cX8_bin 33 = .ok (.ifCond .eq 5, 3) := by decide +kernel
theorem dX8_bin_36 : decode cX8_bin 36 = .ok (.iconst 0, 1) := by decide +kernel
theorem dX8_bin_37 : decode cX8_bin 37 = .ok (.ireturn, 1) := by decide +kernel
theorem dX8_bin_38 : decode cX8_bin 38 = .ok (.iload_n 2, 1) := by decide +kernel
theorem dX8_bin_39 : decode cX8_bin 39 = .ok (.iconst 1, 1) := by decide +kernel
theorem dX8_bin_40 : decode cX8_bin 40 = .ok (.if_icmp .eq 17, 3) := by decide +kernel
theorem dX8_bin_43 : decode cX8_bin 43 = .ok (.aload_n 0, 1) := by decide +kernel
theorem dX8_bin_44 : decode cX8_bin 44 = .ok (.getfield 16, 3) := by decide +kernel
theorem dX8_bin_47 : decode cX8_bin 47 = .ok (.iload_n 1, 1) := by decide +kernel
theorem dX8_bin_48 : decode cX8_bin 48 = .ok (.invokestatic 58, 3) := by decide +kernel
theorem dX8_bin_51 : decode cX8_bin 51 = .ok (.iload_n 2, 1) := by decide +kernel
theorem dX8_bin_52 : decode cX8_bin 52 = .ok (.iadd, 1) := by decide +kernel
theorem dX8_bin_53 : decode cX8_bin 53 = .ok (.iaload, 1) := by decide +kernel
theorem dX8_bin_54 : decode cX8_bin 54 = .ok (.goto 35, 3) := by decide +kernel
theorem dX8_bin_57 : decode cX8_bin 57 = .ok (.aload_n 0, 1) := by decide +kernel
theorem dX8_bin_58 : decode cX8_bin 58 = .ok (.getfield 16, 3) := by decide +kernel
theorem dX8_bin_61 : decode cX8_bin 61 = .ok (.iload_n 1, 1) := by decide +kernel
theorem dX8_bin_62 : decode cX8_bin 62 = .ok (.invokestatic 58, 3) := by decide +kernel
theorem dX8_bin_65 : decode cX8_bin 65 = .ok (.iconst 2, 1) := by decide +kernel
theorem dX8_bin_66 : decode cX8_bin 66 = .ok (.iadd, 1) := by decide +kernel
theorem dX8_bin_67 : decode cX8_bin 67 = .ok (.iaload, 1) := by decide +kernel
theorem dX8_bin_68 : decode cX8_bin 68 = .ok (.ifCond .ne 8, 3) := by decide +kernel
theorem dX8_bin_71 : decode cX8_bin 71 = .ok (.ldc 65, 2) := by decide +kernel
theorem dX8_bin_73 : decode cX8_bin 73 = .ok (.goto 16, 3) := by decide +kernel
theorem dX8_bin_76 : decode cX8_bin 76 = .ok (.aload_n 0, 1) := by decide +kernel
theorem dX8_bin_77 : decode cX8_bin 77 = .ok (.getfield 16, 3) := by decide +kernel
theorem dX8_bin_80 : decode cX8_bin 80 = .ok (.iload_n 1, 1) := by decide +kernel
theorem dX8_bin_81 : decode cX8_bin 81 = .ok (.invokestatic 58, 3) := by decide +kernel
theorem dX8_bin_84 : decode cX8_bin 84 = .ok (.iconst 1, 1) := by decide +kernel
theorem dX8_bin_85 : decode cX8_bin 85 = .ok (.iadd, 1) := by decide +kernel
theorem dX8_bin_86 : decode cX8_bin 86 = .ok (.iaload, 1) := by decide +kernel
