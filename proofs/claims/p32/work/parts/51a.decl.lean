theorem dL_draw_0 : decode cL_draw 0 = .ok (.iload_n 1, 1) := by decide +kernel
theorem dL_draw_1 : decode cL_draw 1 = .ok (.aload_n 0, 1) := by decide +kernel
theorem dL_draw_2 : decode cL_draw 2 = .ok (.arraylength, 1) := by decide +kernel
theorem dL_draw_3 : decode cL_draw 3 = .ok (.if_icmp .ge 9, 3) := by decide +kernel
theorem dL_draw_6 : decode cL_draw 6 = .ok (.aload_n 0, 1) := by decide +kernel
theorem dL_draw_7 : decode cL_draw 7 = .ok (.iload_n 1, 1) := by decide +kernel
theorem dL_draw_8 : decode cL_draw 8 = .ok (.iaload, 1) := by decide +kernel
theorem dL_draw_9 : decode cL_draw 9 = .ok (.goto 11, 3) := by decide +kernel
theorem dL_draw_12 : decode cL_draw 12 = .ok (.ldc 7, 2) := by decide +kernel
theorem dL_draw_14 : decode cL_draw 14 = .ok (.iload_n 1, 1) := by decide +kernel
theorem dL_draw_15 : decode cL_draw 15 = .ok (.imul, 1) := by decide +kernel
theorem dL_draw_16 : decode cL_draw 16 = .ok (.sipush 10433, 3) := by decide +kernel
theorem dL_draw_19 : decode cL_draw 19 = .ok (.iadd, 1) := by decide +kernel
theorem dL_draw_20 : decode cL_draw 20 = .ok (.ldc 8, 2) := by decide +kernel
theorem dL_draw_22 : decode cL_draw 22 = .ok (.iand, 1) := by decide +kernel
theorem dL_draw_23 : decode cL_draw 23 = .ok (.ireturn, 1) := by decide +kernel
theorem dL_in_0 : decode cL_in 0 = .ok (.lload_n 0, 1) := by decide +kernel
theorem dL_in_1 : decode cL_in 1 = .ok (.lload_n 2, 1) := by decide +kernel
theorem dL_in_2 : decode cL_in 2 = .ok (.lcmp, 1) := by decide +kernel
theorem dL_in_3 : decode cL_in 3 = .ok (.ifCond .lt 14, 3) := by decide +kernel
theorem dL_in_6 : decode cL_in 6 = .ok (.lload_n 0, 1) := by decide +kernel
theorem dL_in_7 : decode cL_in 7 = .ok (.lload 4, 2) := by decide +kernel
theorem dL_in_9 : decode cL_in 9 = .ok (.lcmp, 1) := by decide +kernel
theorem dL_in_10 : decode cL_in 10 = .ok (.ifCond .gt 7, 3) := by decide +kernel
theorem dL_in_13 : decode cL_in 13 = .ok (.iconst 1, 1) := by decide +kernel
theorem dL_in_14 : decode cL_in 14 = .ok (.goto 4, 3) := by decide +kernel
theorem dL_in_17 : decode cL_in 17 = .ok (.iconst 0, 1) := by decide +kernel
theorem dL_in_18 : decode cL_in 18 = .ok (.ireturn, 1) := by decide +kernel
theorem dL_append_0 : decode cL_append 0 = .ok (.aload_n 0, 1) := by decide +kernel
theorem dL_append_1 : decode cL_append 1 = .ok (.iload_n 1, 1) := by decide +kernel
theorem dL_append_2 : decode cL_append 2 = .ok (.invokevirtual 9, 3) := by decide +kernel
theorem dL_append_5 : decode cL_append 5 = .ok (.i2l, 1) := by decide +kernel
theorem dL_append_6 : decode cL_append 6 = .ok (.lreturn, 1) := by decide +kernel
theorem dL_append_7 : decode cL_append 7 = .ok (.astore_n 2, 1) := by decide +kernel
theorem dL_append_8 : decode cL_append 8 = .ok (.ldc2_w 17, 3) := by decide +kernel
theorem dL_append_11 : decode cL_append 11 = .ok (.lreturn, 1) := by decide +kernel
theorem dL_append_12 : decode cL_append 12 = .ok (.astore_n 2, 1) := by decide +kernel
theorem dL_append_13 : decode cL_append 13 = .ok (.ldc2_w 21, 3) := by decide +kernel
theorem dL_append_16 : decode cL_append 16 = .ok (.lreturn, 1) := by decide +kernel
theorem dL_load_0 : decode cL_load 0 = .ok (.aload_n 0, 1) := by decide +kernel
theorem dL_load_1 : decode cL_load 1 = .ok (.invokevirtual 23, 3) := by decide +kernel
theorem dL_load_4 : decode cL_load 4 = .ok (.i2l, 1) := by decide +kernel
theorem dL_load_5 : decode cL_load 5 = .ok (.lreturn, 1) := by decide +kernel
theorem dL_load_6 : decode cL_load 6 = .ok (.astore_n 1, 1) := by decide +kernel
theorem dL_load_7 : decode cL_load 7 = .ok (.ldc2_w 21, 3) := by decide +kernel
theorem dL_load_10 : decode cL_load 10 = .ok (.lreturn, 1) := by decide +kernel
theorem dL_about_0 : decode cL_about 0 = .ok (.aload_n 0, 1) := by decide +kernel
theorem dL_about_1 : decode cL_about 1 = .ok (.iload_n 1, 1) := by decide +kernel
theorem dL_about_2 : decode cL_about 2 = .ok (.invokevirtual 27, 3) := by decide +kernel
theorem dL_about_5 : decode cL_about 5 = .ok (.i2l, 1) := by decide +kernel
theorem dL_about_6 : decode cL_about 6 = .ok (.lreturn, 1) := by decide +kernel
theorem dL_about_7 : decode cL_about 7 = .ok (.astore_n 2, 1) := by decide +kernel
theorem dL_about_8 : decode cL_about 8 = .ok (.ldc2_w 17, 3) := by decide +kernel
theorem dL_about_11 : decode cL_about 11 = .ok (.lreturn, 1) := by decide +kernel
theorem dL_member_0 : decode cL_member 0 = .ok (.aload_n 0, 1) := by decide +kernel
theorem dL_member_1 : decode cL_member 1 = .ok (.iload_n 1, 1) := by decide +kernel
theorem dL_member_2 : decode cL_member 2 = .ok (.iload_n 2, 1) := by decide +kernel
theorem dL_member_3 : decode cL_member 3 = .ok (.invokevirtual 30, 3) := by decide +kernel
theorem dL_member_6 : decode cL_member 6 = .ok (.i2l, 1) := by decide +kernel
theorem dL_member_7 : decode cL_member 7 = .ok (.lreturn, 1) := by decide +kernel
theorem dL_member_8 : decode cL_member 8 = .ok (.astore_n 3, 1) := by decide +kernel
theorem dL_member_9 : decode cL_member 9 = .ok (.ldc2_w 36, 3) := by decide +kernel
theorem dL_member_12 : decode cL_member 12 = .ok (.lreturn, 1) := by decide +kernel
theorem dL_member_13 : decode cL_member 13 = .ok (.astore_n 3, 1) := by decide +kernel
theorem dL_member_14 : decode cL_member 14 = .ok (.ldc2_w 17, 3) := by decide +kernel
theorem dL_member_17 : decode cL_member 17 = .ok (.lreturn, 1) := by decide +kernel
theorem dL_wine_0 : decode cL_wine 0 = .ok (.aload_n 0, 1) := by decide +kernel
theorem dL_wine_1 : decode cL_wine 1 = .ok (.iload_n 1, 1) := by decide +kernel
theorem dL_wine_2 : decode cL_wine 2 = .ok (.iload_n 2, 1) := by decide +kernel
theorem dL_wine_3 : decode cL_wine 3 = .ok (.invokevirtual 38, 3) := by decide +kernel
theorem dL_wine_6 : decode cL_wine 6 = .ok (.i2l, 1) := by decide +kernel
theorem dL_wine_7 : decode cL_wine 7 = .ok (.lreturn, 1) := by decide +kernel
theorem dL_wine_8 : decode cL_wine 8 = .ok (.astore_n 3, 1) := by decide +kernel
theorem dL_wine_9 : decode cL_wine 9 = .ok (.ldc2_w 36, 3) := by decide +kernel
theorem dL_wine_12 : decode cL_wine 12 = .ok (.lreturn, 1) := by decide +kernel
theorem dL_wine_13 : decode cL_wine 13 = .ok (.astore_n 3, 1) := by decide +kernel
theorem dL_wine_14 : decode cL_wine 14 = .ok (.ldc2_w 17, 3) := by decide +kernel
theorem dL_wine_17 : decode cL_wine 17 = .ok (.lreturn, 1) := by decide +kernel
theorem dL_bin_0 : decode cL_bin 0 = .ok (.aload_n 0, 1) := by decide +kernel
theorem dL_bin_1 : decode cL_bin 1 = .ok (.iload_n 1, 1) := by decide +kernel
theorem dL_bin_2 : decode cL_bin 2 = .ok (.iload_n 2, 1) := by decide +kernel
theorem dL_bin_3 : decode cL_bin 3 = .ok (.invokevirtual 41, 3) := by decide +kernel
theorem dL_bin_6 : decode cL_bin 6 = .ok (.i2l, 1) := by decide +kernel
theorem dL_bin_7 : decode cL_bin 7 = .ok (.lreturn, 1) := by decide +kernel
theorem dL_bin_8 : decode cL_bin 8 = .ok (.astore_n 3, 1) := by decide +kernel
theorem dL_bin_9 : decode cL_bin 9 = .ok (.ldc2_w 36, 3) := by decide +kernel
theorem dL_bin_12 : decode cL_bin 12 = .ok (.lreturn, 1) := by decide +kernel
theorem dL_bin_13 : decode cL_bin 13 = .ok (.astore_n 3, 1) := by decide +kernel
theorem dL_bin_14 : decode cL_bin 14 = .ok (.ldc2_w 17, 3) := by decide +kernel
theorem dL_bin_17 : decode cL_bin 17 = .ok (.lreturn, 1) := by decide +kernel
theorem dL_has_0 : decode cL_has 0 = .ok (.aload_n 0, 1) := by decide +kernel
theorem dL_has_1 : decode cL_has 1 = .ok (.iload_n 1, 1) := by decide +kernel
theorem dL_has_2 : decode cL_has 2 = .ok (.iload_n 2, 1) := by decide +kernel
theorem dL_has_3 : decode cL_has 3 = .ok (.iload_n 3, 1) := by decide +kernel
theorem dL_has_4 : decode cL_has 4 = .ok (.invokevirtual 44, 3) := by decide +kernel
theorem dL_has_7 : decode cL_has 7 = .ok (.i2l, 1) := by decide +kernel
theorem dL_has_8 : decode cL_has 8 = .ok (.lreturn, 1) := by decide +kernel
theorem dL_has_9 : decode cL_has 9 = .ok (.astore 4, 2) := by decide +kernel
theorem dL_has_11 : decode cL_has 11 = .ok (.ldc2_w 36, 3) := by decide +kernel
theorem dL_has_14 : decode cL_has 14 = .ok (.lreturn, 1) := by decide +kernel
theorem dL_has_15 : decode cL_has 15 = .ok (.astore 4, 2) := by decide +kernel
theorem dL_has_17 : decode cL_has 17 = .ok (.ldc2_w 17, 3) := by decide +kernel
theorem dL_has_20 : decode cL_has 20 = .ok (.lreturn, 1) := by decide +kernel
theorem dL_addMember_0 : decode cL_addMember 0 = .ok (.aload_n 0, 1) := by decide +kernel
theorem dL_addMember_1 : decode cL_addMember 1 = .ok (.iload_n 1, 1) := by decide +kernel
theorem dL_addMember_2 : decode cL_addMember 2 = .ok (.invokevirtual 48, 3) := by decide +kernel
theorem dL_addMember_5 : decode cL_addMember 5 = .ok (.i2l, 1) := by decide +kernel
theorem dL_addMember_6 : decode cL_addMember 6 = .ok (.lreturn, 1) := by decide +kernel
theorem dL_addMember_7 : decode cL_addMember 7 = .ok (.astore_n 2, 1) := by decide +kernel
theorem dL_addMember_8 : decode cL_addMember 8 = .ok (.ldc2_w 17, 3) := by decide +kernel
theorem dL_addMember_11 : decode cL_addMember 11 = .ok (.lreturn, 1) := by decide +kernel
theorem dL_addMember_12 : decode cL_addMember 12 = .ok (.astore_n 2, 1) := by decide +kernel
theorem dL_addMember_13 : decode cL_addMember 13 = .ok (.ldc2_w 21, 3) := by decide +kernel
theorem dL_addMember_16 : decode cL_addMember 16 = .ok (.lreturn, 1) := by decide +kernel
theorem dL_addWine_0 : decode cL_addWine 0 = .ok (.aload_n 0, 1) := by decide +kernel
theorem dL_addWine_1 : decode cL_addWine 1 = .ok (.iload_n 1, 1) := by decide +kernel
theorem dL_addWine_2 : decode cL_addWine 2 = .ok (.iload_n 2, 1) := by decide +kernel
theorem dL_addWine_3 : decode cL_addWine 3 = .ok (.invokevirtual 51, 3) := by decide +kernel
theorem dL_addWine_6 : decode cL_addWine 6 = .ok (.i2l, 1) := by decide +kernel
theorem dL_addWine_7 : decode cL_addWine 7 = .ok (.lreturn, 1) := by decide +kernel
theorem dL_addWine_8 : decode cL_addWine 8 = .ok (.astore_n 3, 1) := by decide +kernel
theorem dL_addWine_9 : decode cL_addWine 9 = .ok (.ldc2_w 17, 3) := by decide +kernel
theorem dL_addWine_12 : decode cL_addWine 12 = .ok (.lreturn, 1) := by decide +kernel
theorem dL_addWine_13 : decode cL_addWine 13 = .ok (.astore_n 3, 1) := by decide +kernel
theorem dL_addWine_14 : decode cL_addWine 14 = .ok (.ldc2_w 21, 3) := by decide +kernel
theorem dL_addWine_17 : decode cL_addWine 17 = .ok (.lreturn, 1) := by decide +kernel
theorem dL_addBin_0 : decode cL_addBin 0 = .ok (.aload_n 0, 1) := by decide +kernel
theorem dL_addBin_1 : decode cL_addBin 1 = .ok (.iload_n 1, 1) := by decide +kernel
theorem dL_addBin_2 : decode cL_addBin 2 = .ok (.invokevirtual 54, 3) := by decide +kernel
theorem dL_addBin_5 : decode cL_addBin 5 = .ok (.i2l, 1) := by decide +kernel
theorem dL_addBin_6 : decode cL_addBin 6 = .ok (.lreturn, 1) := by decide +kernel
theorem dL_addBin_7 : decode cL_addBin 7 = .ok (.astore_n 2, 1) := by decide +kernel
theorem dL_addBin_8 : decode cL_addBin 8 = .ok (.ldc2_w 17, 3) := by decide +kernel
theorem dL_addBin_11 : decode cL_addBin 11 = .ok (.lreturn, 1) := by decide +kernel
theorem dL_addBin_12 : decode cL_addBin 12 = .ok (.astore_n 2, 1) := by decide +kernel
theorem dL_addBin_13 : decode cL_addBin 13 = .ok (.ldc2_w 21, 3) := by decide +kernel
theorem dL_addBin_16 : decode cL_addBin 16 = .ok (.lreturn, 1) := by decide +kernel
theorem dL_order_0 : decode cL_order 0 = .ok (.aload_n 0, 1) := by decide +kernel
theorem dL_order_1 : decode cL_order 1 = .ok (.iload_n 1, 1) := by decide +kernel
theorem dL_order_2 : decode cL_order 2 = .ok (.iload_n 2, 1) := by decide +kernel
theorem dL_order_3 : decode cL_order 3 = .ok (.iload_n 3, 1) := by decide +kernel
theorem dL_order_4 : decode cL_order 4 = .ok (.invokevirtual 57, 3) := by decide +kernel
theorem dL_order_7 : decode cL_order 7 = .ok (.i2l, 1) := by decide +kernel
theorem dL_order_8 : decode cL_order 8 = .ok (.lreturn, 1) := by decide +kernel
theorem dL_order_9 : decode cL_order 9 = .ok (.astore 4, 2) := by decide +kernel
theorem dL_order_11 : decode cL_order 11 = .ok (.ldc2_w 36, 3) := by decide +kernel
theorem dL_order_14 : decode cL_order 14 = .ok (.lreturn, 1) := by decide +kernel
theorem dL_order_15 : decode cL_order 15 = .ok (.astore 4, 2) := by decide +kernel
theorem dL_order_17 : decode cL_order 17 = .ok (.ldc2_w 17, 3) := by decide +kernel
theorem dL_order_20 : decode cL_order 20 = .ok (.lreturn, 1) := by decide +kernel
theorem dL_order_21 : decode cL_order 21 = .ok (.astore 4, 2) := by decide +kernel
theorem dL_order_23 : decode cL_order 23 = .ok (.ldc2_w 21, 3) := by decide +kernel
theorem dL_order_26 : decode cL_order 26 = .ok (.lreturn, 1) := by decide +kernel
theorem dL_allocate_0 : decode cL_allocate 0 = .ok (.aload_n 0, 1) := by decide +kernel
theorem dL_allocate_1 : decode cL_allocate 1 = .ok (.iload_n 1, 1) := by decide +kernel
theorem dL_allocate_2 : decode cL_allocate 2 = .ok (.invokevirtual 60, 3) := by decide +kernel
theorem dL_allocate_5 : decode cL_allocate 5 = .ok (.i2l, 1) := by decide +kernel
theorem dL_allocate_6 : decode cL_allocate 6 = .ok (.lreturn, 1) := by decide +kernel
theorem dL_allocate_7 : decode cL_allocate 7 = .ok (.astore_n 2, 1) := by decide +kernel
theorem dL_allocate_8 : decode cL_allocate 8 = .ok (.ldc2_w 36, 3) := by decide +kernel
theorem dL_allocate_11 : decode cL_allocate 11 = .ok (.lreturn, 1) := by decide +kernel
theorem dL_allocate_12 : decode cL_allocate 12 = .ok (.astore_n 2, 1) := by decide +kernel
theorem dL_allocate_13 : decode cL_allocate 13 = .ok (.ldc2_w 21, 3) := by decide +kernel
theorem dL_allocate_16 : decode cL_allocate 16 = .ok (.lreturn, 1) := by decide +kernel
theorem dL_deliver_0 : decode cL_deliver 0 = .ok (.aload_n 0, 1) := by decide +kernel
theorem dL_deliver_1 : decode cL_deliver 1 = .ok (.iload_n 1, 1) := by decide +kernel
theorem dL_deliver_2 : decode cL_deliver 2 = .ok (.invokevirtual 63, 3) := by decide +kernel
theorem dL_deliver_5 : decode cL_deliver 5 = .ok (.i2l, 1) := by decide +kernel
theorem dL_deliver_6 : decode cL_deliver 6 = .ok (.lreturn, 1) := by decide +kernel
theorem dL_deliver_7 : decode cL_deliver 7 = .ok (.astore_n 2, 1) := by decide +kernel
theorem dL_deliver_8 : decode cL_deliver 8 = .ok (.ldc2_w 36, 3) := by decide +kernel
theorem dL_deliver_11 : decode cL_deliver 11 = .ok (.lreturn, 1) := by decide +kernel
theorem dL_deliver_12 : decode cL_deliver 12 = .ok (.astore_n 2, 1) := by decide +kernel
theorem dL_deliver_13 : decode cL_deliver 13 = .ok (.ldc2_w 21, 3) := by decide +kernel
theorem dL_deliver_16 : decode cL_deliver 16 = .ok (.lreturn, 1) := by decide +kernel
theorem dL_drink_0 : decode cL_drink 0 = .ok (.aload_n 0, 1) := by decide +kernel
theorem dL_drink_1 : decode cL_drink 1 = .ok (.iload_n 1, 1) := by decide +kernel
theorem dL_drink_2 : decode cL_drink 2 = .ok (.iload_n 2, 1) := by decide +kernel
theorem dL_drink_3 : decode cL_drink 3 = .ok (.iload_n 3, 1) := by decide +kernel
theorem dL_drink_4 : decode cL_drink 4 = .ok (.invokevirtual 66, 3) := by decide +kernel
theorem dL_drink_7 : decode cL_drink 7 = .ok (.i2l, 1) := by decide +kernel
theorem dL_drink_8 : decode cL_drink 8 = .ok (.lreturn, 1) := by decide +kernel
theorem dL_drink_9 : decode cL_drink 9 = .ok (.astore 4, 2) := by decide +kernel
theorem dL_drink_11 : decode cL_drink 11 = .ok (.ldc2_w 36, 3) := by decide +kernel
theorem dL_drink_14 : decode cL_drink 14 = .ok (.lreturn, 1) := by decide +kernel
theorem dL_drink_15 : decode cL_drink 15 = .ok (.astore 4, 2) := by decide +kernel
theorem dL_drink_17 : decode cL_drink 17 = .ok (.ldc2_w 17, 3) := by decide +kernel
theorem dL_drink_20 : decode cL_drink 20 = .ok (.lreturn, 1) := by decide +kernel
theorem dL_drink_21 : decode cL_drink 21 = .ok (.astore 4, 2) := by decide +kernel
theorem dL_drink_23 : decode cL_drink 23 = .ok (.ldc2_w 21, 3) := by decide +kernel
theorem dL_drink_26 : decode cL_drink 26 = .ok (.lreturn, 1) := by decide +kernel
theorem dL_give_0 : decode cL_give 0 = .ok (.aload_n 0, 1) := by decide +kernel
theorem dL_give_1 : decode cL_give 1 = .ok (.iload_n 1, 1) := by decide +kernel
theorem dL_give_2 : decode cL_give 2 = .ok (.iload_n 2, 1) := by decide +kernel
theorem dL_give_3 : decode cL_give 3 = .ok (.iload_n 3, 1) := by decide +kernel
theorem dL_give_4 : decode cL_give 4 = .ok (.iload 4, 2) := by decide +kernel
theorem dL_give_6 : decode cL_give 6 = .ok (.invokevirtual 69, 3) := by decide +kernel
theorem dL_give_9 : decode cL_give 9 = .ok (.i2l, 1) := by decide +kernel
theorem dL_give_10 : decode cL_give 10 = .ok (.lreturn, 1) := by decide +kernel
theorem dL_give_11 : decode cL_give 11 = .ok (.astore 5, 2) := by decide +kernel
theorem dL_give_13 : decode cL_give 13 = .ok (.ldc2_w 36, 3) := by decide +kernel
theorem dL_give_16 : decode cL_give 16 = .ok (.lreturn, 1) := by decide +kernel
theorem dL_give_17 : decode cL_give 17 = .ok (.astore 5, 2) := by decide +kernel
theorem dL_give_19 : decode cL_give 19 = .ok (.ldc2_w 17, 3) := by decide +kernel
theorem dL_give_22 : decode cL_give 22 = .ok (.lreturn, 1) := by decide +kernel
theorem dL_give_23 : decode cL_give 23 = .ok (.astore 5, 2) := by decide +kernel
theorem dL_give_25 : decode cL_give 25 = .ok (.ldc2_w 21, 3) := by decide +kernel
theorem dL_give_28 : decode cL_give 28 = .ok (.lreturn, 1) := by decide +kernel
theorem dL_cork_0 : decode cL_cork 0 = .ok (.aload_n 0, 1) := by decide +kernel
theorem dL_cork_1 : decode cL_cork 1 = .ok (.iload_n 1, 1) := by decide +kernel
theorem dL_cork_2 : decode cL_cork 2 = .ok (.iload_n 2, 1) := by decide +kernel
theorem dL_cork_3 : decode cL_cork 3 = .ok (.invokevirtual 73, 3) := by decide +kernel
theorem dL_cork_6 : decode cL_cork 6 = .ok (.i2l, 1) := by decide +kernel
theorem dL_cork_7 : decode cL_cork 7 = .ok (.lreturn, 1) := by decide +kernel
theorem dL_cork_8 : decode cL_cork 8 = .ok (.astore_n 3, 1) := by decide +kernel
theorem dL_cork_9 : decode cL_cork 9 = .ok (.ldc2_w 36, 3) := by decide +kernel
theorem dL_cork_12 : decode cL_cork 12 = .ok (.lreturn, 1) := by decide +kernel
theorem dL_cork_13 : decode cL_cork 13 = .ok (.astore_n 3, 1) := by decide +kernel
theorem dL_cork_14 : decode cL_cork 14 = .ok (.ldc2_w 21, 3) := by decide +kernel
theorem dL_cork_17 : decode cL_cork 17 = .ok (.lreturn, 1) := by decide +kernel
theorem dL_move_0 : decode cL_move 0 = .ok (.aload_n 0, 1) := by decide +kernel
theorem dL_move_1 : decode cL_move 1 = .ok (.iload_n 1, 1) := by decide +kernel
theorem dL_move_2 : decode cL_move 2 = .ok (.iload_n 2, 1) := by decide +kernel
theorem dL_move_3 : decode cL_move 3 = .ok (.iload_n 3, 1) := by decide +kernel
theorem dL_move_4 : decode cL_move 4 = .ok (.invokevirtual 76, 3) := by decide +kernel
theorem dL_move_7 : decode cL_move 7 = .ok (.i2l, 1) := by decide +kernel
theorem dL_move_8 : decode cL_move 8 = .ok (.lreturn, 1) := by decide +kernel
theorem dL_move_9 : decode cL_move 9 = .ok (.astore 4, 2) := by decide +kernel
theorem dL_move_11 : decode cL_move 11 = .ok (.ldc2_w 36, 3) := by decide +kernel
theorem dL_move_14 : decode cL_move 14 = .ok (.lreturn, 1) := by decide +kernel
theorem dL_move_15 : decode cL_move 15 = .ok (.astore 4, 2) := by decide +kernel
theorem dL_move_17 : decode cL_move 17 = .ok (.ldc2_w 17, 3) := by decide +kernel
theorem dL_move_20 : decode cL_move 20 = .ok (.lreturn, 1) := by decide +kernel
theorem dL_move_21 : decode cL_move 21 = .ok (.astore 4, 2) := by decide +kernel
theorem dL_move_23 : decode cL_move 23 = .ok (.ldc2_w 21, 3) := by decide +kernel
theorem dL_move_26 : decode cL_move 26 = .ok (.lreturn, 1) := by decide +kernel
theorem dL_pay_0 : decode cL_pay 0 = .ok (.aload_n 0, 1) := by decide +kernel
theorem dL_pay_1 : decode cL_pay 1 = .ok (.iload_n 1, 1) := by decide +kernel
theorem dL_pay_2 : decode cL_pay 2 = .ok (.invokevirtual 79, 3) := by decide +kernel
theorem dL_pay_5 : decode cL_pay 5 = .ok (.i2l, 1) := by decide +kernel
theorem dL_pay_6 : decode cL_pay 6 = .ok (.lreturn, 1) := by decide +kernel
theorem dL_pay_7 : decode cL_pay 7 = .ok (.astore_n 2, 1) := by decide +kernel
theorem dL_pay_8 : decode cL_pay 8 = .ok (.ldc2_w 36, 3) := by decide +kernel
theorem dL_pay_11 : decode cL_pay 11 = .ok (.lreturn, 1) := by decide +kernel
theorem dL_undo_0 : decode cL_undo 0 = .ok (.aload_n 0, 1) := by decide +kernel
theorem dL_undo_1 : decode cL_undo 1 = .ok (.invokevirtual 82, 3) := by decide +kernel
theorem dL_undo_4 : decode cL_undo 4 = .ok (.i2l, 1) := by decide +kernel
theorem dL_undo_5 : decode cL_undo 5 = .ok (.lreturn, 1) := by decide +kernel
theorem dL_undo_6 : decode cL_undo 6 = .ok (.astore_n 1, 1) := by decide +kernel
theorem dL_undo_7 : decode cL_undo 7 = .ok (.ldc2_w 21, 3) := by decide +kernel
theorem dL_undo_10 : decode cL_undo 10 = .ok (.lreturn, 1) := by decide +kernel
theorem dL_wouldGet_0 : decode cL_wouldGet 0 = .ok (.aload_n 0, 1) := by decide +kernel
theorem dL_wouldGet_1 : decode cL_wouldGet 1 = .ok (.iload_n 1, 1) := by decide +kernel
theorem dL_wouldGet_2 : decode cL_wouldGet 2 = .ok (.iload_n 2, 1) := by decide +kernel
theorem dL_wouldGet_3 : decode cL_wouldGet 3 = .ok (.invokevirtual 85, 3) := by decide +kernel
theorem dL_wouldGet_6 : decode cL_wouldGet 6 = .ok (.i2l, 1) := by decide +kernel
theorem dL_wouldGet_7 : decode cL_wouldGet 7 = .ok (.lreturn, 1) := by decide +kernel
theorem dL_wouldGet_8 : decode cL_wouldGet 8 = .ok (.astore_n 3, 1) := by decide +kernel
theorem dL_wouldGet_9 : decode cL_wouldGet 9 = .ok (.ldc2_w 36, 3) := by decide +kernel
theorem dL_wouldGet_12 : decode cL_wouldGet 12 = .ok (.lreturn, 1) := by decide +kernel
theorem dL_roomFor_0 : decode cL_roomFor 0 = .ok (.aload_n 0, 1) := by decide +kernel
theorem dL_roomFor_1 : decode cL_roomFor 1 = .ok (.iload_n 1, 1) := by decide +kernel
theorem dL_roomFor_2 : decode cL_roomFor 2 = .ok (.invokevirtual 88, 3) := by decide +kernel
theorem dL_roomFor_5 : decode cL_roomFor 5 = .ok (.i2l, 1) := by decide +kernel
theorem dL_roomFor_6 : decode cL_roomFor 6 = .ok (.lreturn, 1) := by decide +kernel
theorem dL_roomFor_7 : decode cL_roomFor 7 = .ok (.astore_n 2, 1) := by decide +kernel
theorem dL_roomFor_8 : decode cL_roomFor 8 = .ok (.ldc2_w 36, 3) := by decide +kernel
theorem dL_roomFor_11 : decode cL_roomFor 11 = .ok (.lreturn, 1) := by decide +kernel
theorem dL_shortest_0 : decode cL_shortest 0 = .ok (.aload_n 0, 1) := by decide +kernel
theorem dL_shortest_1 : decode cL_shortest 1 = .ok (.iload_n 1, 1) := by decide +kernel
theorem dL_shortest_2 : decode cL_shortest 2 = .ok (.invokevirtual 91, 3) := by decide +kernel
theorem dL_shortest_5 : decode cL_shortest 5 = .ok (.i2l, 1) := by decide +kernel
theorem dL_shortest_6 : decode cL_shortest 6 = .ok (.lreturn, 1) := by decide +kernel
theorem dL_shortest_7 : decode cL_shortest 7 = .ok (.astore_n 2, 1) := by decide +kernel
theorem dL_shortest_8 : decode cL_shortest 8 = .ok (.ldc2_w 36, 3) := by decide +kernel
theorem dL_shortest_11 : decode cL_shortest 11 = .ok (.lreturn, 1) := by decide +kernel
theorem dL_script_0 : decode cL_script 0 = .ok (.aload_n 0, 1) := by decide +kernel
theorem dL_script_1 : decode cL_script 1 = .ok (.iload_n 1, 1) := by decide +kernel
theorem dL_script_2 : decode cL_script 2 = .ok (.lload_n 2, 1) := by decide +kernel
theorem dL_script_3 : decode cL_script 3 = .ok (.invokevirtual 94, 3) := by decide +kernel
theorem dL_script_6 : decode cL_script 6 = .ok (.i2l, 1) := by decide +kernel
theorem dL_script_7 : decode cL_script 7 = .ok (.lreturn, 1) := by decide +kernel
theorem dL_script_8 : decode cL_script 8 = .ok (.astore 4, 2) := by decide +kernel
theorem dL_script_10 : decode cL_script 10 = .ok (.ldc2_w 17, 3) := by decide +kernel
theorem dL_script_13 : decode cL_script 13 = .ok (.lreturn, 1) := by decide +kernel
theorem dL_simulate_0 : decode cL_simulate 0 = .ok (.aload_n 0, 1) := by decide +kernel
theorem dL_simulate_1 : decode cL_simulate 1 = .ok (.lload_n 1, 1) := by decide +kernel
theorem dL_simulate_2 : decode cL_simulate 2 = .ok (.iload_n 3, 1) := by decide +kernel
theorem dL_simulate_3 : decode cL_simulate 3 = .ok (.invokevirtual 98, 3) := by decide +kernel
theorem dL_simulate_6 : decode cL_simulate 6 = .ok (.i2l, 1) := by decide +kernel
theorem dL_simulate_7 : decode cL_simulate 7 = .ok (.lreturn, 1) := by decide +kernel
theorem dL_simulate_8 : decode cL_simulate 8 = .ok (.astore 4, 2) := by decide +kernel
theorem dL_simulate_10 : decode cL_simulate 10 = .ok (.ldc2_w 17, 3) := by decide +kernel
theorem dL_simulate_13 : decode cL_simulate 13 = .ok (.lreturn, 1) := by decide +kernel
theorem dL_save_0 : decode cL_save 0 = .ok (.aload_n 0, 1) := by decide +kernel
theorem dL_save_1 : decode cL_save 1 = .ok (.iload_n 1, 1) := by decide +kernel
theorem dL_save_2 : decode cL_save 2 = .ok (.invokevirtual 102, 3) := by decide +kernel
theorem dL_save_5 : decode cL_save 5 = .ok (.i2l, 1) := by decide +kernel
theorem dL_save_6 : decode cL_save 6 = .ok (.lreturn, 1) := by decide +kernel
theorem dL_save_7 : decode cL_save 7 = .ok (.astore_n 2, 1) := by decide +kernel
theorem dL_save_8 : decode cL_save 8 = .ok (.ldc2_w 36, 3) := by decide +kernel
theorem dL_save_11 : decode cL_save 11 = .ok (.lreturn, 1) := by decide +kernel
theorem dL_restore_0 : decode cL_restore 0 = .ok (.aload_n 0, 1) := by decide +kernel
theorem dL_restore_1 : decode cL_restore 1 = .ok (.iload_n 1, 1) := by decide +kernel
theorem dL_restore_2 : decode cL_restore 2 = .ok (.invokevirtual 105, 3) := by decide +kernel
theorem dL_restore_5 : decode cL_restore 5 = .ok (.i2l, 1) := by decide +kernel
theorem dL_restore_6 : decode cL_restore 6 = .ok (.lreturn, 1) := by decide +kernel
theorem dL_restore_7 : decode cL_restore 7 = .ok (.astore_n 2, 1) := by decide +kernel
theorem dL_restore_8 : decode cL_restore 8 = .ok (.ldc2_w 36, 3) := by decide +kernel
theorem dL_restore_11 : decode cL_restore 11 = .ok (.lreturn, 1) := by decide +kernel
theorem dL_restore_12 : decode cL_restore 12 = .ok (.astore_n 2, 1) := by decide +kernel
theorem dL_restore_13 : decode cL_restore 13 = .ok (.ldc2_w 21, 3) := by decide +kernel
theorem dL_restore_16 : decode cL_restore 16 = .ok (.lreturn, 1) := by decide +kernel
theorem dL_now_0 : decode cL_now 0 = .ok (.ldc2_w 108, 3) := by decide +kernel
theorem dL_now_3 : decode cL_now 3 = .ok (.lstore_n 1, 1) := by decide +kernel
theorem dL_now_4 : decode cL_now 4 = .ok (.iconst 0, 1) := by decide +kernel
theorem dL_now_5 : decode cL_now 5 = .ok (.istore_n 3, 1) := by decide +kernel
theorem dL_now_6 : decode cL_now 6 = .ok (.iload_n 3, 1) := by decide +kernel
theorem dL_now_7 : decode cL_now 7 = .ok (.bipush 10, 2) := by decide +kernel
theorem dL_now_9 : decode cL_now 9 = .ok (.if_icmp .ge 21, 3) := by decide +kernel
theorem dL_now_12 : decode cL_now 12 = .ok (.ldc2_w 110, 3) := by decide +kernel
theorem dL_now_15 : decode cL_now 15 = .ok (.lload_n 1, 1) := by decide +kernel
theorem dL_now_16 : decode cL_now 16 = .ok (.lmul, 1) := by decide +kernel
theorem dL_now_17 : decode cL_now 17 = .ok (.aload_n 0, 1) := by decide +kernel
theorem dL_now_18 : decode cL_now 18 = .ok (.iload_n 3, 1) := by decide +kernel
theorem dL_now_19 : decode cL_now 19 = .ok (.invokestatic 112, 3) := by decide +kernel
theorem dL_now_22 : decode cL_now 22 = .ok (.ladd, 1) := by decide +kernel
theorem dL_now_23 : decode cL_now 23 = .ok (.lstore_n 1, 1) := by decide +kernel
theorem dL_now_24 : decode cL_now 24 = .ok (.iinc 3 1, 3) := by decide +kernel
theorem dL_now_27 : decode cL_now 27 = .ok (.goto (-21), 3) := by decide +kernel
theorem dL_now_30 : decode cL_now 30 = .ok (.iconst 0, 1) := by decide +kernel
theorem dL_now_31 : decode cL_now 31 = .ok (.istore_n 3, 1) := by decide +kernel
theorem dL_now_32 : decode cL_now 32 = .ok (.iload_n 3, 1) := by decide +kernel
theorem dL_now_33 : decode cL_now 33 = .ok (.i2l, 1) := by decide +kernel
theorem dL_now_34 : decode cL_now 34 = .ok (.aload_n 0, 1) := by decide +kernel
theorem dL_now_35 : decode cL_now 35 = .ok (.iconst 0, 1) := by decide +kernel
theorem dL_now_36 : decode cL_now 36 = .ok (.invokestatic 112, 3) := by decide +kernel
theorem dL_now_39 : decode cL_now 39 = .ok (.lcmp, 1) := by decide +kernel
theorem dL_now_40 : decode cL_now 40 = .ok (.ifCond .ge 83, 3) := by decide +kernel
theorem dL_now_43 : decode cL_now 43 = .ok (.iconst 0, 1) := by decide +kernel
theorem dL_now_44 : decode cL_now 44 = .ok (.istore 4, 2) := by decide +kernel
theorem dL_now_46 : decode cL_now 46 = .ok (.iload 4, 2) := by decide +kernel
theorem dL_now_48 : decode cL_now 48 = .ok (.iconst 4, 1) := by decide +kernel
theorem dL_now_49 : decode cL_now 49 = .ok (.if_icmp .ge 23, 3) := by decide +kernel
theorem dL_now_52 : decode cL_now 52 = .ok (.ldc2_w 110, 3) := by decide +kernel
theorem dL_now_55 : decode cL_now 55 = .ok (.lload_n 1, 1) := by decide +kernel
theorem dL_now_56 : decode cL_now 56 = .ok (.lmul, 1) := by decide +kernel
theorem dL_now_57 : decode cL_now 57 = .ok (.aload_n 0, 1) := by decide +kernel
theorem dL_now_58 : decode cL_now 58 = .ok (.iload_n 3, 1) := by decide +kernel
theorem dL_now_59 : decode cL_now 59 = .ok (.iload 4, 2) := by decide +kernel
theorem dL_now_61 : decode cL_now 61 = .ok (.invokestatic 117, 3) := by decide +kernel
theorem dL_now_64 : decode cL_now 64 = .ok (.ladd, 1) := by decide +kernel
theorem dL_now_65 : decode cL_now 65 = .ok (.lstore_n 1, 1) := by decide +kernel
theorem dL_now_66 : decode cL_now 66 = .ok (.iinc 4 1, 3) := by decide +kernel
theorem dL_now_69 : decode cL_now 69 = .ok (.goto (-23), 3) := by decide +kernel
theorem dL_now_72 : decode cL_now 72 = .ok (.iconst 0, 1) := by decide +kernel
theorem dL_now_73 : decode cL_now 73 = .ok (.istore 4, 2) := by decide +kernel
theorem dL_now_75 : decode cL_now 75 = .ok (.iload 4, 2) := by decide +kernel
theorem dL_now_77 : decode cL_now 77 = .ok (.i2l, 1) := by decide +kernel
theorem dL_now_78 : decode cL_now 78 = .ok (.ldc2_w 120, 3) := by decide +kernel
theorem dL_now_81 : decode cL_now 81 = .ok (.aload_n 0, 1) := by decide +kernel
theorem dL_now_82 : decode cL_now 82 = .ok (.iconst 1, 1) := by decide +kernel
theorem dL_now_83 : decode cL_now 83 = .ok (.invokestatic 112, 3) := by decide +kernel
theorem dL_now_86 : decode cL_now 86 = .ok (.lmul, 1) := by decide +kernel
theorem dL_now_87 : decode cL_now 87 = .ok (.lcmp, 1) := by decide +kernel
theorem dL_now_88 : decode cL_now 88 = .ok (.ifCond .ge 29, 3) := by decide +kernel
theorem dL_now_91 : decode cL_now 91 = .ok (.ldc2_w 110, 3) := by decide +kernel
theorem dL_now_94 : decode cL_now 94 = .ok (.lload_n 1, 1) := by decide +kernel
theorem dL_now_95 : decode cL_now 95 = .ok (.lmul, 1) := by decide +kernel
theorem dL_now_96 : decode cL_now 96 = .ok (.aload_n 0, 1) := by decide +kernel
theorem dL_now_97 : decode cL_now 97 = .ok (.iload_n 3, 1) := by decide +kernel
theorem dL_now_98 : decode cL_now 98 = .ok (.iload 4, 2) := by decide +kernel
theorem dL_now_100 : decode cL_now 100 = .ok (.iconst 3, 1) := by decide +kernel
theorem dL_now_101 : decode cL_now 101 = .ok (.idiv, 1) := by decide +kernel
theorem dL_now_102 : decode cL_now 102 = .ok (.iload 4, 2) := by decide +kernel
theorem dL_now_104 : decode cL_now 104 = .ok (.iconst 3, 1) := by decide +kernel
theorem dL_now_105 : decode cL_now 105 = .ok (.irem, 1) := by decide +kernel
theorem dL_now_106 : decode cL_now 106 = .ok (.invokestatic 122, 3) := by decide +kernel
theorem dL_now_109 : decode cL_now 109 = .ok (.ladd, 1) := by decide +kernel
theorem dL_now_110 : decode cL_now 110 = .ok (.lstore_n 1, 1) := by decide +kernel
theorem dL_now_111 : decode cL_now 111 = .ok (.iinc 4 1, 3) := by decide +kernel
theorem dL_now_114 : decode cL_now 114 = .ok (.goto (-39), 3) := by decide +kernel
theorem dL_now_117 : decode cL_now 117 = .ok (.iinc 3 1, 3) := by decide +kernel
theorem dL_now_120 : decode cL_now 120 = .ok (.goto (-88), 3) := by decide +kernel
theorem dL_now_123 : decode cL_now 123 = .ok (.iconst 0, 1) := by decide +kernel
theorem dL_now_124 : decode cL_now 124 = .ok (.istore_n 3, 1) := by decide +kernel
theorem dL_now_125 : decode cL_now 125 = .ok (.iload_n 3, 1) := by decide +kernel
theorem dL_now_126 : decode cL_now 126 = .ok (.i2l, 1) := by decide +kernel
theorem dL_now_127 : decode cL_now 127 = .ok (.ldc2_w 125, 3) := by decide +kernel
theorem dL_now_130 : decode cL_now 130 = .ok (.aload_n 0, 1) := by decide +kernel
theorem dL_now_131 : decode cL_now 131 = .ok (.iconst 1, 1) := by decide +kernel
theorem dL_now_132 : decode cL_now 132 = .ok (.invokestatic 112, 3) := by decide +kernel
theorem dL_now_135 : decode cL_now 135 = .ok (.lmul, 1) := by decide +kernel
theorem dL_now_136 : decode cL_now 136 = .ok (.lcmp, 1) := by decide +kernel
theorem dL_now_137 : decode cL_now 137 = .ok (.ifCond .ge 28, 3) := by decide +kernel
theorem dL_now_140 : decode cL_now 140 = .ok (.ldc2_w 110, 3) := by decide +kernel
theorem dL_now_143 : decode cL_now 143 = .ok (.lload_n 1, 1) := by decide +kernel
theorem dL_now_144 : decode cL_now 144 = .ok (.lmul, 1) := by decide +kernel
theorem dL_now_145 : decode cL_now 145 = .ok (.aload_n 0, 1) := by decide +kernel
theorem dL_now_146 : decode cL_now 146 = .ok (.iload_n 3, 1) := by decide +kernel
theorem dL_now_147 : decode cL_now 147 = .ok (.bipush 9, 2) := by decide +kernel
theorem dL_now_149 : decode cL_now 149 = .ok (.idiv, 1) := by decide +kernel
theorem dL_now_150 : decode cL_now 150 = .ok (.iload_n 3, 1) := by decide +kernel
theorem dL_now_151 : decode cL_now 151 = .ok (.bipush 9, 2) := by decide +kernel
theorem dL_now_153 : decode cL_now 153 = .ok (.irem, 1) := by decide +kernel
theorem dL_now_154 : decode cL_now 154 = .ok (.invokestatic 127, 3) := by decide +kernel
theorem dL_now_157 : decode cL_now 157 = .ok (.ladd, 1) := by decide +kernel
theorem dL_now_158 : decode cL_now 158 = .ok (.lstore_n 1, 1) := by decide +kernel
theorem dL_now_159 : decode cL_now 159 = .ok (.iinc 3 1, 3) := by decide +kernel
theorem dL_now_162 : decode cL_now 162 = .ok (.goto (-37), 3) := by decide +kernel
theorem dL_now_165 : decode cL_now 165 = .ok (.iconst 0, 1) := by decide +kernel
theorem dL_now_166 : decode cL_now 166 = .ok (.istore_n 3, 1) := by decide +kernel
theorem dL_now_167 : decode cL_now 167 = .ok (.iload_n 3, 1) := by decide +kernel
theorem dL_now_168 : decode cL_now 168 = .ok (.i2l, 1) := by decide +kernel
theorem dL_now_169 : decode cL_now 169 = .ok (.ldc2_w 120, 3) := by decide +kernel
theorem dL_now_172 : decode cL_now 172 = .ok (.aload_n 0, 1) := by decide +kernel
theorem dL_now_173 : decode cL_now 173 = .ok (.iconst 2, 1) := by decide +kernel
theorem dL_now_174 : decode cL_now 174 = .ok (.invokestatic 112, 3) := by decide +kernel
theorem dL_now_177 : decode cL_now 177 = .ok (.lmul, 1) := by decide +kernel
theorem dL_now_178 : decode cL_now 178 = .ok (.lcmp, 1) := by decide +kernel
theorem dL_now_179 : decode cL_now 179 = .ok (.ifCond .ge 26, 3) := by decide +kernel
theorem dL_now_182 : decode cL_now 182 = .ok (.ldc2_w 110, 3) := by decide +kernel
theorem dL_now_185 : decode cL_now 185 = .ok (.lload_n 1, 1) := by decide +kernel
theorem dL_now_186 : decode cL_now 186 = .ok (.lmul, 1) := by decide +kernel
theorem dL_now_187 : decode cL_now 187 = .ok (.aload_n 0, 1) := by decide +kernel
theorem dL_now_188 : decode cL_now 188 = .ok (.iload_n 3, 1) := by decide +kernel
theorem dL_now_189 : decode cL_now 189 = .ok (.iconst 3, 1) := by decide +kernel
theorem dL_now_190 : decode cL_now 190 = .ok (.idiv, 1) := by decide +kernel
theorem dL_now_191 : decode cL_now 191 = .ok (.iload_n 3, 1) := by decide +kernel
theorem dL_now_192 : decode cL_now 192 = .ok (.iconst 3, 1) := by decide +kernel
theorem dL_now_193 : decode cL_now 193 = .ok (.irem, 1) := by decide +kernel
theorem dL_now_194 : decode cL_now 194 = .ok (.invokestatic 129, 3) := by decide +kernel
theorem dL_now_197 : decode cL_now 197 = .ok (.ladd, 1) := by decide +kernel
theorem dL_now_198 : decode cL_now 198 = .ok (.lstore_n 1, 1) := by decide +kernel
theorem dL_now_199 : decode cL_now 199 = .ok (.iinc 3 1, 3) := by decide +kernel
theorem dL_now_202 : decode cL_now 202 = .ok (.goto (-35), 3) := by decide +kernel
theorem dL_now_205 : decode cL_now 205 = .ok (.lload_n 1, 1) := by decide +kernel
theorem dL_now_206 : decode cL_now 206 = .ok (.lreturn, 1) := by decide +kernel
theorem dL_alike_0 : decode cL_alike 0 = .ok (.aload_n 0, 1) := by decide +kernel
theorem dL_alike_1 : decode cL_alike 1 = .ok (.invokestatic 131, 3) := by decide +kernel
theorem dL_alike_4 : decode cL_alike 4 = .ok (.aload_n 1, 1) := by decide +kernel
theorem dL_alike_5 : decode cL_alike 5 = .ok (.invokestatic 131, 3) := by decide +kernel
theorem dL_alike_8 : decode cL_alike 8 = .ok (.lcmp, 1) := by decide +kernel
theorem dL_alike_9 : decode cL_alike 9 = .ok (.ifCond .ne 189, 3) := by decide +kernel
theorem dL_alike_12 : decode cL_alike 12 = .ok (.aload_n 0, 1) := by decide +kernel
theorem dL_alike_13 : decode cL_alike 13 = .ok (.invokevirtual 202, 3) := by decide +kernel
theorem dL_alike_16 : decode cL_alike 16 = .ok (.aload_n 1, 1) := by decide +kernel
theorem dL_alike_17 : decode cL_alike 17 = .ok (.invokevirtual 202, 3) := by decide +kernel
theorem dL_alike_20 : decode cL_alike 20 = .ok (.if_icmp .ne 178, 3) := by decide +kernel
theorem dL_alike_23 : decode cL_alike 23 = .ok (.aload_n 0, 1) := by decide +kernel
theorem dL_alike_24 : decode cL_alike 24 = .ok (.invokevirtual 193, 3) := by decide +kernel
theorem dL_alike_27 : decode cL_alike 27 = .ok (.aload_n 1, 1) := by decide +kernel
theorem dL_alike_28 : decode cL_alike 28 = .ok (.invokevirtual 193, 3) := by decide +kernel
theorem dL_alike_31 : decode cL_alike 31 = .ok (.if_icmp .ne 167, 3) := by decide +kernel
theorem dL_alike_34 : decode cL_alike 34 = .ok (.aload_n 0, 1) := by decide +kernel
theorem dL_alike_35 : decode cL_alike 35 = .ok (.iload_n 2, 1) := by decide +kernel
theorem dL_alike_36 : decode cL_alike 36 = .ok (.bipush 6, 2) := by decide +kernel
theorem dL_alike_38 : decode cL_alike 38 = .ok (.irem, 1) := by decide +kernel
theorem dL_alike_39 : decode cL_alike 39 = .ok (.iload_n 2, 1) := by decide +kernel
theorem dL_alike_40 : decode cL_alike 40 = .ok (.bipush 6, 2) := by decide +kernel
theorem dL_alike_42 : decode cL_alike 42 = .ok (.idiv, 1) := by decide +kernel
theorem dL_alike_43 : decode cL_alike 43 = .ok (.bipush 6, 2) := by decide +kernel
theorem dL_alike_45 : decode cL_alike 45 = .ok (.irem, 1) := by decide +kernel
theorem dL_alike_46 : decode cL_alike 46 = .ok (.invokestatic 158, 3) := by decide +kernel
theorem dL_alike_49 : decode cL_alike 49 = .ok (.aload_n 1, 1) := by decide +kernel
theorem dL_alike_50 : decode cL_alike 50 = .ok (.iload_n 2, 1) := by decide +kernel
theorem dL_alike_51 : decode cL_alike 51 = .ok (.bipush 6, 2) := by decide +kernel
theorem dL_alike_53 : decode cL_alike 53 = .ok (.irem, 1) := by decide +kernel
theorem dL_alike_54 : decode cL_alike 54 = .ok (.iload_n 2, 1) := by decide +kernel
theorem dL_alike_55 : decode cL_alike 55 = .ok (.bipush 6, 2) := by decide +kernel
theorem dL_alike_57 : decode cL_alike 57 = .ok (.idiv, 1) := by decide +kernel
theorem dL_alike_58 : decode cL_alike 58 = .ok (.bipush 6, 2) := by decide +kernel
theorem dL_alike_60 : decode cL_alike 60 = .ok (.irem, 1) := by decide +kernel
theorem dL_alike_61 : decode cL_alike 61 = .ok (.invokestatic 158, 3) := by decide +kernel
theorem dL_alike_64 : decode cL_alike 64 = .ok (.lcmp, 1) := by decide +kernel
theorem dL_alike_65 : decode cL_alike 65 = .ok (.ifCond .ne 133, 3) := by decide +kernel
theorem dL_alike_68 : decode cL_alike 68 = .ok (.aload_n 0, 1) := by decide +kernel
theorem dL_alike_69 : decode cL_alike 69 = .ok (.iload_n 2, 1) := by decide +kernel
theorem dL_alike_70 : decode cL_alike 70 = .ok (.bipush 6, 2) := by decide +kernel
theorem dL_alike_72 : decode cL_alike 72 = .ok (.irem, 1) := by decide +kernel
theorem dL_alike_73 : decode cL_alike 73 = .ok (.invokestatic 164, 3) := by decide +kernel
theorem dL_alike_76 : decode cL_alike 76 = .ok (.aload_n 1, 1) := by decide +kernel
theorem dL_alike_77 : decode cL_alike 77 = .ok (.iload_n 2, 1) := by decide +kernel
theorem dL_alike_78 : decode cL_alike 78 = .ok (.bipush 6, 2) := by decide +kernel
theorem dL_alike_80 : decode cL_alike 80 = .ok (.irem, 1) := by decide +kernel
theorem dL_alike_81 : decode cL_alike 81 = .ok (.invokestatic 164, 3) := by decide +kernel
theorem dL_alike_84 : decode cL_alike 84 = .ok (.lcmp, 1) := by decide +kernel
theorem dL_alike_85 : decode cL_alike 85 = .ok (.ifCond .ne 113, 3) := by decide +kernel
theorem dL_alike_88 : decode cL_alike 88 = .ok (.aload_n 0, 1) := by decide +kernel
theorem dL_alike_89 : decode cL_alike 89 = .ok (.iload_n 2, 1) := by decide +kernel
theorem dL_alike_90 : decode cL_alike 90 = .ok (.bipush 6, 2) := by decide +kernel
theorem dL_alike_92 : decode cL_alike 92 = .ok (.irem, 1) := by decide +kernel
theorem dL_alike_93 : decode cL_alike 93 = .ok (.invokestatic 162, 3) := by decide +kernel
theorem dL_alike_96 : decode cL_alike 96 = .ok (.aload_n 1, 1) := by decide +kernel
theorem dL_alike_97 : decode cL_alike 97 = .ok (.iload_n 2, 1) := by decide +kernel
theorem dL_alike_98 : decode cL_alike 98 = .ok (.bipush 6, 2) := by decide +kernel
theorem dL_alike_100 : decode cL_alike 100 = .ok (.irem, 1) := by decide +kernel
theorem dL_alike_101 : decode cL_alike 101 = .ok (.invokestatic 162, 3) := by decide +kernel
theorem dL_alike_104 : decode cL_alike 104 = .ok (.lcmp, 1) := by decide +kernel
theorem dL_alike_105 : decode cL_alike 105 = .ok (.ifCond .ne 93, 3) := by decide +kernel
theorem dL_alike_108 : decode cL_alike 108 = .ok (.aload_n 0, 1) := by decide +kernel
theorem dL_alike_109 : decode cL_alike 109 = .ok (.iload_n 2, 1) := by decide +kernel
theorem dL_alike_110 : decode cL_alike 110 = .ok (.i2l, 1) := by decide +kernel
theorem dL_alike_111 : decode cL_alike 111 = .ok (.bipush 20, 2) := by decide +kernel
theorem dL_alike_113 : decode cL_alike 113 = .ok (.invokestatic 174, 3) := by decide +kernel
theorem dL_alike_116 : decode cL_alike 116 = .ok (.aload_n 1, 1) := by decide +kernel
theorem dL_alike_117 : decode cL_alike 117 = .ok (.iload_n 2, 1) := by decide +kernel
theorem dL_alike_118 : decode cL_alike 118 = .ok (.i2l, 1) := by decide +kernel
theorem dL_alike_119 : decode cL_alike 119 = .ok (.bipush 20, 2) := by decide +kernel
theorem dL_alike_121 : decode cL_alike 121 = .ok (.invokestatic 174, 3) := by decide +kernel
theorem dL_alike_124 : decode cL_alike 124 = .ok (.lcmp, 1) := by decide +kernel
theorem dL_alike_125 : decode cL_alike 125 = .ok (.ifCond .ne 73, 3) := by decide +kernel
theorem dL_alike_128 : decode cL_alike 128 = .ok (.aload_n 0, 1) := by decide +kernel
theorem dL_alike_129 : decode cL_alike 129 = .ok (.iconst 3, 1) := by decide +kernel
theorem dL_alike_130 : decode cL_alike 130 = .ok (.ldc2_w 205, 3) := by decide +kernel
theorem dL_alike_133 : decode cL_alike 133 = .ok (.iload_n 2, 1) := by decide +kernel
theorem dL_alike_134 : decode cL_alike 134 = .ok (.sipush 900, 3) := by decide +kernel
theorem dL_alike_137 : decode cL_alike 137 = .ok (.irem, 1) := by decide +kernel
theorem dL_alike_138 : decode cL_alike 138 = .ok (.i2l, 1) := by decide +kernel
theorem dL_alike_139 : decode cL_alike 139 = .ok (.ladd, 1) := by decide +kernel
theorem dL_alike_140 : decode cL_alike 140 = .ok (.invokestatic 168, 3) := by decide +kernel
theorem dL_alike_143 : decode cL_alike 143 = .ok (.aload_n 1, 1) := by decide +kernel
theorem dL_alike_144 : decode cL_alike 144 = .ok (.iconst 3, 1) := by decide +kernel
theorem dL_alike_145 : decode cL_alike 145 = .ok (.ldc2_w 205, 3) := by decide +kernel
theorem dL_alike_148 : decode cL_alike 148 = .ok (.iload_n 2, 1) := by decide +kernel
theorem dL_alike_149 : decode cL_alike 149 = .ok (.sipush 900, 3) := by decide +kernel
theorem dL_alike_152 : decode cL_alike 152 = .ok (.irem, 1) := by decide +kernel
theorem dL_alike_153 : decode cL_alike 153 = .ok (.i2l, 1) := by decide +kernel
theorem dL_alike_154 : decode cL_alike 154 = .ok (.ladd, 1) := by decide +kernel
theorem dL_alike_155 : decode cL_alike 155 = .ok (.invokestatic 168, 3) := by decide +kernel
theorem dL_alike_158 : decode cL_alike 158 = .ok (.lcmp, 1) := by decide +kernel
theorem dL_alike_159 : decode cL_alike 159 = .ok (.ifCond .ne 39, 3) := by decide +kernel
theorem dL_alike_162 : decode cL_alike 162 = .ok (.aload_n 0, 1) := by decide +kernel
theorem dL_alike_163 : decode cL_alike 163 = .ok (.iconst 2, 1) := by decide +kernel
theorem dL_alike_164 : decode cL_alike 164 = .ok (.ldc2_w 207, 3) := by decide +kernel
theorem dL_alike_167 : decode cL_alike 167 = .ok (.iload_n 2, 1) := by decide +kernel
theorem dL_alike_168 : decode cL_alike 168 = .ok (.bipush 9, 2) := by decide +kernel
theorem dL_alike_170 : decode cL_alike 170 = .ok (.irem, 1) := by decide +kernel
theorem dL_alike_171 : decode cL_alike 171 = .ok (.i2l, 1) := by decide +kernel
theorem dL_alike_172 : decode cL_alike 172 = .ok (.ladd, 1) := by decide +kernel
theorem dL_alike_173 : decode cL_alike 173 = .ok (.invokestatic 168, 3) := by decide +kernel
theorem dL_alike_176 : decode cL_alike 176 = .ok (.aload_n 1, 1) := by decide +kernel
theorem dL_alike_177 : decode cL_alike 177 = .ok (.iconst 2, 1) := by decide +kernel
theorem dL_alike_178 : decode cL_alike 178 = .ok (.ldc2_w 207, 3) := by decide +kernel
theorem dL_alike_181 : decode cL_alike 181 = .ok (.iload_n 2, 1) := by decide +kernel
theorem dL_alike_182 : decode cL_alike 182 = .ok (.bipush 9, 2) := by decide +kernel
theorem dL_alike_184 : decode cL_alike 184 = .ok (.irem, 1) := by decide +kernel
theorem dL_alike_185 : decode cL_alike 185 = .ok (.i2l, 1) := by decide +kernel
theorem dL_alike_186 : decode cL_alike 186 = .ok (.ladd, 1) := by decide +kernel
theorem dL_alike_187 : decode cL_alike 187 = .ok (.invokestatic 168, 3) := by decide +kernel
theorem dL_alike_190 : decode cL_alike 190 = .ok (.lcmp, 1) := by decide +kernel
theorem dL_alike_191 : decode cL_alike 191 = .ok (.ifCond .ne 7, 3) := by decide +kernel
theorem dL_alike_194 : decode cL_alike 194 = .ok (.iconst 1, 1) := by decide +kernel
theorem dL_alike_195 : decode cL_alike 195 = .ok (.goto 4, 3) := by decide +kernel
theorem dL_alike_198 : decode cL_alike 198 = .ok (.iconst 0, 1) := by decide +kernel
theorem dL_alike_199 : decode cL_alike 199 = .ok (.ireturn, 1) := by decide +kernel
theorem dL_says_0 : decode cL_says 0 = .ok (.aload_n 0, 1) := by decide +kernel
theorem dL_says_1 : decode cL_says 1 = .ok (.iload_n 1, 1) := by decide +kernel
theorem dL_says_2 : decode cL_says 2 = .ok (.invokestatic 181, 3) := by decide +kernel
theorem dL_says_5 : decode cL_says 5 = .ok (.lconst 0, 1) := by decide +kernel
theorem dL_says_6 : decode cL_says 6 = .ok (.lcmp, 1) := by decide +kernel
theorem dL_says_7 : decode cL_says 7 = .ok (.ifCond .le 7, 3) := by decide +kernel
theorem dL_says_10 : decode cL_says 10 = .ok (.iconst 1, 1) := by decide +kernel
theorem dL_says_11 : decode cL_says 11 = .ok (.goto 4, 3) := by decide +kernel
theorem dL_says_14 : decode cL_says 14 = .ok (.iconst 0, 1) := by decide +kernel
theorem dL_says_15 : decode cL_says 15 = .ok (.ireturn, 1) := by decide +kernel
theorem dL_two_0 : decode cL_two 0 = .ok (.aload_n 0, 1) := by decide +kernel
theorem dL_two_1 : decode cL_two 1 = .ok (.bipush 48, 2) := by decide +kernel
theorem dL_two_3 : decode cL_two 3 = .ok (.iload_n 1, 1) := by decide +kernel
theorem dL_two_4 : decode cL_two 4 = .ok (.bipush 10, 2) := by decide +kernel
theorem dL_two_6 : decode cL_two 6 = .ok (.idiv, 1) := by decide +kernel
theorem dL_two_7 : decode cL_two 7 = .ok (.iadd, 1) := by decide +kernel
theorem dL_two_8 : decode cL_two 8 = .ok (.invokestatic 209, 3) := by decide +kernel
theorem dL_two_11 : decode cL_two 11 = .ok (.ifCond .eq 21, 3) := by decide +kernel
theorem dL_two_14 : decode cL_two 14 = .ok (.aload_n 0, 1) := by decide +kernel
theorem dL_two_15 : decode cL_two 15 = .ok (.bipush 48, 2) := by decide +kernel
theorem dL_two_17 : decode cL_two 17 = .ok (.iload_n 1, 1) := by decide +kernel
theorem dL_two_18 : decode cL_two 18 = .ok (.bipush 10, 2) := by decide +kernel
theorem dL_two_20 : decode cL_two 20 = .ok (.irem, 1) := by decide +kernel
theorem dL_two_21 : decode cL_two 21 = .ok (.iadd, 1) := by decide +kernel
theorem dL_two_22 : decode cL_two 22 = .ok (.invokestatic 209, 3) := by decide +kernel
theorem dL_two_25 : decode cL_two 25 = .ok (.ifCond .eq 7, 3) := by decide +kernel
theorem dL_two_28 : decode cL_two 28 = .ok (.iconst 1, 1) := by decide +kernel
theorem dL_two_29 : decode cL_two 29 = .ok (.goto 4, 3) := by decide +kernel
theorem dL_two_32 : decode cL_two 32 = .ok (.iconst 0, 1) := by decide +kernel
theorem dL_two_33 : decode cL_two 33 = .ok (.ireturn, 1) := by decide +kernel
