theorem dJ6_bitCount_0f7a4_0 : decode cJ6_bitCount_0f7a4 0 = .ok (.iload_n 0, 1) := by decide +kernel
theorem dJ6_bitCount_0f7a4_1 : decode cJ6_bitCount_0f7a4 1 = .ok (.iload_n 0, 1) := by decide +kernel
theorem dJ6_bitCount_0f7a4_2 : decode cJ6_bitCount_0f7a4 2 = .ok (.iconst 1, 1) := by decide +kernel
theorem dJ6_bitCount_0f7a4_3 : decode cJ6_bitCount_0f7a4 3 = .ok (.iushr, 1) := by decide +kernel
theorem dJ6_bitCount_0f7a4_4 : decode cJ6_bitCount_0f7a4 4 = .ok (.ldc_w 265, 3) := by decide +kernel
theorem dJ6_bitCount_0f7a4_7 : decode cJ6_bitCount_0f7a4 7 = .ok (.iand, 1) := by decide +kernel
theorem dJ6_bitCount_0f7a4_8 : decode cJ6_bitCount_0f7a4 8 = .ok (.isub, 1) := by decide +kernel
theorem dJ6_bitCount_0f7a4_9 : decode cJ6_bitCount_0f7a4 9 = .ok (.istore_n 0, 1) := by decide +kernel
theorem dJ6_bitCount_0f7a4_10 : decode cJ6_bitCount_0f7a4 10 = .ok (.iload_n 0, 1) := by decide +kernel
theorem dJ6_bitCount_0f7a4_11 : decode cJ6_bitCount_0f7a4 11 = .ok (.ldc_w 266, 3) := by decide +kernel
theorem dJ6_bitCount_0f7a4_14 : decode cJ6_bitCount_0f7a4 14 = .ok (.iand, 1) := by decide +kernel
theorem dJ6_bitCount_0f7a4_15 : decode cJ6_bitCount_0f7a4 15 = .ok (.iload_n 0, 1) := by decide +kernel
theorem dJ6_bitCount_0f7a4_16 : decode cJ6_bitCount_0f7a4 16 = .ok (.iconst 2, 1) := by decide +kernel
theorem dJ6_bitCount_0f7a4_17 : decode cJ6_bitCount_0f7a4 17 = .ok (.iushr, 1) := by decide +kernel
theorem dJ6_bitCount_0f7a4_18 : decode cJ6_bitCount_0f7a4 18 = .ok (.ldc_w 266, 3) := by decide +kernel
theorem dJ6_bitCount_0f7a4_21 : decode cJ6_bitCount_0f7a4 21 = .ok (.iand, 1) := by decide +kernel
theorem dJ6_bitCount_0f7a4_22 : decode cJ6_bitCount_0f7a4 22 = .ok (.iadd, 1) := by decide +kernel
theorem dJ6_bitCount_0f7a4_23 : decode cJ6_bitCount_0f7a4 23 = .ok (.istore_n 0, 1) := by decide +kernel
theorem dJ6_bitCount_0f7a4_24 : decode cJ6_bitCount_0f7a4 24 = .ok (.iload_n 0, 1) := by decide +kernel
theorem dJ6_bitCount_0f7a4_25 : decode cJ6_bitCount_0f7a4 25 = .ok (.iload_n 0, 1) := by decide +kernel
theorem dJ6_bitCount_0f7a4_26 : decode cJ6_bitCount_0f7a4 26 = .ok (.iconst 4, 1) := by decide +kernel
theorem dJ6_bitCount_0f7a4_27 : decode cJ6_bitCount_0f7a4 27 = .ok (.iushr, 1) := by decide +kernel
theorem dJ6_bitCount_0f7a4_28 : decode cJ6_bitCount_0f7a4 28 = .ok (.iadd, 1) := by decide +kernel
theorem dJ6_bitCount_0f7a4_29 : decode cJ6_bitCount_0f7a4 29 = .ok (.ldc_w 267, 3) := by decide +kernel
theorem dJ6_bitCount_0f7a4_32 : decode cJ6_bitCount_0f7a4 32 = .ok (.iand, 1) := by decide +kernel
theorem dJ6_bitCount_0f7a4_33 : decode cJ6_bitCount_0f7a4 33 = .ok (.istore_n 0, 1) := by decide +kernel
theorem dJ6_bitCount_0f7a4_34 : decode cJ6_bitCount_0f7a4 34 = .ok (.iload_n 0, 1) := by decide +kernel
theorem dJ6_bitCount_0f7a4_35 : decode cJ6_bitCount_0f7a4 35 = .ok (.iload_n 0, 1) := by decide +kernel
theorem dJ6_bitCount_0f7a4_36 : decode cJ6_bitCount_0f7a4 36 = .ok (.bipush 8, 2) := by decide +kernel
theorem dJ6_bitCount_0f7a4_38 : decode cJ6_bitCount_0f7a4 38 = .ok (.iushr, 1) := by decide +kernel
theorem dJ6_bitCount_0f7a4_39 : decode cJ6_bitCount_0f7a4 39 = .ok (.iadd, 1) := by decide +kernel
theorem dJ6_bitCount_0f7a4_40 : decode cJ6_bitCount_0f7a4 40 = .ok (.istore_n 0, 1) := by decide +kernel
theorem dJ6_bitCount_0f7a4_41 : decode cJ6_bitCount_0f7a4 41 = .ok (.iload_n 0, 1) := by decide +kernel
theorem dJ6_bitCount_0f7a4_42 : decode cJ6_bitCount_0f7a4 42 = .ok (.iload_n 0, 1) := by decide +kernel
theorem dJ6_bitCount_0f7a4_43 : decode cJ6_bitCount_0f7a4 43 = .ok (.bipush 16, 2) := by decide +kernel
theorem dJ6_bitCount_0f7a4_45 : decode cJ6_bitCount_0f7a4 45 = .ok (.iushr, 1) := by decide +kernel
theorem dJ6_bitCount_0f7a4_46 : decode cJ6_bitCount_0f7a4 46 = .ok (.iadd, 1) := by decide +kernel
theorem dJ6_bitCount_0f7a4_47 : decode cJ6_bitCount_0f7a4 47 = .ok (.istore_n 0, 1) := by decide +kernel
theorem dJ6_bitCount_0f7a4_48 : decode cJ6_bitCount_0f7a4 48 = .ok (.iload_n 0, 1) := by decide +kernel
theorem dJ6_bitCount_0f7a4_49 : decode cJ6_bitCount_0f7a4 49 = .ok (.bipush 63, 2) := by decide +kernel
theorem dJ6_bitCount_0f7a4_51 : decode cJ6_bitCount_0f7a4 51 = .ok (.iand, 1) := by decide +kernel
theorem dJ6_bitCount_0f7a4_52 : decode cJ6_bitCount_0f7a4 52 = .ok (.ireturn, 1) := by decide +kernel
theorem dX5_init_0 : decode cX5_init 0 = .ok (.aload_n 0, 1) := by decide +kernel
theorem dX5_init_1 : decode cX5_init 1 = .ok (.invokespecial 3, 3) := by decide +kernel
theorem dX5_init_4 : decode cX5_init 4 = .ok (.aload_n 0, 1) := by decide +kernel
theorem dX5_init_5 : decode cX5_init 5 = .ok (.bipush 36, 2) := by decide +kernel
theorem dX5_init_7 : decode cX5_init 7 = .ok (.newarray .int, 2) := by decide +kernel
theorem dX5_init_9 : decode cX5_init 9 = .ok (.putfield 9, 3) := by decide +kernel
theorem dX5_init_12 : decode cX5_init 12 = .ok (.return_, 1) := by decide +kernel
theorem dX5_of_0 : decode cX5_of 0 = .ok (.aload_n 0, 1) := by decide +kernel
theorem dX5_of_1 : decode cX5_of 1 = .ok (.getfield 9, 3) := by decide +kernel
theorem dX5_of_4 : decode cX5_of 4 = .ok (.iload_n 1, 1) := by decide +kernel
theorem dX5_of_5 : decode cX5_of 5 = .ok (.bipush 6, 2) := by decide +kernel
theorem dX5_of_7 : decode cX5_of 7 = .ok (.imul, 1) := by decide +kernel
theorem dX5_of_8 : decode cX5_of 8 = .ok (.iload_n 2, 1) := by decide +kernel
theorem dX5_of_9 : decode cX5_of 9 = .ok (.iadd, 1) := by decide +kernel
theorem dX5_of_10 : decode cX5_of 10 = .ok (.iaload, 1) := by decide +kernel
theorem dX5_of_11 : decode cX5_of 11 = .ok (.ireturn, 1) := by decide +kernel
theorem dX5_put_0 : decode cX5_put 0 = .ok (.aload_n 0, 1) := by decide +kernel
theorem dX5_put_1 : decode cX5_put 1 = .ok (.getfield 9, 3) := by decide +kernel
theorem dX5_put_4 : decode cX5_put 4 = .ok (.iload_n 1, 1) := by decide +kernel
theorem dX5_put_5 : decode cX5_put 5 = .ok (.bipush 6, 2) := by decide +kernel
theorem dX5_put_7 : decode cX5_put 7 = .ok (.imul, 1) := by decide +kernel
theorem dX5_put_8 : decode cX5_put 8 = .ok (.iload_n 2, 1) := by decide +kernel
theorem dX5_put_9 : decode cX5_put 9 = .ok (.iadd, 1) := by decide +kernel
theorem dX5_put_10 : decode cX5_put 10 = .ok (.iload_n 3, 1) := by decide +kernel
theorem dX5_put_11 : decode cX5_put 11 = .ok (.iastore, 1) := by decide +kernel
theorem dX5_put_12 : decode cX5_put 12 = .ok (.return_, 1) := by decide +kernel
theorem dX5_add_0 : decode cX5_add 0 = .ok (.aload_n 0, 1) := by decide +kernel
theorem dX5_add_1 : decode cX5_add 1 = .ok (.getfield 9, 3) := by decide +kernel
theorem dX5_add_4 : decode cX5_add 4 = .ok (.iload_n 1, 1) := by decide +kernel
theorem dX5_add_5 : decode cX5_add 5 = .ok (.bipush 6, 2) := by decide +kernel
theorem dX5_add_7 : decode cX5_add 7 = .ok (.imul, 1) := by decide +kernel
theorem dX5_add_8 : decode cX5_add 8 = .ok (.iload_n 2, 1) := by decide +kernel
theorem dX5_add_9 : decode cX5_add 9 = .ok (.iadd, 1) := by decide +kernel
theorem dX5_add_10 : decode cX5_add 10 = .ok (.dup2, 1) := by decide +kernel
theorem dX5_add_11 : decode cX5_add 11 = .ok (.iaload, 1) := by decide +kernel
theorem dX5_add_12 : decode cX5_add 12 = .ok (.iload_n 3, 1) := by decide +kernel
theorem dX5_add_13 : decode cX5_add 13 = .ok (.iadd, 1) := by decide +kernel
theorem dX5_add_14 : decode cX5_add 14 = .ok (.iastore, 1) := by decide +kernel
theorem dX5_add_15 : decode cX5_add 15 = .ok (.return_, 1) := by decide +kernel
theorem dX5_ofMember_0 : decode cX5_ofMember 0 = .ok (.iconst 0, 1) := by decide +kernel
theorem dX5_ofMember_1 : decode cX5_ofMember 1 = .ok (.istore_n 2, 1) := by decide +kernel
theorem dX5_ofMember_2 : decode cX5_ofMember 2 = .ok (.iconst 0, 1) := by decide +kernel
theorem dX5_ofMember_3 : decode cX5_ofMember 3 = .ok (.istore_n 3, 1) := by decide +kernel
theorem dX5_ofMember_4 : decode cX5_ofMember 4 = .ok (.iload_n 3, 1) := by decide +kernel
theorem dX5_ofMember_5 : decode cX5_ofMember 5 = .ok (.bipush 6, 2) := by decide +kernel
theorem dX5_ofMember_7 : decode cX5_ofMember 7 = .ok (.if_icmp .ge 18, 3) := by decide +kernel
theorem dX5_ofMember_10 : decode cX5_ofMember 10 = .ok (.iload_n 2, 1) := by decide +kernel
theorem dX5_ofMember_11 : decode cX5_ofMember 11 = .ok (.aload_n 0, 1) := by decide +kernel
theorem dX5_ofMember_12 : decode cX5_ofMember 12 = .ok (.iload_n 1, 1) := by decide +kernel
theorem dX5_ofMember_13 : decode cX5_ofMember 13 = .ok (.iload_n 3, 1) := by decide +kernel
theorem dX5_ofMember_14 : decode cX5_ofMember 14 = .ok (.invokevirtual 15, 3) := by decide +kernel
theorem dX5_ofMember_17 : decode cX5_ofMember 17 = .ok (.iadd, 1) := by decide +kernel
theorem dX5_ofMember_18 : decode cX5_ofMember 18 = .ok (.istore_n 2, 1) := by decide +kernel
theorem dX5_ofMember_19 : decode cX5_ofMember 19 = .ok (.iinc 3 1, 3) := by decide +kernel
theorem dX5_ofMember_22 : decode cX5_ofMember 22 = .ok (.goto (-18), 3) := by decide +kernel
theorem dX5_ofMember_25 : decode cX5_ofMember 25 = .ok (.iload_n 2, 1) := by decide +kernel
theorem dX5_ofMember_26 : decode cX5_ofMember 26 = .ok (.ireturn, 1) := by decide +kernel
theorem dX5_ofWine_0 : decode cX5_ofWine 0 = .ok (.iconst 0, 1) := by decide +kernel
theorem dX5_ofWine_1 : decode cX5_ofWine 1 = .ok (.istore_n 2, 1) := by decide +kernel
theorem dX5_ofWine_2 : decode cX5_ofWine 2 = .ok (.iconst 0, 1) := by decide +kernel
theorem dX5_ofWine_3 : decode cX5_ofWine 3 = .ok (.istore_n 3, 1) := by decide +kernel
theorem dX5_ofWine_4 : decode cX5_ofWine 4 = .ok (.iload_n 3, 1) := by decide +kernel
theorem dX5_ofWine_5 : decode cX5_ofWine 5 = .ok (.bipush 6, 2) := by decide +kernel
theorem dX5_ofWine_7 : decode cX5_ofWine 7 = .ok (.if_icmp .ge 18, 3) := by decide +kernel
theorem dX5_ofWine_10 : decode cX5_ofWine 10 = .ok (.iload_n 2, 1) := by decide +kernel
theorem dX5_ofWine_11 : decode cX5_ofWine 11 = .ok (.aload_n 0, 1) := by decide +kernel
theorem dX5_ofWine_12 : decode cX5_ofWine 12 = .ok (.iload_n 3, 1) := by decide +kernel
theorem dX5_ofWine_13 : decode cX5_ofWine 13 = .ok (.iload_n 1, 1) := by decide +kernel
theorem dX5_ofWine_14 : decode cX5_ofWine 14 = .ok (.invokevirtual 15, 3) := by decide +kernel
theorem dX5_ofWine_17 : decode cX5_ofWine 17 = .ok (.iadd, 1) := by decide +kernel
theorem dX5_ofWine_18 : decode cX5_ofWine 18 = .ok (.istore_n 2, 1) := by decide +kernel
theorem dX5_ofWine_19 : decode cX5_ofWine 19 = .ok (.iinc 3 1, 3) := by decide +kernel
theorem dX5_ofWine_22 : decode cX5_ofWine 22 = .ok (.goto (-18), 3) := by decide +kernel
theorem dX5_ofWine_25 : decode cX5_ofWine 25 = .ok (.iload_n 2, 1) := by decide +kernel
theorem dX5_ofWine_26 : decode cX5_ofWine 26 = .ok (.ireturn, 1) := by decide +kernel
theorem dX5_ofAll_0 : decode cX5_ofAll 0 = .ok (.aload_n 0, 1) := by decide +kernel
theorem dX5_ofAll_1 : decode cX5_ofAll 1 = .ok (.getfield 9, 3) := by decide +kernel
theorem dX5_ofAll_4 : decode cX5_ofAll 4 = .ok (.invokestatic 19, 3) := by decide +kernel
theorem dX5_ofAll_7 : decode cX5_ofAll 7 = .ok (.ireturn, 1) := by decide +kernel
theorem dX5_copyFrom_0 : decode cX5_copyFrom 0 = .ok (.aload_n 1, 1) := by decide +kernel
theorem dX5_copyFrom_1 : decode cX5_copyFrom 1 = .ok (.getfield 9, 3) := by decide +kernel
theorem dX5_copyFrom_4 : decode cX5_copyFrom 4 = .ok (.aload_n 0, 1) := by decide +kernel
theorem dX5_copyFrom_5 : decode cX5_copyFrom 5 = .ok (.getfield 9, 3) := by decide +kernel
theorem dX5_copyFrom_8 : decode cX5_copyFrom 8 = .ok (.invokestatic 23, 3) := by decide +kernel
theorem dX5_copyFrom_11 : decode cX5_copyFrom 11 = .ok (.return_, 1) := by decide +kernel
theorem dX3_init_0 : decode cX3_init 0 = .ok (.aload_n 0, 1) := by decide +kernel
theorem dX3_init_1 : decode cX3_init 1 = .ok (.invokespecial 3, 3) := by decide +kernel
theorem dX3_init_4 : decode cX3_init 4 = .ok (.aload_n 0, 1) := by decide +kernel
theorem dX3_init_5 : decode cX3_init 5 = .ok (.bipush 8, 2) := by decide +kernel
theorem dX3_init_7 : decode cX3_init 7 = .ok (.newarray .int, 2) := by decide +kernel
theorem dX3_init_9 : decode cX3_init 9 = .ok (.putfield 9, 3) := by decide +kernel
theorem dX3_init_12 : decode cX3_init 12 = .ok (.aload_n 0, 1) := by decide +kernel
theorem dX3_init_13 : decode cX3_init 13 = .ok (.bipush 8, 2) := by decide +kernel
theorem dX3_init_15 : decode cX3_init 15 = .ok (.newarray .int, 2) := by decide +kernel
theorem dX3_init_17 : decode cX3_init 17 = .ok (.putfield 15, 3) := by decide +kernel
theorem dX3_init_20 : decode cX3_init 20 = .ok (.aload_n 0, 1) := by decide +kernel
theorem dX3_init_21 : decode cX3_init 21 = .ok (.bipush 8, 2) := by decide +kernel
theorem dX3_init_23 : decode cX3_init 23 = .ok (.newarray .int, 2) := by decide +kernel
theorem dX3_init_25 : decode cX3_init 25 = .ok (.putfield 18, 3) := by decide +kernel
theorem dX3_init_28 : decode cX3_init 28 = .ok (.return_, 1) := by decide +kernel
theorem dX3_knows_0 : decode cX3_knows 0 = .ok (.iload_n 1, 1) := by decide +kernel
theorem dX3_knows_1 : decode cX3_knows 1 = .ok (.ifCond .lt 15, 3) := by decide +kernel
theorem dX3_knows_4 : decode cX3_knows 4 = .ok (.iload_n 1, 1) := by decide +kernel
theorem dX3_knows_5 : decode cX3_knows 5 = .ok (.aload_n 0, 1) := by decide +kernel
theorem dX3_knows_6 : decode cX3_knows 6 = .ok (.getfield 21, 3) := by decide +kernel
theorem dX3_knows_9 : decode cX3_knows 9 = .ok (.if_icmp .ge 7, 3) := by decide +kernel
theorem dX3_knows_12 : decode cX3_knows 12 = .ok (.iconst 1, 1) := by decide +kernel
theorem dX3_knows_13 : decode cX3_knows 13 = .ok (.goto 4, 3) := by decide +kernel
theorem dX3_knows_16 : decode cX3_knows 16 = .ok (.iconst 0, 1) := by decide +kernel
theorem dX3_knows_17 : decode cX3_knows 17 = .ok (.ireturn, 1) := by decide +kernel
theorem dX3_factOf_0 : decode cX3_factOf 0 = .ok (.iload_n 2, 1) := by decide +kernel
theorem dX3_factOf_1 : decode cX3_factOf 1 = .ok (.lookupswitch 41 #[(0, 27), (1, 34)], 27) := by decide +kernel
theorem dX3_factOf_28 : decode cX3_factOf 28 = .ok (.aload_n 0, 1) := by decide +kernel
theorem dX3_factOf_29 : decode cX3_factOf 29 = .ok (.getfield 9, 3) := by decide +kernel
theorem dX3_factOf_32 : decode cX3_factOf 32 = .ok (.iload_n 1, 1) := by decide +kernel
theorem dX3_factOf_33 : decode cX3_factOf 33 = .ok (.iaload, 1) := by decide +kernel
theorem dX3_factOf_34 : decode cX3_factOf 34 = .ok (.ireturn, 1) := by decide +kernel
theorem dX3_factOf_35 : decode cX3_factOf 35 = .ok (.aload_n 0, 1) := by decide +kernel
theorem dX3_factOf_36 : decode cX3_factOf 36 = .ok (.getfield 15, 3) := by decide +kernel
theorem dX3_factOf_39 : decode cX3_factOf 39 = .ok (.iload_n 1, 1) := by decide +kernel
theorem dX3_factOf_40 : decode cX3_factOf 40 = .ok (.iaload, 1) := by decide +kernel
theorem dX3_factOf_41 : decode cX3_factOf 41 = .ok (.ireturn, 1) := by decide +kernel
theorem dX3_factOf_42 : decode cX3_factOf 42 = .ok (.aload_n 0, 1) := by decide +kernel
theorem dX3_factOf_43 : decode cX3_factOf 43 = .ok (.getfield 18, 3) := by decide +kernel
theorem dX3_factOf_46 : decode cX3_factOf 46 = .ok (.iload_n 1, 1) := by decide +kernel
theorem dX3_factOf_47 : decode cX3_factOf 47 = .ok (.iaload, 1) := by decide +kernel
theorem dX3_factOf_48 : decode cX3_factOf 48 = .ok (.ireturn, 1) := by decide +kernel
theorem dX3_binFault_0 : decode cX3_binFault 0 = .ok (.iload_n 1, 1) := by decide +kernel
theorem dX3_binFault_1 : decode cX3_binFault 1 = .ok (.iconst 1, 1) := by decide +kernel
theorem dX3_binFault_2 : decode cX3_binFault 2 = .ok (.if_icmp .lt 9, 3) := by decide +kernel
theorem dX3_binFault_5 : decode cX3_binFault 5 = .ok (.iload_n 1, 1) := by decide +kernel
theorem dX3_binFault_6 : decode cX3_binFault 6 = .ok (.bipush 24, 2) := by decide +kernel
theorem dX3_binFault_8 : decode cX3_binFault 8 = .ok (.if_icmp .le 5, 3) := by decide +kernel
theorem dX3_binFault_11 : decode cX3_binFault 11 = .ok (.iconst 2, 1) := by decide +kernel
theorem dX3_binFault_12 : decode cX3_binFault 12 = .ok (.ireturn, 1) := by decide +kernel
theorem dX3_binFault_13 : decode cX3_binFault 13 = .ok (.aload_n 0, 1) := by decide +kernel
theorem dX3_binFault_14 : decode cX3_binFault 14 = .ok (.getfield 21, 3) := by decide +kernel
theorem dX3_binFault_17 : decode cX3_binFault 17 = .ok (.bipush 8, 2) := by decide +kernel
theorem dX3_binFault_19 : decode cX3_binFault 19 = .ok (.if_icmp .ge 7, 3) := by decide +kernel
theorem dX3_binFault_22 : decode cX3_binFault 22 = .ok (.iconst 0, 1) := by decide +kernel
theorem dX3_binFault_23 : decode cX3_binFault 23 = .ok (.goto 4, 3) := by decide +kernel
theorem dX3_binFault_26 : decode cX3_binFault 26 = .ok (.iconst 3, 1) := by decide +kernel
theorem dX3_binFault_27 : decode cX3_binFault 27 = .ok (.ireturn, 1) := by decide +kernel
theorem dX3_install_0 : decode cX3_install 0 = .ok (.aload_n 0, 1) := by decide +kernel
theorem dX3_install_1 : decode cX3_install 1 = .ok (.getfield 21, 3) := by decide +kernel
theorem dX3_install_4 : decode cX3_install 4 = .ok (.istore_n 2, 1) := by decide +kernel
theorem dX3_install_5 : decode cX3_install 5 = .ok (.aload_n 0, 1) := by decide +kernel
theorem dX3_install_6 : decode cX3_install 6 = .ok (.getfield 9, 3) := by decide +kernel
theorem dX3_install_9 : decode cX3_install 9 = .ok (.iload_n 2, 1) := by decide +kernel
theorem dX3_install_10 : decode cX3_install 10 = .ok (.iload_n 1, 1) := by decide +kernel
theorem dX3_install_11 : decode cX3_install 11 = .ok (.iastore, 1) := by decide +kernel
theorem dX3_install_12 : decode cX3_install 12 = .ok (.aload_n 0, 1) := by decide +kernel
theorem dX3_install_13 : decode cX3_install 13 = .ok (.getfield 15, 3) := by decide +kernel
theorem dX3_install_16 : decode cX3_install 16 = .ok (.iload_n 2, 1) := by decide +kernel
theorem dX3_install_17 : decode cX3_install 17 = .ok (.ldc 25, 2) := by decide +kernel
theorem dX3_install_19 : decode cX3_install 19 = .ok (.iastore, 1) := by decide +kernel
theorem dX3_install_20 : decode cX3_install 20 = .ok (.aload_n 0, 1) := by decide +kernel
theorem dX3_install_21 : decode cX3_install 21 = .ok (.dup, 1) := by decide +kernel
theorem dX3_install_22 : decode cX3_install 22 = .ok (.getfield 21, 3) := by decide +kernel
theorem dX3_install_25 : decode cX3_install 25 = .ok (.iconst 1, 1) := by decide +kernel
theorem dX3_install_26 : decode cX3_install 26 = .ok (.iadd, 1) := by decide +kernel
theorem dX3_install_27 : decode cX3_install 27 = .ok (.putfield 21, 3) := by decide +kernel
theorem dX3_install_30 : decode cX3_install 30 = .ok (.iload_n 2, 1) := by decide +kernel
theorem dX3_install_31 : decode cX3_install 31 = .ok (.ireturn, 1) := by decide +kernel
theorem dX3_emptyBins_0 : decode cX3_emptyBins 0 = .ok (.iconst 0, 1) := by decide +kernel
theorem dX3_emptyBins_1 : decode cX3_emptyBins 1 = .ok (.istore_n 1, 1) := by decide +kernel
theorem dX3_emptyBins_2 : decode cX3_emptyBins 2 = .ok (.iconst 0, 1) := by decide +kernel
theorem dX3_emptyBins_3 : decode cX3_emptyBins 3 = .ok (.istore_n 2, 1) := by decide +kernel
theorem dX3_emptyBins_4 : decode cX3_emptyBins 4 = .ok (.iload_n 2, 1) := by decide +kernel
theorem dX3_emptyBins_5 : decode cX3_emptyBins 5 = .ok (.aload_n 0, 1) := by decide +kernel
theorem dX3_emptyBins_6 : decode cX3_emptyBins 6 = .ok (.getfield 21, 3) := by decide +kernel
theorem dX3_emptyBins_9 : decode cX3_emptyBins 9 = .ok (.if_icmp .ge 21, 3) := by decide +kernel
theorem dX3_emptyBins_12 : decode cX3_emptyBins 12 = .ok (.aload_n 0, 1) := by decide +kernel
theorem dX3_emptyBins_13 : decode cX3_emptyBins 13 = .ok (.getfield 18, 3) := by decide +kernel
theorem dX3_emptyBins_16 : decode cX3_emptyBins 16 = .ok (.iload_n 2, 1) := by decide +kernel
theorem dX3_emptyBins_17 : decode cX3_emptyBins 17 = .ok (.iaload, 1) := by decide +kernel
theorem dX3_emptyBins_18 : decode cX3_emptyBins 18 = .ok (.ifCond .ne 6, 3) := by decide +kernel
theorem dX3_emptyBins_21 : decode cX3_emptyBins 21 = .ok (.iinc 1 1, 3) := by decide +kernel
theorem dX3_emptyBins_24 : decode cX3_emptyBins 24 = .ok (.iinc 2 1, 3) := by decide +kernel
theorem dX3_emptyBins_27 : decode cX3_emptyBins 27 = .ok (.goto (-23), 3) := by decide +kernel
theorem dX3_emptyBins_30 : decode cX3_emptyBins 30 = .ok (.iload_n 1, 1) := by decide +kernel
theorem dX3_emptyBins_31 : decode cX3_emptyBins 31 = .ok (.ireturn, 1) := by decide +kernel
theorem dX3_roomIn_0 : decode cX3_roomIn 0 = .ok (.aload_n 0, 1) := by decide +kernel
theorem dX3_roomIn_1 : decode cX3_roomIn 1 = .ok (.getfield 9, 3) := by decide +kernel
theorem dX3_roomIn_4 : decode cX3_roomIn 4 = .ok (.iload_n 1, 1) := by decide +kernel
theorem dX3_roomIn_5 : decode cX3_roomIn 5 = .ok (.iaload, 1) := by decide +kernel
theorem dX3_roomIn_6 : decode cX3_roomIn 6 = .ok (.aload_n 0, 1) := by decide +kernel
theorem dX3_roomIn_7 : decode cX3_roomIn 7 = .ok (.getfield 18, 3) := by decide +kernel
theorem dX3_roomIn_10 : decode cX3_roomIn 10 = .ok (.iload_n 1, 1) := by decide +kernel
theorem dX3_roomIn_11 : decode cX3_roomIn 11 = .ok (.iaload, 1) := by decide +kernel
theorem dX3_roomIn_12 : decode cX3_roomIn 12 = .ok (.isub, 1) := by decide +kernel
theorem dX3_roomIn_13 : decode cX3_roomIn 13 = .ok (.ireturn, 1) := by decide +kernel
theorem dX3_roomInAll_0 : decode cX3_roomInAll 0 = .ok (.iconst 0, 1) := by decide +kernel
theorem dX3_roomInAll_1 : decode cX3_roomInAll 1 = .ok (.istore_n 1, 1) := by decide +kernel
theorem dX3_roomInAll_2 : decode cX3_roomInAll 2 = .ok (.iconst 0, 1) := by decide +kernel
theorem dX3_roomInAll_3 : decode cX3_roomInAll 3 = .ok (.istore_n 2, 1) := by decide +kernel
theorem dX3_roomInAll_4 : decode cX3_roomInAll 4 = .ok (.iload_n 2, 1) := by decide +kernel
theorem dX3_roomInAll_5 : decode cX3_roomInAll 5 = .ok (.aload_n 0, 1) := by decide +kernel
theorem dX3_roomInAll_6 : decode cX3_roomInAll 6 = .ok (.getfield 21, 3) := by decide +kernel
theorem dX3_roomInAll_9 : decode cX3_roomInAll 9 = .ok (.if_icmp .ge 17, 3) := by decide +kernel
theorem dX3_roomInAll_12 : decode cX3_roomInAll 12 = .ok (.iload_n 1, 1) := by decide +kernel
theorem dX3_roomInAll_13 : decode cX3_roomInAll 13 = .ok (.aload_n 0, 1) := by decide +kernel
theorem dX3_roomInAll_14 : decode cX3_roomInAll 14 = .ok (.iload_n 2, 1) := by decide +kernel
theorem dX3_roomInAll_15 : decode cX3_roomInAll 15 = .ok (.invokevirtual 26, 3) := by decide +kernel
theorem dX3_roomInAll_18 : decode cX3_roomInAll 18 = .ok (.iadd, 1) := by decide +kernel
theorem dX3_roomInAll_19 : decode cX3_roomInAll 19 = .ok (.istore_n 1, 1) := by decide +kernel
theorem dX3_roomInAll_20 : decode cX3_roomInAll 20 = .ok (.iinc 2 1, 3) := by decide +kernel
theorem dX3_roomInAll_23 : decode cX3_roomInAll 23 = .ok (.goto (-19), 3) := by decide +kernel
theorem dX3_roomInAll_26 : decode cX3_roomInAll 26 = .ok (.iload_n 1, 1) := by decide +kernel
theorem dX3_roomInAll_27 : decode cX3_roomInAll 27 = .ok (.ireturn, 1) := by decide +kernel
theorem dX3_takesWine_0 : decode cX3_takesWine 0 = .ok (.aload_n 0, 1) := by decide +kernel
theorem dX3_takesWine_1 : decode cX3_takesWine 1 = .ok (.getfield 18, 3) := by decide +kernel
theorem dX3_takesWine_4 : decode cX3_takesWine 4 = .ok (.iload_n 1, 1) := by decide +kernel
theorem dX3_takesWine_5 : decode cX3_takesWine 5 = .ok (.iaload, 1) := by decide +kernel
theorem dX3_takesWine_6 : decode cX3_takesWine 6 = .ok (.ifCond .eq 13, 3) := by decide +kernel
theorem dX3_takesWine_9 : decode cX3_takesWine 9 = .ok (.aload_n 0, 1) := by decide +kernel
theorem dX3_takesWine_10 : decode cX3_takesWine 10 = .ok (.getfield 15, 3) := by decide +kernel
theorem dX3_takesWine_13 : decode cX3_takesWine 13 = .ok (.iload_n 1, 1) := by decide +kernel
theorem dX3_takesWine_14 : decode cX3_takesWine 14 = .ok (.iaload, 1) := by decide +kernel
theorem dX3_takesWine_15 : decode cX3_takesWine 15 = .ok (.iload_n 2, 1) := by decide +kernel
theorem dX3_takesWine_16 : decode cX3_takesWine 16 = .ok (.if_icmp .ne 7, 3) := by decide +kernel
theorem dX3_takesWine_19 : decode cX3_takesWine 19 = .ok (.iconst 1, 1) := by decide +kernel
theorem dX3_takesWine_20 : decode cX3_takesWine 20 = .ok (.goto 4, 3) := by decide +kernel
theorem dX3_takesWine_23 : decode cX3_takesWine 23 = .ok (.iconst 0, 1) := by decide +kernel
theorem dX3_takesWine_24 : decode cX3_takesWine 24 = .ok (.ireturn, 1) := by decide +kernel
theorem dX3_roomForWine_0 : decode cX3_roomForWine 0 = .ok (.iconst 0, 1) := by decide +kernel
theorem dX3_roomForWine_1 : decode cX3_roomForWine 1 = .ok (.istore_n 2, 1) := by decide +kernel
theorem dX3_roomForWine_2 : decode cX3_roomForWine 2 = .ok (.iconst 0, 1) := by decide +kernel
theorem dX3_roomForWine_3 : decode cX3_roomForWine 3 = .ok (.istore_n 3, 1) := by decide +kernel
theorem dX3_roomForWine_4 : decode cX3_roomForWine 4 = .ok (.iload_n 3, 1) := by decide +kernel
theorem dX3_roomForWine_5 : decode cX3_roomForWine 5 = .ok (.aload_n 0, 1) := by decide +kernel
theorem dX3_roomForWine_6 : decode cX3_roomForWine 6 = .ok (.getfield 21, 3) := by decide +kernel
theorem dX3_roomForWine_9 : decode cX3_roomForWine 9 = .ok (.if_icmp .ge 26, 3) := by decide +kernel
theorem dX3_roomForWine_12 : decode cX3_roomForWine 12 = .ok (.aload_n 0, 1) := by decide +kernel
theorem dX3_roomForWine_13 : decode cX3_roomForWine 13 = .ok (.iload_n 3, 1) := by decide +kernel
theorem dX3_roomForWine_14 : decode cX3_roomForWine 14 = .ok (.iload_n 1, 1) := by decide +kernel
theorem dX3_roomForWine_15 : decode cX3_roomForWine 15 = .ok (.invokevirtual 30, 3) := by decide +kernel
theorem dX3_roomForWine_18 : decode cX3_roomForWine 18 = .ok (.ifCond .eq 11, 3) := by decide +kernel
theorem dX3_roomForWine_21 : decode cX3_roomForWine 21 = .ok (.iload_n 2, 1) := by decide +kernel
theorem dX3_roomForWine_22 : decode cX3_roomForWine 22 = .ok (.aload_n 0, 1) := by decide +kernel
theorem dX3_roomForWine_23 : decode cX3_roomForWine 23 = .ok (.iload_n 3, 1) := by decide +kernel
theorem dX3_roomForWine_24 : decode cX3_roomForWine 24 = .ok (.invokevirtual 26, 3) := by decide +kernel
theorem dX3_roomForWine_27 : decode cX3_roomForWine 27 = .ok (.iadd, 1) := by decide +kernel
theorem dX3_roomForWine_28 : decode cX3_roomForWine 28 = .ok (.istore_n 2, 1) := by decide +kernel
theorem dX3_roomForWine_29 : decode cX3_roomForWine 29 = .ok (.iinc 3 1, 3) := by decide +kernel
theorem dX3_roomForWine_32 : decode cX3_roomForWine 32 = .ok (.goto (-28), 3) := by decide +kernel
theorem dX3_roomForWine_35 : decode cX3_roomForWine 35 = .ok (.iload_n 2, 1) := by decide +kernel
theorem dX3_roomForWine_36 : decode cX3_roomForWine 36 = .ok (.ireturn, 1) := by decide +kernel
theorem dX3_lay_0 : decode cX3_lay 0 = .ok (.iload_n 2, 1) := by decide +kernel
theorem dX3_lay_1 : decode cX3_lay 1 = .ok (.istore_n 3, 1) := by decide +kernel
theorem dX3_lay_2 : decode cX3_lay 2 = .ok (.iconst 0, 1) := by decide +kernel
theorem dX3_lay_3 : decode cX3_lay 3 = .ok (.istore 4, 2) := by decide +kernel
theorem dX3_lay_5 : decode cX3_lay 5 = .ok (.iload 4, 2) := by decide +kernel
theorem dX3_lay_7 : decode cX3_lay 7 = .ok (.aload_n 0, 1) := by decide +kernel
theorem dX3_lay_8 : decode cX3_lay 8 = .ok (.getfield 21, 3) := by decide +kernel
theorem dX3_lay_11 : decode cX3_lay 11 = .ok (.if_icmp .ge 68, 3) := by decide +kernel
theorem dX3_lay_14 : decode cX3_lay 14 = .ok (.iload_n 3, 1) := by decide +kernel
theorem dX3_lay_15 : decode cX3_lay 15 = .ok (.ifCond .le 64, 3) := by decide +kernel
theorem dX3_lay_18 : decode cX3_lay 18 = .ok (.aload_n 0, 1) := by decide +kernel
theorem dX3_lay_19 : decode cX3_lay 19 = .ok (.iload_n 1, 1) := by decide +kernel
theorem dX3_lay_20 : decode cX3_lay 20 = .ok (.invokevirtual 34, 3) := by decide +kernel
theorem dX3_lay_23 : decode cX3_lay 23 = .ok (.istore 5, 2) := by decide +kernel
theorem dX3_lay_25 : decode cX3_lay 25 = .ok (.iload 5, 2) := by decide +kernel
theorem dX3_lay_27 : decode cX3_lay 27 = .ok (.ldc 25, 2) := by decide +kernel
theorem dX3_lay_29 : decode cX3_lay 29 = .ok (.if_icmp .ne 10, 3) := by decide +kernel
theorem dX3_lay_32 : decode cX3_lay 32 = .ok (.aload_n 0, 1) := by decide +kernel
theorem dX3_lay_33 : decode cX3_lay 33 = .ok (.iload_n 3, 1) := by decide +kernel
theorem dX3_lay_34 : decode cX3_lay 34 = .ok (.invokevirtual 37, 3) := by decide +kernel
theorem dX3_lay_37 : decode cX3_lay 37 = .ok (.istore 5, 2) := by decide +kernel
theorem dX3_lay_39 : decode cX3_lay 39 = .ok (.iload 5, 2) := by decide +kernel
theorem dX3_lay_41 : decode cX3_lay 41 = .ok (.ldc 25, 2) := by decide +kernel
theorem dX3_lay_43 : decode cX3_lay 43 = .ok (.if_icmp .ne 4, 3) := by decide +kernel
theorem dX3_lay_46 : decode cX3_lay 46 = .ok (.return_, 1) := by decide +kernel
theorem dX3_lay_47 : decode cX3_lay 47 = .ok (.iload_n 3, 1) := by decide +kernel
theorem dX3_lay_48 : decode cX3_lay 48 = .ok (.aload_n 0, 1) := by decide +kernel
theorem dX3_lay_49 : decode cX3_lay 49 = .ok (.iload 5, 2) := by decide +kernel
theorem dX3_lay_51 : decode cX3_lay 51 = .ok (.invokevirtual 26, 3) := by decide +kernel
theorem dX3_lay_54 : decode cX3_lay 54 = .ok (.invokestatic 40, 3) := by decide +kernel
theorem dX3_lay_57 : decode cX3_lay 57 = .ok (.istore 6, 2) := by decide +kernel
theorem dX3_lay_59 : decode cX3_lay 59 = .ok (.aload_n 0, 1) := by decide +kernel
theorem dX3_lay_60 : decode cX3_lay 60 = .ok (.iload 5, 2) := by decide +kernel
theorem dX3_lay_62 : decode cX3_lay 62 = .ok (.iload_n 1, 1) := by decide +kernel
theorem dX3_lay_63 : decode cX3_lay 63 = .ok (.iload 6, 2) := by decide +kernel
theorem dX3_lay_65 : decode cX3_lay 65 = .ok (.invokevirtual 46, 3) := by decide +kernel
theorem dX3_lay_68 : decode cX3_lay 68 = .ok (.iload_n 3, 1) := by decide +kernel
theorem dX3_lay_69 : decode cX3_lay 69 = .ok (.iload 6, 2) := by decide +kernel
theorem dX3_lay_71 : decode cX3_lay 71 = .ok (.isub, 1) := by decide +kernel
theorem dX3_lay_72 : decode cX3_lay 72 = .ok (.istore_n 3, 1) := by decide +kernel
theorem dX3_lay_73 : decode cX3_lay 73 = .ok (.iinc 4 1, 3) := by decide +kernel
theorem dX3_lay_76 : decode cX3_lay 76 = .ok (.goto (-71), 3) := by decide +kernel
theorem dX3_lay_79 : decode cX3_lay 79 = .ok (.return_, 1) := by decide +kernel
theorem dX3_binToFillUp_0 : decode cX3_binToFillUp 0 = .ok (.ldc 25, 2) := by decide +kernel
theorem dX3_binToFillUp_2 : decode cX3_binToFillUp 2 = .ok (.istore_n 2, 1) := by decide +kernel
theorem dX3_binToFillUp_3 : decode cX3_binToFillUp 3 = .ok (.iconst 0, 1) := by decide +kernel
theorem dX3_binToFillUp_4 : decode cX3_binToFillUp 4 = .ok (.istore_n 3, 1) := by decide +kernel
theorem dX3_binToFillUp_5 : decode cX3_binToFillUp 5 = .ok (.iload_n 3, 1) := by decide +kernel
theorem dX3_binToFillUp_6 : decode cX3_binToFillUp 6 = .ok (.aload_n 0, 1) := by decide +kernel
theorem dX3_binToFillUp_7 : decode cX3_binToFillUp 7 = .ok (.getfield 21, 3) := by decide +kernel
theorem dX3_binToFillUp_10 : decode cX3_binToFillUp 10 = .ok (.if_icmp .ge 69, 3) := by decide +kernel
theorem dX3_binToFillUp_13 : decode cX3_binToFillUp 13 = .ok (.aload_n 0, 1) := by decide +kernel
theorem dX3_binToFillUp_14 : decode cX3_binToFillUp 14 = .ok (.getfield 18, 3) := by decide +kernel
theorem dX3_binToFillUp_17 : decode cX3_binToFillUp 17 = .ok (.iload_n 3, 1) := by decide +kernel
theorem dX3_binToFillUp_18 : decode cX3_binToFillUp 18 = .ok (.iaload, 1) := by decide +kernel
theorem dX3_binToFillUp_19 : decode cX3_binToFillUp 19 = .ok (.ifCond .le 25, 3) := by decide +kernel
theorem dX3_binToFillUp_22 : decode cX3_binToFillUp 22 = .ok (.aload_n 0, 1) := by decide +kernel
theorem dX3_binToFillUp_23 : decode cX3_binToFillUp 23 = .ok (.getfield 15, 3) := by decide +kernel
theorem dX3_binToFillUp_26 : decode cX3_binToFillUp 26 = .ok (.iload_n 3, 1) := by decide +kernel
theorem dX3_binToFillUp_27 : decode cX3_binToFillUp 27 = .ok (.iaload, 1) := by decide +kernel
theorem dX3_binToFillUp_28 : decode cX3_binToFillUp 28 = .ok (.iload_n 1, 1) := by decide +kernel
theorem dX3_binToFillUp_29 : decode cX3_binToFillUp 29 = .ok (.if_icmp .ne 15, 3) := by decide +kernel
theorem dX3_binToFillUp_32 : decode cX3_binToFillUp 32 = .ok (.aload_n 0, 1) := by decide +kernel
theorem dX3_binToFillUp_33 : decode cX3_binToFillUp 33 = .ok (.iload_n 3, 1) := by decide +kernel
theorem dX3_binToFillUp_34 : decode cX3_binToFillUp 34 = .ok (.invokevirtual 26, 3) := by decide +kernel
theorem dX3_binToFillUp_37 : decode cX3_binToFillUp 37 = .ok (.ifCond .le 7, 3) := by decide +kernel
theorem dX3_binToFillUp_40 : decode cX3_binToFillUp 40 = .ok (.iconst 1, 1) := by decide +kernel
theorem dX3_binToFillUp_41 : decode cX3_binToFillUp 41 = .ok (.goto 4, 3) := by decide +kernel
theorem dX3_binToFillUp_44 : decode cX3_binToFillUp 44 = .ok (.iconst 0, 1) := by decide +kernel
theorem dX3_binToFillUp_45 : decode cX3_binToFillUp 45 = .ok (.istore 4, 2) := by decide +kernel
theorem dX3_binToFillUp_47 : decode cX3_binToFillUp 47 = .ok (.iload 4, 2) := by decide +kernel
theorem dX3_binToFillUp_49 : decode cX3_binToFillUp 49 = .ok (.ifCond .eq 24, 3) := by decide +kernel
theorem dX3_binToFillUp_52 : decode cX3_binToFillUp 52 = .ok (.iload_n 2, 1) := by decide +kernel
theorem dX3_binToFillUp_53 : decode cX3_binToFillUp 53 = .ok (.ldc 25, 2) := by decide +kernel
theorem dX3_binToFillUp_55 : decode cX3_binToFillUp 55 = .ok (.if_icmp .eq 16, 3) := by decide +kernel
theorem dX3_binToFillUp_58 : decode cX3_binToFillUp 58 = .ok (.aload_n 0, 1) := by decide +kernel
theorem dX3_binToFillUp_59 : decode cX3_binToFillUp 59 = .ok (.iload_n 3, 1) := by decide +kernel
theorem dX3_binToFillUp_60 : decode cX3_binToFillUp 60 = .ok (.invokevirtual 26, 3) := by decide +kernel
theorem dX3_binToFillUp_63 : decode cX3_binToFillUp 63 = .ok (.aload_n 0, 1) := by decide +kernel
theorem dX3_binToFillUp_64 : decode cX3_binToFillUp 64 = .ok (.iload_n 2, 1) := by decide +kernel
theorem dX3_binToFillUp_65 : decode cX3_binToFillUp 65 = .ok (.invokevirtual 26, 3) := by decide +kernel
theorem dX3_binToFillUp_68 : decode cX3_binToFillUp 68 = .ok (.if_icmp .ge 5, 3) := by decide +kernel
theorem dX3_binToFillUp_71 : decode cX3_binToFillUp 71 = .ok (.iload_n 3, 1) := by decide +kernel
theorem dX3_binToFillUp_72 : decode cX3_binToFillUp 72 = .ok (.istore_n 2, 1) := by decide +kernel
theorem dX3_binToFillUp_73 : decode cX3_binToFillUp 73 = .ok (.iinc 3 1, 3) := by decide +kernel
theorem dX3_binToFillUp_76 : decode cX3_binToFillUp 76 = .ok (.goto (-71), 3) := by decide +kernel
theorem dX3_binToFillUp_79 : decode cX3_binToFillUp 79 = .ok (.iload_n 2, 1) := by decide +kernel
theorem dX3_binToFillUp_80 : decode cX3_binToFillUp 80 = .ok (.ireturn, 1) := by decide +kernel
theorem dX3_emptyBinFor_0 : decode cX3_emptyBinFor 0 = .ok (.ldc 25, 2) := by decide +kernel
theorem dX3_emptyBinFor_2 : decode cX3_emptyBinFor 2 = .ok (.istore_n 2, 1) := by decide +kernel
theorem dX3_emptyBinFor_3 : decode cX3_emptyBinFor 3 = .ok (.iconst 0, 1) := by decide +kernel
theorem dX3_emptyBinFor_4 : decode cX3_emptyBinFor 4 = .ok (.istore_n 3, 1) := by decide +kernel
theorem dX3_emptyBinFor_5 : decode cX3_emptyBinFor 5 = .ok (.iload_n 3, 1) := by decide +kernel
theorem dX3_emptyBinFor_6 : decode cX3_emptyBinFor 6 = .ok (.aload_n 0, 1) := by decide +kernel
theorem dX3_emptyBinFor_7 : decode cX3_emptyBinFor 7 = .ok (.getfield 21, 3) := by decide +kernel
theorem dX3_emptyBinFor_10 : decode cX3_emptyBinFor 10 = .ok (.if_icmp .ge 45, 3) := by decide +kernel
theorem dX3_emptyBinFor_13 : decode cX3_emptyBinFor 13 = .ok (.aload_n 0, 1) := by decide +kernel
theorem dX3_emptyBinFor_14 : decode cX3_emptyBinFor 14 = .ok (.getfield 18, 3) := by decide +kernel
theorem dX3_emptyBinFor_17 : decode cX3_emptyBinFor 17 = .ok (.iload_n 3, 1) := by decide +kernel
theorem dX3_emptyBinFor_18 : decode cX3_emptyBinFor 18 = .ok (.iaload, 1) := by decide +kernel
theorem dX3_emptyBinFor_19 : decode cX3_emptyBinFor 19 = .ok (.ifCond .ne 30, 3) := by decide +kernel
theorem dX3_emptyBinFor_22 : decode cX3_emptyBinFor 22 = .ok (.iload_n 2, 1) := by decide +kernel
theorem dX3_emptyBinFor_23 : decode cX3_emptyBinFor 23 = .ok (.ldc 25, 2) := by decide +kernel
theorem dX3_emptyBinFor_25 : decode cX3_emptyBinFor 25 = .ok (.if_icmp .eq 22, 3) := by decide +kernel
theorem dX3_emptyBinFor_28 : decode cX3_emptyBinFor 28 = .ok (.aload_n 0, 1) := by decide +kernel
theorem dX3_emptyBinFor_29 : decode cX3_emptyBinFor 29 = .ok (.getfield 9, 3) := by decide +kernel
theorem dX3_emptyBinFor_32 : decode cX3_emptyBinFor 32 = .ok (.iload_n 3, 1) := by decide +kernel
theorem dX3_emptyBinFor_33 : decode cX3_emptyBinFor 33 = .ok (.iaload, 1) := by decide +kernel
theorem dX3_emptyBinFor_34 : decode cX3_emptyBinFor 34 = .ok (.aload_n 0, 1) := by decide +kernel
theorem dX3_emptyBinFor_35 : decode cX3_emptyBinFor 35 = .ok (.getfield 9, 3) := by decide +kernel
theorem dX3_emptyBinFor_38 : decode cX3_emptyBinFor 38 = .ok (.iload_n 2, 1) := by decide +kernel
theorem dX3_emptyBinFor_39 : decode cX3_emptyBinFor 39 = .ok (.iaload, 1) := by decide +kernel
theorem dX3_emptyBinFor_40 : decode cX3_emptyBinFor 40 = .ok (.iload_n 1, 1) := by decide +kernel
theorem dX3_emptyBinFor_41 : decode cX3_emptyBinFor 41 = .ok (.invokestatic 50, 3) := by decide +kernel
theorem dX3_emptyBinFor_44 : decode cX3_emptyBinFor 44 = .ok (.ifCond .eq 5, 3) := by decide +kernel
theorem dX3_emptyBinFor_47 : decode cX3_emptyBinFor 47 = .ok (.iload_n 3, 1) := by decide +kernel
theorem dX3_emptyBinFor_48 : decode cX3_emptyBinFor 48 = .ok (.istore_n 2, 1) := by decide +kernel
theorem dX3_emptyBinFor_49 : decode cX3_emptyBinFor 49 = .ok (.iinc 3 1, 3) := by decide +kernel
theorem dX3_emptyBinFor_52 : decode cX3_emptyBinFor 52 = .ok (.goto (-47), 3) := by decide +kernel
theorem dX3_emptyBinFor_55 : decode cX3_emptyBinFor 55 = .ok (.iload_n 2, 1) := by decide +kernel
theorem dX3_emptyBinFor_56 : decode cX3_emptyBinFor 56 = .ok (.ireturn, 1) := by decide +kernel
theorem dX3_suitsBetter_0 : decode cX3_suitsBetter 0 = .ok (.iload_n 1, 1) := by decide +kernel
theorem dX3_suitsBetter_1 : decode cX3_suitsBetter 1 = .ok (.iload_n 2, 1) := by decide +kernel
theorem dX3_suitsBetter_2 : decode cX3_suitsBetter 2 = .ok (.if_icmp .lt 19, 3) := by decide +kernel
theorem dX3_suitsBetter_5 : decode cX3_suitsBetter 5 = .ok (.iload_n 0, 1) := by decide +kernel
theorem dX3_suitsBetter_6 : decode cX3_suitsBetter 6 = .ok (.iload_n 2, 1) := by decide +kernel
theorem dX3_suitsBetter_7 : decode cX3_suitsBetter 7 = .ok (.if_icmp .lt 12, 3) := by decide +kernel
theorem dX3_suitsBetter_10 : decode cX3_suitsBetter 10 = .ok (.iload_n 0, 1) := by decide +kernel
theorem dX3_suitsBetter_11 : decode cX3_suitsBetter 11 = .ok (.iload_n 1, 1) := by decide +kernel
theorem dX3_suitsBetter_12 : decode cX3_suitsBetter 12 = .ok (.if_icmp .ge 7, 3) := by decide +kernel
theorem dX3_suitsBetter_15 : decode cX3_suitsBetter 15 = .ok (.iconst 1, 1) := by decide +kernel
theorem dX3_suitsBetter_16 : decode cX3_suitsBetter 16 = .ok (.goto 4, 3) := by decide +kernel
theorem dX3_suitsBetter_19 : decode cX3_suitsBetter 19 = .ok (.iconst 0, 1) := by decide +kernel
theorem dX3_suitsBetter_20 : decode cX3_suitsBetter 20 = .ok (.ireturn, 1) := by decide +kernel
theorem dX3_suitsBetter_21 : decode cX3_suitsBetter 21 = .ok (.iload_n 0, 1) := by decide +kernel
theorem dX3_suitsBetter_22 : decode cX3_suitsBetter 22 = .ok (.iload_n 1, 1) := by decide +kernel
theorem dX3_suitsBetter_23 : decode cX3_suitsBetter 23 = .ok (.if_icmp .le 7, 3) := by decide +kernel
theorem dX3_suitsBetter_26 : decode cX3_suitsBetter 26 = .ok (.iconst 1, 1) := by decide +kernel
theorem dX3_suitsBetter_27 : decode cX3_suitsBetter 27 = .ok (.goto 4, 3) := by decide +kernel
theorem dX3_suitsBetter_30 : decode cX3_suitsBetter 30 = .ok (.iconst 0, 1) := by decide +kernel
theorem dX3_suitsBetter_31 : decode cX3_suitsBetter 31 = .ok (.ireturn, 1) := by decide +kernel
theorem dX3_take_0 : decode cX3_take 0 = .ok (.iload_n 2, 1) := by decide +kernel
theorem dX3_take_1 : decode cX3_take 1 = .ok (.istore_n 3, 1) := by decide +kernel
theorem dX3_take_2 : decode cX3_take 2 = .ok (.iconst 0, 1) := by decide +kernel
theorem dX3_take_3 : decode cX3_take 3 = .ok (.istore 4, 2) := by decide +kernel
theorem dX3_take_5 : decode cX3_take 5 = .ok (.iload 4, 2) := by decide +kernel
theorem dX3_take_7 : decode cX3_take 7 = .ok (.aload_n 0, 1) := by decide +kernel
theorem dX3_take_8 : decode cX3_take 8 = .ok (.getfield 21, 3) := by decide +kernel
theorem dX3_take_11 : decode cX3_take 11 = .ok (.if_icmp .ge 54, 3) := by decide +kernel
theorem dX3_take_14 : decode cX3_take 14 = .ok (.iload_n 3, 1) := by decide +kernel
theorem dX3_take_15 : decode cX3_take 15 = .ok (.ifCond .le 50, 3) := by decide +kernel
theorem dX3_take_18 : decode cX3_take 18 = .ok (.aload_n 0, 1) := by decide +kernel
theorem dX3_take_19 : decode cX3_take 19 = .ok (.iload_n 1, 1) := by decide +kernel
theorem dX3_take_20 : decode cX3_take 20 = .ok (.invokevirtual 54, 3) := by decide +kernel
theorem dX3_take_23 : decode cX3_take 23 = .ok (.istore 5, 2) := by decide +kernel
theorem dX3_take_25 : decode cX3_take 25 = .ok (.iload 5, 2) := by decide +kernel
theorem dX3_take_27 : decode cX3_take 27 = .ok (.ldc 25, 2) := by decide +kernel
theorem dX3_take_29 : decode cX3_take 29 = .ok (.if_icmp .ne 4, 3) := by decide +kernel
theorem dX3_take_32 : decode cX3_take 32 = .ok (.return_, 1) := by decide +kernel
theorem dX3_take_33 : decode cX3_take 33 = .ok (.iload_n 3, 1) := by decide +kernel
theorem dX3_take_34 : decode cX3_take 34 = .ok (.aload_n 0, 1) := by decide +kernel
theorem dX3_take_35 : decode cX3_take 35 = .ok (.getfield 18, 3) := by decide +kernel
theorem dX3_take_38 : decode cX3_take 38 = .ok (.iload 5, 2) := by decide +kernel
theorem dX3_take_40 : decode cX3_take 40 = .ok (.iaload, 1) := by decide +kernel
theorem dX3_take_41 : decode cX3_take 41 = .ok (.invokestatic 40, 3) := by decide +kernel
theorem dX3_take_44 : decode cX3_take 44 = .ok (.istore 6, 2) := by decide +kernel
theorem dX3_take_46 : decode cX3_take 46 = .ok (.aload_n 0, 1) := by decide +kernel
theorem dX3_take_47 : decode cX3_take 47 = .ok (.iload 5, 2) := by decide +kernel
theorem dX3_take_49 : decode cX3_take 49 = .ok (.iload 6, 2) := by decide +kernel
theorem dX3_take_51 : decode cX3_take 51 = .ok (.invokevirtual 57, 3) := by decide +kernel
theorem dX3_take_54 : decode cX3_take 54 = .ok (.iload_n 3, 1) := by decide +kernel
theorem dX3_take_55 : decode cX3_take 55 = .ok (.iload 6, 2) := by decide +kernel
theorem dX3_take_57 : decode cX3_take 57 = .ok (.isub, 1) := by decide +kernel
theorem dX3_take_58 : decode cX3_take 58 = .ok (.istore_n 3, 1) := by decide +kernel
theorem dX3_take_59 : decode cX3_take 59 = .ok (.iinc 4 1, 3) := by decide +kernel
theorem dX3_take_62 : decode cX3_take 62 = .ok (.goto (-57), 3) := by decide +kernel
theorem dX3_take_65 : decode cX3_take 65 = .ok (.return_, 1) := by decide +kernel
theorem dX3_binToTakeFrom_0 : decode cX3_binToTakeFrom 0 = .ok (.ldc 25, 2) := by decide +kernel
theorem dX3_binToTakeFrom_2 : decode cX3_binToTakeFrom 2 = .ok (.istore_n 2, 1) := by decide +kernel
theorem dX3_binToTakeFrom_3 : decode cX3_binToTakeFrom 3 = .ok (.iconst 0, 1) := by decide +kernel
theorem dX3_binToTakeFrom_4 : decode cX3_binToTakeFrom 4 = .ok (.istore_n 3, 1) := by decide +kernel
theorem dX3_binToTakeFrom_5 : decode cX3_binToTakeFrom 5 = .ok (.iload_n 3, 1) := by decide +kernel
theorem dX3_binToTakeFrom_6 : decode cX3_binToTakeFrom 6 = .ok (.aload_n 0, 1) := by decide +kernel
theorem dX3_binToTakeFrom_7 : decode cX3_binToTakeFrom 7 = .ok (.getfield 21, 3) := by decide +kernel
theorem dX3_binToTakeFrom_10 : decode cX3_binToTakeFrom 10 = .ok (.if_icmp .ge 63, 3) := by decide +kernel
theorem dX3_binToTakeFrom_13 : decode cX3_binToTakeFrom 13 = .ok (.aload_n 0, 1) := by decide +kernel
theorem dX3_binToTakeFrom_14 : decode cX3_binToTakeFrom 14 = .ok (.getfield 18, 3) := by decide +kernel
theorem dX3_binToTakeFrom_17 : decode cX3_binToTakeFrom 17 = .ok (.iload_n 3, 1) := by decide +kernel
theorem dX3_binToTakeFrom_18 : decode cX3_binToTakeFrom 18 = .ok (.iaload, 1) := by decide +kernel
theorem dX3_binToTakeFrom_19 : decode cX3_binToTakeFrom 19 = .ok (.ifCond .le 17, 3) := by decide +kernel
theorem dX3_binToTakeFrom_22 : decode cX3_binToTakeFrom 22 = .ok (.aload_n 0, 1) := by decide +kernel
theorem dX3_binToTakeFrom_23 : decode cX3_binToTakeFrom 23 = .ok (.getfield 15, 3) := by decide +kernel
theorem dX3_binToTakeFrom_26 : decode cX3_binToTakeFrom 26 = .ok (.iload_n 3, 1) := by decide +kernel
theorem dX3_binToTakeFrom_27 : decode cX3_binToTakeFrom 27 = .ok (.iaload, 1) := by decide +kernel
theorem dX3_binToTakeFrom_28 : decode cX3_binToTakeFrom 28 = .ok (.iload_n 1, 1) := by decide +kernel
theorem dX3_binToTakeFrom_29 : decode cX3_binToTakeFrom 29 = .ok (.if_icmp .ne 7, 3) := by decide +kernel
theorem dX3_binToTakeFrom_32 : decode cX3_binToTakeFrom 32 = .ok (.iconst 1, 1) := by decide +kernel
theorem dX3_binToTakeFrom_33 : decode cX3_binToTakeFrom 33 = .ok (.goto 4, 3) := by decide +kernel
theorem dX3_binToTakeFrom_36 : decode cX3_binToTakeFrom 36 = .ok (.iconst 0, 1) := by decide +kernel
theorem dX3_binToTakeFrom_37 : decode cX3_binToTakeFrom 37 = .ok (.istore 4, 2) := by decide +kernel
theorem dX3_binToTakeFrom_39 : decode cX3_binToTakeFrom 39 = .ok (.iload 4, 2) := by decide +kernel
theorem dX3_binToTakeFrom_41 : decode cX3_binToTakeFrom 41 = .ok (.ifCond .eq 26, 3) := by decide +kernel
theorem dX3_binToTakeFrom_44 : decode cX3_binToTakeFrom 44 = .ok (.iload_n 2, 1) := by decide +kernel
theorem dX3_binToTakeFrom_45 : decode cX3_binToTakeFrom 45 = .ok (.ldc 25, 2) := by decide +kernel
theorem dX3_binToTakeFrom_47 : decode cX3_binToTakeFrom 47 = .ok (.if_icmp .eq 18, 3) := by decide +kernel
theorem dX3_binToTakeFrom_50 : decode cX3_binToTakeFrom 50 = .ok (.aload_n 0, 1) := by decide +kernel
theorem dX3_binToTakeFrom_51 : decode cX3_binToTakeFrom 51 = .ok (.getfield 18, 3) := by decide +kernel
theorem dX3_binToTakeFrom_54 : decode cX3_binToTakeFrom 54 = .ok (.iload_n 3, 1) := by decide +kernel
theorem dX3_binToTakeFrom_55 : decode cX3_binToTakeFrom 55 = .ok (.iaload, 1) := by decide +kernel
theorem dX3_binToTakeFrom_56 : decode cX3_binToTakeFrom 56 = .ok (.aload_n 0, 1) := by decide +kernel
theorem dX3_binToTakeFrom_57 : decode cX3_binToTakeFrom 57 = .ok (.getfield 18, 3) := by decide +kernel
theorem dX3_binToTakeFrom_60 : decode cX3_binToTakeFrom 60 = .ok (.iload_n 2, 1) := by decide +kernel
theorem dX3_binToTakeFrom_61 : decode cX3_binToTakeFrom 61 = .ok (.iaload, 1) := by decide +kernel
theorem dX3_binToTakeFrom_62 : decode cX3_binToTakeFrom 62 = .ok (.if_icmp .gt 5, 3) := by decide +kernel
theorem dX3_binToTakeFrom_65 : decode cX3_binToTakeFrom 65 = .ok (.iload_n 3, 1) := by decide +kernel
theorem dX3_binToTakeFrom_66 : decode cX3_binToTakeFrom 66 = .ok (.istore_n 2, 1) := by decide +kernel
theorem dX3_binToTakeFrom_67 : decode cX3_binToTakeFrom 67 = .ok (.iinc 3 1, 3) := by decide +kernel
theorem dX3_binToTakeFrom_70 : decode cX3_binToTakeFrom 70 = .ok (.goto (-65), 3) := by decide +kernel
theorem dX3_binToTakeFrom_73 : decode cX3_binToTakeFrom 73 = .ok (.iload_n 2, 1) := by decide +kernel
theorem dX3_binToTakeFrom_74 : decode cX3_binToTakeFrom 74 = .ok (.ireturn, 1) := by decide +kernel
theorem dX3_carryFault_0 : decode cX3_carryFault 0 = .ok (.aload_n 0, 1) := by decide +kernel
theorem dX3_carryFault_1 : decode cX3_carryFault 1 = .ok (.iload_n 1, 1) := by decide +kernel
theorem dX3_carryFault_2 : decode cX3_carryFault 2 = .ok (.invokevirtual 61, 3) := by decide +kernel
theorem dX3_carryFault_5 : decode cX3_carryFault 5 = .ok (.ifCond .eq 11, 3) := by decide +kernel
theorem dX3_carryFault_8 : decode cX3_carryFault 8 = .ok (.aload_n 0, 1) := by decide +kernel
theorem dX3_carryFault_9 : decode cX3_carryFault 9 = .ok (.iload_n 2, 1) := by decide +kernel
theorem dX3_carryFault_10 : decode cX3_carryFault 10 = .ok (.invokevirtual 61, 3) := by decide +kernel
theorem dX3_carryFault_13 : decode cX3_carryFault 13 = .ok (.ifCond .ne 5, 3) := by decide +kernel
theorem dX3_carryFault_16 : decode cX3_carryFault 16 = .ok (.iconst 1, 1) := by decide +kernel
theorem dX3_carryFault_17 : decode cX3_carryFault 17 = .ok (.ireturn, 1) := by decide +kernel
theorem dX3_carryFault_18 : decode cX3_carryFault 18 = .ok (.iload_n 1, 1) := by decide +kernel
theorem dX3_carryFault_19 : decode cX3_carryFault 19 = .ok (.iload_n 2, 1) := by decide +kernel
theorem dX3_carryFault_20 : decode cX3_carryFault 20 = .ok (.if_icmp .eq 14, 3) := by decide +kernel
theorem dX3_carryFault_23 : decode cX3_carryFault 23 = .ok (.iload_n 3, 1) := by decide +kernel
theorem dX3_carryFault_24 : decode cX3_carryFault 24 = .ok (.iconst 1, 1) := by decide +kernel
theorem dX3_carryFault_25 : decode cX3_carryFault 25 = .ok (.if_icmp .lt 9, 3) := by decide +kernel
theorem dX3_carryFault_28 : decode cX3_carryFault 28 = .ok (.iload_n 3, 1) := by decide +kernel
theorem dX3_carryFault_29 : decode cX3_carryFault 29 = .ok (.bipush 24, 2) := by decide +kernel
theorem dX3_carryFault_31 : decode cX3_carryFault 31 = .ok (.if_icmp .le 5, 3) := by decide +kernel
theorem dX3_carryFault_34 : decode cX3_carryFault 34 = .ok (.iconst 2, 1) := by decide +kernel
theorem dX3_carryFault_35 : decode cX3_carryFault 35 = .ok (.ireturn, 1) := by decide +kernel
theorem dX3_carryFault_36 : decode cX3_carryFault 36 = .ok (.aload_n 0, 1) := by decide +kernel
theorem dX3_carryFault_37 : decode cX3_carryFault 37 = .ok (.getfield 18, 3) := by decide +kernel
theorem dX3_carryFault_40 : decode cX3_carryFault 40 = .ok (.iload_n 1, 1) := by decide +kernel
theorem dX3_carryFault_41 : decode cX3_carryFault 41 = .ok (.iaload, 1) := by decide +kernel
theorem dX3_carryFault_42 : decode cX3_carryFault 42 = .ok (.iload_n 3, 1) := by decide +kernel
theorem dX3_carryFault_43 : decode cX3_carryFault 43 = .ok (.if_icmp .lt 26, 3) := by decide +kernel
theorem dX3_carryFault_46 : decode cX3_carryFault 46 = .ok (.aload_n 0, 1) := by decide +kernel
theorem dX3_carryFault_47 : decode cX3_carryFault 47 = .ok (.iload_n 2, 1) := by decide +kernel
theorem dX3_carryFault_48 : decode cX3_carryFault 48 = .ok (.aload_n 0, 1) := by decide +kernel
theorem dX3_carryFault_49 : decode cX3_carryFault 49 = .ok (.getfield 15, 3) := by decide +kernel
theorem dX3_carryFault_52 : decode cX3_carryFault 52 = .ok (.iload_n 1, 1) := by decide +kernel
theorem dX3_carryFault_53 : decode cX3_carryFault 53 = .ok (.iaload, 1) := by decide +kernel
theorem dX3_carryFault_54 : decode cX3_carryFault 54 = .ok (.invokevirtual 30, 3) := by decide +kernel
theorem dX3_carryFault_57 : decode cX3_carryFault 57 = .ok (.ifCond .eq 12, 3) := by decide +kernel
theorem dX3_carryFault_60 : decode cX3_carryFault 60 = .ok (.aload_n 0, 1) := by decide +kernel
theorem dX3_carryFault_61 : decode cX3_carryFault 61 = .ok (.iload_n 2, 1) := by decide +kernel
theorem dX3_carryFault_62 : decode cX3_carryFault 62 = .ok (.invokevirtual 26, 3) := by decide +kernel
theorem dX3_carryFault_65 : decode cX3_carryFault 65 = .ok (.iload_n 3, 1) := by decide +kernel
theorem dX3_carryFault_66 : decode cX3_carryFault 66 = .ok (.if_icmp .ge 5, 3) := by decide +kernel
theorem dX3_carryFault_69 : decode cX3_carryFault 69 = .ok (.iconst 3, 1) := by decide +kernel
theorem dX3_carryFault_70 : decode cX3_carryFault 70 = .ok (.ireturn, 1) := by decide +kernel
theorem dX3_carryFault_71 : decode cX3_carryFault 71 = .ok (.iconst 0, 1) := by decide +kernel
theorem dX3_carryFault_72 : decode cX3_carryFault 72 = .ok (.ireturn, 1) := by decide +kernel
theorem dX3_carry_0 : decode cX3_carry 0 = .ok (.aload_n 0, 1) := by decide +kernel
theorem dX3_carry_1 : decode cX3_carry 1 = .ok (.iload_n 2, 1) := by decide +kernel
theorem dX3_carry_2 : decode cX3_carry 2 = .ok (.aload_n 0, 1) := by decide +kernel
theorem dX3_carry_3 : decode cX3_carry 3 = .ok (.getfield 15, 3) := by decide +kernel
theorem dX3_carry_6 : decode cX3_carry 6 = .ok (.iload_n 1, 1) := by decide +kernel
theorem dX3_carry_7 : decode cX3_carry 7 = .ok (.iaload, 1) := by decide +kernel
theorem dX3_carry_8 : decode cX3_carry 8 = .ok (.iload_n 3, 1) := by decide +kernel
theorem dX3_carry_9 : decode cX3_carry 9 = .ok (.invokevirtual 46, 3) := by decide +kernel
theorem dX3_carry_12 : decode cX3_carry 12 = .ok (.aload_n 0, 1) := by decide +kernel
theorem dX3_carry_13 : decode cX3_carry 13 = .ok (.iload_n 1, 1) := by decide +kernel
theorem dX3_carry_14 : decode cX3_carry 14 = .ok (.iload_n 3, 1) := by decide +kernel
theorem dX3_carry_15 : decode cX3_carry 15 = .ok (.invokevirtual 57, 3) := by decide +kernel
theorem dX3_carry_18 : decode cX3_carry 18 = .ok (.aload_n 0, 1) := by decide +kernel
theorem dX3_carry_19 : decode cX3_carry 19 = .ok (.getfield 18, 3) := by decide +kernel
theorem dX3_carry_22 : decode cX3_carry 22 = .ok (.iload_n 2, 1) := by decide +kernel
theorem dX3_carry_23 : decode cX3_carry 23 = .ok (.iaload, 1) := by decide +kernel
theorem dX3_carry_24 : decode cX3_carry 24 = .ok (.ireturn, 1) := by decide +kernel
theorem dX3_putInto_0 : decode cX3_putInto 0 = .ok (.aload_n 0, 1) := by decide +kernel
theorem dX3_putInto_1 : decode cX3_putInto 1 = .ok (.getfield 15, 3) := by decide +kernel
theorem dX3_putInto_4 : decode cX3_putInto 4 = .ok (.iload_n 1, 1) := by decide +kernel
theorem dX3_putInto_5 : decode cX3_putInto 5 = .ok (.iload_n 2, 1) := by decide +kernel
theorem dX3_putInto_6 : decode cX3_putInto 6 = .ok (.iastore, 1) := by decide +kernel
theorem dX3_putInto_7 : decode cX3_putInto 7 = .ok (.aload_n 0, 1) := by decide +kernel
theorem dX3_putInto_8 : decode cX3_putInto 8 = .ok (.getfield 18, 3) := by decide +kernel
theorem dX3_putInto_11 : decode cX3_putInto 11 = .ok (.iload_n 1, 1) := by decide +kernel
theorem dX3_putInto_12 : decode cX3_putInto 12 = .ok (.dup2, 1) := by decide +kernel
theorem dX3_putInto_13 : decode cX3_putInto 13 = .ok (.iaload, 1) := by decide +kernel
theorem dX3_putInto_14 : decode cX3_putInto 14 = .ok (.iload_n 3, 1) := by decide +kernel
theorem dX3_putInto_15 : decode cX3_putInto 15 = .ok (.iadd, 1) := by decide +kernel
theorem dX3_putInto_16 : decode cX3_putInto 16 = .ok (.iastore, 1) := by decide +kernel
theorem dX3_putInto_17 : decode cX3_putInto 17 = .ok (.return_, 1) := by decide +kernel
theorem dX3_removeFrom_0 : decode cX3_removeFrom 0 = .ok (.aload_n 0, 1) := by decide +kernel
theorem dX3_removeFrom_1 : decode cX3_removeFrom 1 = .ok (.getfield 18, 3) := by decide +kernel
theorem dX3_removeFrom_4 : decode cX3_removeFrom 4 = .ok (.iload_n 1, 1) := by decide +kernel
theorem dX3_removeFrom_5 : decode cX3_removeFrom 5 = .ok (.dup2, 1) := by decide +kernel
theorem dX3_removeFrom_6 : decode cX3_removeFrom 6 = .ok (.iaload, 1) := by decide +kernel
theorem dX3_removeFrom_7 : decode cX3_removeFrom 7 = .ok (.iload_n 2, 1) := by decide +kernel
theorem dX3_removeFrom_8 : decode cX3_removeFrom 8 = .ok (.isub, 1) := by decide +kernel
theorem dX3_removeFrom_9 : decode cX3_removeFrom 9 = .ok (.iastore, 1) := by decide +kernel
theorem dX3_removeFrom_10 : decode cX3_removeFrom 10 = .ok (.aload_n 0, 1) := by decide +kernel
theorem dX3_removeFrom_11 : decode cX3_removeFrom 11 = .ok (.getfield 18, 3) := by decide +kernel
theorem dX3_removeFrom_14 : decode cX3_removeFrom 14 = .ok (.iload_n 1, 1) := by decide +kernel
theorem dX3_removeFrom_15 : decode cX3_removeFrom 15 = .ok (.iaload, 1) := by decide +kernel
theorem dX3_removeFrom_16 : decode cX3_removeFrom 16 = .ok (.ifCond .ne 11, 3) := by decide +kernel
theorem dX3_removeFrom_19 : decode cX3_removeFrom 19 = .ok (.aload_n 0, 1) := by decide +kernel
theorem dX3_removeFrom_20 : decode cX3_removeFrom 20 = .ok (.getfield 15, 3) := by decide +kernel
theorem dX3_removeFrom_23 : decode cX3_removeFrom 23 = .ok (.iload_n 1, 1) := by decide +kernel
theorem dX3_removeFrom_24 : decode cX3_removeFrom 24 = .ok (.ldc 25, 2) := by decide +kernel
theorem dX3_removeFrom_26 : decode cX3_removeFrom 26 = .ok (.iastore, 1) := by decide +kernel
theorem dX3_removeFrom_27 : decode cX3_removeFrom 27 = .ok (.return_, 1) := by decide +kernel
theorem dX3_copyFrom_0 : decode cX3_copyFrom 0 = .ok (.aload_n 0, 1) := by decide +kernel
theorem dX3_copyFrom_1 : decode cX3_copyFrom 1 = .ok (.aload_n 1, 1) := by decide +kernel
theorem dX3_copyFrom_2 : decode cX3_copyFrom 2 = .ok (.getfield 21, 3) := by decide +kernel
theorem dX3_copyFrom_5 : decode cX3_copyFrom 5 = .ok (.putfield 21, 3) := by decide +kernel
theorem dX3_copyFrom_8 : decode cX3_copyFrom 8 = .ok (.aload_n 1, 1) := by decide +kernel
theorem dX3_copyFrom_9 : decode cX3_copyFrom 9 = .ok (.getfield 9, 3) := by decide +kernel
theorem dX3_copyFrom_12 : decode cX3_copyFrom 12 = .ok (.aload_n 0, 1) := by decide +kernel
theorem dX3_copyFrom_13 : decode cX3_copyFrom 13 = .ok (.getfield 9, 3) := by decide +kernel
theorem dX3_copyFrom_16 : decode cX3_copyFrom 16 = .ok (.invokestatic 65, 3) := by decide +kernel
theorem dX3_copyFrom_19 : decode cX3_copyFrom 19 = .ok (.aload_n 1, 1) := by decide +kernel
theorem dX3_copyFrom_20 : decode cX3_copyFrom 20 = .ok (.getfield 15, 3) := by decide +kernel
theorem dX3_copyFrom_23 : decode cX3_copyFrom 23 = .ok (.aload_n 0, 1) := by decide +kernel
theorem dX3_copyFrom_24 : decode cX3_copyFrom 24 = .ok (.getfield 15, 3) := by decide +kernel
theorem dX3_copyFrom_27 : decode cX3_copyFrom 27 = .ok (.invokestatic 65, 3) := by decide +kernel
theorem dX3_copyFrom_30 : decode cX3_copyFrom 30 = .ok (.aload_n 1, 1) := by decide +kernel
theorem dX3_copyFrom_31 : decode cX3_copyFrom 31 = .ok (.getfield 18, 3) := by decide +kernel
theorem dX3_copyFrom_34 : decode cX3_copyFrom 34 = .ok (.aload_n 0, 1) := by decide +kernel
theorem dX3_copyFrom_35 : decode cX3_copyFrom 35 = .ok (.getfield 18, 3) := by decide +kernel
theorem dX3_copyFrom_38 : decode cX3_copyFrom 38 = .ok (.invokestatic 65, 3) := by decide +kernel
theorem dX3_copyFrom_41 : decode cX3_copyFrom 41 = .ok (.return_, 1) := by decide +kernel
theorem dX2_init_0 : decode cX2_init 0 = .ok (.aload_n 0, 1) := by decide +kernel
theorem dX2_init_1 : decode cX2_init 1 = .ok (.invokespecial 3, 3) := by decide +kernel
theorem dX2_init_4 : decode cX2_init 4 = .ok (.aload_n 0, 1) := by decide +kernel
theorem dX2_init_5 : decode cX2_init 5 = .ok (.sipush 256, 3) := by decide +kernel
theorem dX2_init_8 : decode cX2_init 8 = .ok (.newarray .int, 2) := by decide +kernel
theorem dX2_init_10 : decode cX2_init 10 = .ok (.putfield 9, 3) := by decide +kernel
theorem dX2_init_13 : decode cX2_init 13 = .ok (.aload_n 0, 1) := by decide +kernel
theorem dX2_init_14 : decode cX2_init 14 = .ok (.sipush 256, 3) := by decide +kernel
theorem dX2_init_17 : decode cX2_init 17 = .ok (.newarray .boolean, 2) := by decide +kernel
theorem dX2_init_19 : decode cX2_init 19 = .ok (.putfield 15, 3) := by decide +kernel
theorem dX2_init_22 : decode cX2_init 22 = .ok (.return_, 1) := by decide +kernel
theorem dX2_fewest_0 : decode cX2_fewest 0 = .ok (.aload_n 1, 1) := by decide +kernel
theorem dX2_fewest_1 : decode cX2_fewest 1 = .ok (.getfield 19, 3) := by decide +kernel
theorem dX2_fewest_4 : decode cX2_fewest 4 = .ok (.getfield 25, 3) := by decide +kernel
theorem dX2_fewest_7 : decode cX2_fewest 7 = .ok (.istore_n 2, 1) := by decide +kernel
theorem dX2_fewest_8 : decode cX2_fewest 8 = .ok (.iconst 1, 1) := by decide +kernel
theorem dX2_fewest_9 : decode cX2_fewest 9 = .ok (.iload_n 2, 1) := by decide +kernel
theorem dX2_fewest_10 : decode cX2_fewest 10 = .ok (.ishl, 1) := by decide +kernel
theorem dX2_fewest_11 : decode cX2_fewest 11 = .ok (.istore_n 3, 1) := by decide +kernel
theorem dX2_fewest_12 : decode cX2_fewest 12 = .ok (.aload_n 0, 1) := by decide +kernel
theorem dX2_fewest_13 : decode cX2_fewest 13 = .ok (.aload_n 1, 1) := by decide +kernel
theorem dX2_fewest_14 : decode cX2_fewest 14 = .ok (.getfield 19, 3) := by decide +kernel
theorem dX2_fewest_17 : decode cX2_fewest 17 = .ok (.iload_n 3, 1) := by decide +kernel
theorem dX2_fewest_18 : decode cX2_fewest 18 = .ok (.invokevirtual 31, 3) := by decide +kernel
theorem dX2_fewest_21 : decode cX2_fewest 21 = .ok (.iconst 0, 1) := by decide +kernel
theorem dX2_fewest_22 : decode cX2_fewest 22 = .ok (.istore 4, 2) := by decide +kernel
theorem dX2_fewest_24 : decode cX2_fewest 24 = .ok (.iload 4, 2) := by decide +kernel
theorem dX2_fewest_26 : decode cX2_fewest 26 = .ok (.iload_n 3, 1) := by decide +kernel
theorem dX2_fewest_27 : decode cX2_fewest 27 = .ok (.if_icmp .ge 26, 3) := by decide +kernel
theorem dX2_fewest_30 : decode cX2_fewest 30 = .ok (.aload_n 0, 1) := by decide +kernel
theorem dX2_fewest_31 : decode cX2_fewest 31 = .ok (.getfield 15, 3) := by decide +kernel
theorem dX2_fewest_34 : decode cX2_fewest 34 = .ok (.iload 4, 2) := by decide +kernel
theorem dX2_fewest_36 : decode cX2_fewest 36 = .ok (.iload 4, 2) := by decide +kernel
theorem dX2_fewest_38 : decode cX2_fewest 38 = .ok (.ifCond .ne 7, 3) := by decide +kernel
theorem dX2_fewest_41 : decode cX2_fewest 41 = .ok (.iconst 1, 1) := by decide +kernel
theorem dX2_fewest_42 : decode cX2_fewest 42 = .ok (.goto 4, 3) := by decide +kernel
theorem dX2_fewest_45 : decode cX2_fewest 45 = .ok (.iconst 0, 1) := by decide +kernel
theorem dX2_fewest_46 : decode cX2_fewest 46 = .ok (.bastore, 1) := by decide +kernel
theorem dX2_fewest_47 : decode cX2_fewest 47 = .ok (.iinc 4 1, 3) := by decide +kernel
theorem dX2_fewest_50 : decode cX2_fewest 50 = .ok (.goto (-26), 3) := by decide +kernel
theorem dX2_fewest_53 : decode cX2_fewest 53 = .ok (.iconst 0, 1) := by decide +kernel
theorem dX2_fewest_54 : decode cX2_fewest 54 = .ok (.istore 4, 2) := by decide +kernel
theorem dX2_fewest_56 : decode cX2_fewest 56 = .ok (.iload 4, 2) := by decide +kernel
theorem dX2_fewest_58 : decode cX2_fewest 58 = .ok (.aload_n 1, 1) := by decide +kernel
theorem dX2_fewest_59 : decode cX2_fewest 59 = .ok (.getfield 35, 3) := by decide +kernel
theorem dX2_fewest_62 : decode cX2_fewest 62 = .ok (.if_icmp .ge 32, 3) := by decide +kernel
theorem dX2_fewest_65 : decode cX2_fewest 65 = .ok (.aload_n 1, 1) := by decide +kernel
theorem dX2_fewest_66 : decode cX2_fewest 66 = .ok (.getfield 38, 3) := by decide +kernel
theorem dX2_fewest_69 : decode cX2_fewest 69 = .ok (.iload 4, 2) := by decide +kernel
theorem dX2_fewest_71 : decode cX2_fewest 71 = .ok (.invokevirtual 42, 3) := by decide +kernel
theorem dX2_fewest_74 : decode cX2_fewest 74 = .ok (.istore 5, 2) := by decide +kernel
theorem dX2_fewest_76 : decode cX2_fewest 76 = .ok (.iload 5, 2) := by decide +kernel
theorem dX2_fewest_78 : decode cX2_fewest 78 = .ok (.ifCond .le 10, 3) := by decide +kernel
theorem dX2_fewest_81 : decode cX2_fewest 81 = .ok (.aload_n 0, 1) := by decide +kernel
theorem dX2_fewest_82 : decode cX2_fewest 82 = .ok (.iload 5, 2) := by decide +kernel
theorem dX2_fewest_84 : decode cX2_fewest 84 = .ok (.iload_n 3, 1) := by decide +kernel
theorem dX2_fewest_85 : decode cX2_fewest 85 = .ok (.invokevirtual 48, 3) := by decide +kernel
theorem dX2_fewest_88 : decode cX2_fewest 88 = .ok (.iinc 4 1, 3) := by decide +kernel
theorem dX2_fewest_91 : decode cX2_fewest 91 = .ok (.goto (-35), 3) := by decide +kernel
theorem dX2_fewest_94 : decode cX2_fewest 94 = .ok (.iload_n 2, 1) := by decide +kernel
theorem dX2_fewest_95 : decode cX2_fewest 95 = .ok (.istore 4, 2) := by decide +kernel
theorem dX2_fewest_97 : decode cX2_fewest 97 = .ok (.iconst 0, 1) := by decide +kernel
theorem dX2_fewest_98 : decode cX2_fewest 98 = .ok (.istore 5, 2) := by decide +kernel
theorem dX2_fewest_100 : decode cX2_fewest 100 = .ok (.iload 5, 2) := by decide +kernel
theorem dX2_fewest_102 : decode cX2_fewest 102 = .ok (.iload_n 3, 1) := by decide +kernel
theorem dX2_fewest_103 : decode cX2_fewest 103 = .ok (.if_icmp .ge 31, 3) := by decide +kernel
theorem dX2_fewest_106 : decode cX2_fewest 106 = .ok (.aload_n 0, 1) := by decide +kernel
theorem dX2_fewest_107 : decode cX2_fewest 107 = .ok (.getfield 15, 3) := by decide +kernel
theorem dX2_fewest_110 : decode cX2_fewest 110 = .ok (.iload 5, 2) := by decide +kernel
theorem dX2_fewest_112 : decode cX2_fewest 112 = .ok (.baload, 1) := by decide +kernel
theorem dX2_fewest_113 : decode cX2_fewest 113 = .ok (.ifCond .eq 15, 3) := by decide +kernel
theorem dX2_fewest_116 : decode cX2_fewest 116 = .ok (.iload 4, 2) := by decide +kernel
theorem dX2_fewest_118 : decode cX2_fewest 118 = .ok (.iload 5, 2) := by decide +kernel
theorem dX2_fewest_120 : decode cX2_fewest 120 = .ok (.invokestatic 52, 3) := by decide +kernel
theorem dX2_fewest_123 : decode cX2_fewest 123 = .ok (.invokestatic 57, 3) := by decide +kernel
theorem dX2_fewest_126 : decode cX2_fewest 126 = .ok (.istore 4, 2) := by decide +kernel
theorem dX2_fewest_128 : decode cX2_fewest 128 = .ok (.iinc 5 1, 3) := by decide +kernel
theorem dX2_fewest_131 : decode cX2_fewest 131 = .ok (.goto (-31), 3) := by decide +kernel
theorem dX2_fewest_134 : decode cX2_fewest 134 = .ok (.iload 4, 2) := by decide +kernel
theorem dX2_fewest_136 : decode cX2_fewest 136 = .ok (.ireturn, 1) := by decide +kernel
theorem dX2_measure_0 : decode cX2_measure 0 = .ok (.iconst 0, 1) := by decide +kernel
theorem dX2_measure_1 : decode cX2_measure 1 = .ok (.istore_n 3, 1) := by decide +kernel
theorem dX2_measure_2 : decode cX2_measure 2 = .ok (.iload_n 3, 1) := by decide +kernel
theorem dX2_measure_3 : decode cX2_measure 3 = .ok (.iload_n 2, 1) := by decide +kernel
theorem dX2_measure_4 : decode cX2_measure 4 = .ok (.if_icmp .ge 60, 3) := by decide +kernel
theorem dX2_measure_7 : decode cX2_measure 7 = .ok (.aload_n 0, 1) := by decide +kernel
theorem dX2_measure_8 : decode cX2_measure 8 = .ok (.getfield 9, 3) := by decide +kernel
theorem dX2_measure_11 : decode cX2_measure 11 = .ok (.iload_n 3, 1) := by decide +kernel
theorem dX2_measure_12 : decode cX2_measure 12 = .ok (.iconst 0, 1) := by decide +kernel
theorem dX2_measure_13 : decode cX2_measure 13 = .ok (.iastore, 1) := by decide +kernel
theorem dX2_measure_14 : decode cX2_measure 14 = .ok (.iconst 0, 1) := by decide +kernel
theorem dX2_measure_15 : decode cX2_measure 15 = .ok (.istore 4, 2) := by decide +kernel
theorem dX2_measure_17 : decode cX2_measure 17 = .ok (.iload 4, 2) := by decide +kernel
theorem dX2_measure_19 : decode cX2_measure 19 = .ok (.aload_n 1, 1) := by decide +kernel
theorem dX2_measure_20 : decode cX2_measure 20 = .ok (.getfield 25, 3) := by decide +kernel
theorem dX2_measure_23 : decode cX2_measure 23 = .ok (.if_icmp .ge 35, 3) := by decide +kernel
theorem dX2_measure_26 : decode cX2_measure 26 = .ok (.iload_n 3, 1) := by decide +kernel
theorem dX2_measure_27 : decode cX2_measure 27 = .ok (.iload 4, 2) := by decide +kernel
theorem dX2_measure_29 : decode cX2_measure 29 = .ok (.ishr, 1) := by decide +kernel
theorem dX2_measure_30 : decode cX2_measure 30 = .ok (.iconst 1, 1) := by decide +kernel
theorem dX2_measure_31 : decode cX2_measure 31 = .ok (.iand, 1) := by decide +kernel
theorem dX2_measure_32 : decode cX2_measure 32 = .ok (.iconst 1, 1) := by decide +kernel
theorem dX2_measure_33 : decode cX2_measure 33 = .ok (.if_icmp .ne 19, 3) := by decide +kernel
theorem dX2_measure_36 : decode cX2_measure 36 = .ok (.aload_n 0, 1) := by decide +kernel
theorem dX2_measure_37 : decode cX2_measure 37 = .ok (.getfield 9, 3) := by decide +kernel
theorem dX2_measure_40 : decode cX2_measure 40 = .ok (.iload_n 3, 1) := by decide +kernel
theorem dX2_measure_41 : decode cX2_measure 41 = .ok (.dup2, 1) := by decide +kernel
theorem dX2_measure_42 : decode cX2_measure 42 = .ok (.iaload, 1) := by decide +kernel
theorem dX2_measure_43 : decode cX2_measure 43 = .ok (.aload_n 1, 1) := by decide +kernel
theorem dX2_measure_44 : decode cX2_measure 44 = .ok (.getfield 63, 3) := by decide +kernel
theorem dX2_measure_47 : decode cX2_measure 47 = .ok (.iload 4, 2) := by decide +kernel
theorem dX2_measure_49 : decode cX2_measure 49 = .ok (.iaload, 1) := by decide +kernel
theorem dX2_measure_50 : decode cX2_measure 50 = .ok (.iadd, 1) := by decide +kernel
theorem dX2_measure_51 : decode cX2_measure 51 = .ok (.iastore, 1) := by decide +kernel
theorem dX2_measure_52 : decode cX2_measure 52 = .ok (.iinc 4 1, 3) := by decide +kernel
theorem dX2_measure_55 : decode cX2_measure 55 = .ok (.goto (-38), 3) := by decide +kernel
theorem dX2_measure_58 : decode cX2_measure 58 = .ok (.iinc 3 1, 3) := by decide +kernel
theorem dX2_measure_61 : decode cX2_measure 61 = .ok (.goto (-59), 3) := by decide +kernel
theorem dX2_measure_64 : decode cX2_measure 64 = .ok (.return_, 1) := by decide +kernel
theorem dX2_packWine_0 : decode cX2_packWine 0 = .ok (.iload_n 2, 1) := by decide +kernel
theorem dX2_packWine_1 : decode cX2_packWine 1 = .ok (.iconst 1, 1) := by decide +kernel
theorem dX2_packWine_2 : decode cX2_packWine 2 = .ok (.isub, 1) := by decide +kernel
theorem dX2_packWine_3 : decode cX2_packWine 3 = .ok (.istore_n 3, 1) := by decide +kernel
theorem dX2_packWine_4 : decode cX2_packWine 4 = .ok (.iload_n 3, 1) := by decide +kernel
theorem dX2_packWine_5 : decode cX2_packWine 5 = .ok (.ifCond .lt 21, 3) := by decide +kernel
theorem dX2_packWine_8 : decode cX2_packWine 8 = .ok (.aload_n 0, 1) := by decide +kernel
theorem dX2_packWine_9 : decode cX2_packWine 9 = .ok (.getfield 15, 3) := by decide +kernel
theorem dX2_packWine_12 : decode cX2_packWine 12 = .ok (.iload_n 3, 1) := by decide +kernel
theorem dX2_packWine_13 : decode cX2_packWine 13 = .ok (.aload_n 0, 1) := by decide +kernel
theorem dX2_packWine_14 : decode cX2_packWine 14 = .ok (.iload_n 1, 1) := by decide +kernel
theorem dX2_packWine_15 : decode cX2_packWine 15 = .ok (.iload_n 3, 1) := by decide +kernel
theorem dX2_packWine_16 : decode cX2_packWine 16 = .ok (.invokevirtual 66, 3) := by decide +kernel
theorem dX2_packWine_19 : decode cX2_packWine 19 = .ok (.bastore, 1) := by decide +kernel
theorem dX2_packWine_20 : decode cX2_packWine 20 = .ok (.iinc 3 (-1), 3) := by decide +kernel
theorem dX2_packWine_23 : decode cX2_packWine 23 = .ok (.goto (-19), 3) := by decide +kernel
theorem dX2_packWine_26 : decode cX2_packWine 26 = .ok (.return_, 1) := by decide +kernel
theorem dX2_canPack_0 : decode cX2_canPack 0 = .ok (.iload_n 2, 1) := by decide +kernel
theorem dX2_canPack_1 : decode cX2_canPack 1 = .ok (.istore_n 3, 1) := by decide +kernel
theorem dX2_canPack_2 : decode cX2_canPack 2 = .ok (.iconst 0, 1) := by decide +kernel
theorem dX2_canPack_3 : decode cX2_canPack 3 = .ok (.istore 4, 2) := by decide +kernel
theorem dX2_canPack_5 : decode cX2_canPack 5 = .ok (.iload 4, 2) := by decide +kernel
theorem dX2_canPack_7 : decode cX2_canPack 7 = .ok (.aload_n 0, 1) := by decide +kernel
theorem dX2_canPack_8 : decode cX2_canPack 8 = .ok (.getfield 15, 3) := by decide +kernel
theorem dX2_canPack_11 : decode cX2_canPack 11 = .ok (.arraylength, 1) := by decide +kernel
theorem dX2_canPack_12 : decode cX2_canPack 12 = .ok (.if_icmp .ge 42, 3) := by decide +kernel
theorem dX2_canPack_15 : decode cX2_canPack 15 = .ok (.iload_n 3, 1) := by decide +kernel
theorem dX2_canPack_16 : decode cX2_canPack 16 = .ok (.ifCond .le 38, 3) := by decide +kernel
theorem dX2_canPack_19 : decode cX2_canPack 19 = .ok (.aload_n 0, 1) := by decide +kernel
theorem dX2_canPack_20 : decode cX2_canPack 20 = .ok (.getfield 9, 3) := by decide +kernel
theorem dX2_canPack_23 : decode cX2_canPack 23 = .ok (.iload_n 3, 1) := by decide +kernel
theorem dX2_canPack_24 : decode cX2_canPack 24 = .ok (.iaload, 1) := by decide +kernel
theorem dX2_canPack_25 : decode cX2_canPack 25 = .ok (.iload_n 1, 1) := by decide +kernel
theorem dX2_canPack_26 : decode cX2_canPack 26 = .ok (.if_icmp .lt 16, 3) := by decide +kernel
theorem dX2_canPack_29 : decode cX2_canPack 29 = .ok (.aload_n 0, 1) := by decide +kernel
theorem dX2_canPack_30 : decode cX2_canPack 30 = .ok (.getfield 15, 3) := by decide +kernel
theorem dX2_canPack_33 : decode cX2_canPack 33 = .ok (.iload_n 2, 1) := by decide +kernel
theorem dX2_canPack_34 : decode cX2_canPack 34 = .ok (.iload_n 3, 1) := by decide +kernel
theorem dX2_canPack_35 : decode cX2_canPack 35 = .ok (.ixor, 1) := by decide +kernel
theorem dX2_canPack_36 : decode cX2_canPack 36 = .ok (.baload, 1) := by decide +kernel
theorem dX2_canPack_37 : decode cX2_canPack 37 = .ok (.ifCond .eq 5, 3) := by decide +kernel
theorem dX2_canPack_40 : decode cX2_canPack 40 = .ok (.iconst 1, 1) := by decide +kernel
theorem dX2_canPack_41 : decode cX2_canPack 41 = .ok (.ireturn, 1) := by decide +kernel
theorem dX2_canPack_42 : decode cX2_canPack 42 = .ok (.iload_n 3, 1) := by decide +kernel
theorem dX2_canPack_43 : decode cX2_canPack 43 = .ok (.iconst 1, 1) := by decide +kernel
theorem dX2_canPack_44 : decode cX2_canPack 44 = .ok (.isub, 1) := by decide +kernel
theorem dX2_canPack_45 : decode cX2_canPack 45 = .ok (.iload_n 2, 1) := by decide +kernel
theorem dX2_canPack_46 : decode cX2_canPack 46 = .ok (.iand, 1) := by decide +kernel
theorem dX2_canPack_47 : decode cX2_canPack 47 = .ok (.istore_n 3, 1) := by decide +kernel
theorem dX2_canPack_48 : decode cX2_canPack 48 = .ok (.iinc 4 1, 3) := by decide +kernel
theorem dX2_canPack_51 : decode cX2_canPack 51 = .ok (.goto (-46), 3) := by decide +kernel
theorem dX2_canPack_54 : decode cX2_canPack 54 = .ok (.iconst 0, 1) := by decide +kernel
theorem dX2_canPack_55 : decode cX2_canPack 55 = .ok (.ireturn, 1) := by decide +kernel
theorem dX1_init_0 : decode cX1_init 0 = .ok (.aload_n 0, 1) := by decide +kernel
theorem dX1_init_1 : decode cX1_init 1 = .ok (.invokespecial 3, 3) := by decide +kernel
theorem dX1_init_4 : decode cX1_init 4 = .ok (.aload_n 0, 1) := by decide +kernel
theorem dX1_init_5 : decode cX1_init 5 = .ok (.bipush 14, 2) := by decide +kernel
theorem dX1_init_7 : decode cX1_init 7 = .ok (.anewarray 9, 3) := by decide +kernel
theorem dX1_init_10 : decode cX1_init 10 = .ok (.putfield 11, 3) := by decide +kernel
theorem dX1_init_13 : decode cX1_init 13 = .ok (.iconst 0, 1) := by decide +kernel
theorem dX1_init_14 : decode cX1_init 14 = .ok (.istore_n 1, 1) := by decide +kernel
theorem dX1_init_15 : decode cX1_init 15 = .ok (.iload_n 1, 1) := by decide +kernel
theorem dX1_init_16 : decode cX1_init 16 = .ok (.bipush 14, 2) := by decide +kernel
theorem dX1_init_18 : decode cX1_init 18 = .ok (.if_icmp .ge 22, 3) := by decide +kernel
theorem dX1_init_21 : decode cX1_init 21 = .ok (.aload_n 0, 1) := by decide +kernel
theorem dX1_init_22 : decode cX1_init 22 = .ok (.getfield 11, 3) := by decide +kernel
theorem dX1_init_25 : decode cX1_init 25 = .ok (.iload_n 1, 1) := by decide +kernel
theorem dX1_init_26 : decode cX1_init 26 = .ok (.new 9, 3) := by decide +kernel
theorem dX1_init_29 : decode cX1_init 29 = .ok (.dup, 1) := by decide +kernel
theorem dX1_init_30 : decode cX1_init 30 = .ok (.invokespecial 17, 3) := by decide +kernel
theorem dX1_init_33 : decode cX1_init 33 = .ok (.aastore, 1) := by decide +kernel
theorem dX1_init_34 : decode cX1_init 34 = .ok (.iinc 1 1, 3) := by decide +kernel
theorem dX1_init_37 : decode cX1_init 37 = .ok (.goto (-22), 3) := by decide +kernel
theorem dX1_init_40 : decode cX1_init 40 = .ok (.return_, 1) := by decide +kernel
theorem dX1_remember_0 : decode cX1_remember 0 = .ok (.aload_n 0, 1) := by decide +kernel
theorem dX1_remember_1 : decode cX1_remember 1 = .ok (.getfield 18, 3) := by decide +kernel
theorem dX1_remember_4 : decode cX1_remember 4 = .ok (.bipush 14, 2) := by decide +kernel
theorem dX1_remember_6 : decode cX1_remember 6 = .ok (.if_icmp .ne 7, 3) := by decide +kernel
theorem dX1_remember_9 : decode cX1_remember 9 = .ok (.aload_n 0, 1) := by decide +kernel
theorem dX1_remember_10 : decode cX1_remember 10 = .ok (.invokevirtual 22, 3) := by decide +kernel
theorem dX1_remember_13 : decode cX1_remember 13 = .ok (.aload_n 0, 1) := by decide +kernel
theorem dX1_remember_14 : decode cX1_remember 14 = .ok (.getfield 11, 3) := by decide +kernel
theorem dX1_remember_17 : decode cX1_remember 17 = .ok (.aload_n 0, 1) := by decide +kernel
theorem dX1_remember_18 : decode cX1_remember 18 = .ok (.getfield 18, 3) := by decide +kernel
theorem dX1_remember_21 : decode cX1_remember 21 = .ok (.aaload, 1) := by decide +kernel
theorem dX1_remember_22 : decode cX1_remember 22 = .ok (.aload_n 1, 1) := by decide +kernel
theorem dX1_remember_23 : decode cX1_remember 23 = .ok (.invokevirtual 25, 3) := by decide +kernel
theorem dX1_remember_26 : decode cX1_remember 26 = .ok (.aload_n 0, 1) := by decide +kernel
theorem dX1_remember_27 : decode cX1_remember 27 = .ok (.dup, 1) := by decide +kernel
theorem dX1_remember_28 : decode cX1_remember 28 = .ok (.getfield 18, 3) := by decide +kernel
theorem dX1_remember_31 : decode cX1_remember 31 = .ok (.iconst 1, 1) := by decide +kernel
theorem dX1_remember_32 : decode cX1_remember 32 = .ok (.iadd, 1) := by decide +kernel
theorem dX1_remember_33 : decode cX1_remember 33 = .ok (.putfield 18, 3) := by decide +kernel
theorem dX1_remember_36 : decode cX1_remember 36 = .ok (.return_, 1) := by decide +kernel
theorem dX1_forgetOldest_0 : decode cX1_forgetOldest 0 = .ok (.aload_n 0, 1) := by decide +kernel
theorem dX1_forgetOldest_1 : decode cX1_forgetOldest 1 = .ok (.getfield 11, 3) := by decide +kernel
theorem dX1_forgetOldest_4 : decode cX1_forgetOldest 4 = .ok (.iconst 0, 1) := by decide +kernel
theorem dX1_forgetOldest_5 : decode cX1_forgetOldest 5 = .ok (.aaload, 1) := by decide +kernel
theorem dX1_forgetOldest_6 : decode cX1_forgetOldest 6 = .ok (.astore_n 1, 1) := by decide +kernel
theorem dX1_forgetOldest_7 : decode cX1_forgetOldest 7 = .ok (.iconst 1, 1) := by decide +kernel
theorem dX1_forgetOldest_8 : decode cX1_forgetOldest 8 = .ok (.istore_n 2, 1) := by decide +kernel
theorem dX1_forgetOldest_9 : decode cX1_forgetOldest 9 = .ok (.iload_n 2, 1) := by decide +kernel
theorem dX1_forgetOldest_10 : decode cX1_forgetOldest 10 = .ok (.bipush 14, 2) := by decide +kernel
theorem dX1_forgetOldest_12 : decode cX1_forgetOldest 12 = .ok (.if_icmp .ge 23, 3) := by decide +kernel
theorem dX1_forgetOldest_15 : decode cX1_forgetOldest 15 = .ok (.aload_n 0, 1) := by decide +kernel
theorem dX1_forgetOldest_16 : decode cX1_forgetOldest 16 = .ok (.getfield 11, 3) := by decide +kernel
theorem dX1_forgetOldest_19 : decode cX1_forgetOldest 19 = .ok (.iload_n 2, 1) := by decide +kernel
theorem dX1_forgetOldest_20 : decode cX1_forgetOldest 20 = .ok (.iconst 1, 1) := by decide +kernel
theorem dX1_forgetOldest_21 : decode cX1_forgetOldest 21 = .ok (.isub, 1) := by decide +kernel
theorem dX1_forgetOldest_22 : decode cX1_forgetOldest 22 = .ok (.aload_n 0, 1) := by decide +kernel
theorem dX1_forgetOldest_23 : decode cX1_forgetOldest 23 = .ok (.getfield 11, 3) := by decide +kernel
theorem dX1_forgetOldest_26 : decode cX1_forgetOldest 26 = .ok (.iload_n 2, 1) := by decide +kernel
theorem dX1_forgetOldest_27 : decode cX1_forgetOldest 27 = .ok (.aaload, 1) := by decide +kernel
theorem dX1_forgetOldest_28 : decode cX1_forgetOldest 28 = .ok (.aastore, 1) := by decide +kernel
theorem dX1_forgetOldest_29 : decode cX1_forgetOldest 29 = .ok (.iinc 2 1, 3) := by decide +kernel
theorem dX1_forgetOldest_32 : decode cX1_forgetOldest 32 = .ok (.goto (-23), 3) := by decide +kernel
theorem dX1_forgetOldest_35 : decode cX1_forgetOldest 35 = .ok (.aload_n 0, 1) := by decide +kernel
theorem dX1_forgetOldest_36 : decode cX1_forgetOldest 36 = .ok (.getfield 11, 3) := by decide +kernel
theorem dX1_forgetOldest_39 : decode cX1_forgetOldest 39 = .ok (.bipush 13, 2) := by decide +kernel
theorem dX1_forgetOldest_41 : decode cX1_forgetOldest 41 = .ok (.aload_n 1, 1) := by decide +kernel
theorem dX1_forgetOldest_42 : decode cX1_forgetOldest 42 = .ok (.aastore, 1) := by decide +kernel
theorem dX1_forgetOldest_43 : decode cX1_forgetOldest 43 = .ok (.aload_n 0, 1) := by decide +kernel
theorem dX1_forgetOldest_44 : decode cX1_forgetOldest 44 = .ok (.dup, 1) := by decide +kernel
theorem dX1_forgetOldest_45 : decode cX1_forgetOldest 45 = .ok (.getfield 18, 3) := by decide +kernel
theorem dX1_forgetOldest_48 : decode cX1_forgetOldest 48 = .ok (.iconst 1, 1) := by decide +kernel
theorem dX1_forgetOldest_49 : decode cX1_forgetOldest 49 = .ok (.isub, 1) := by decide +kernel
theorem dX1_forgetOldest_50 : decode cX1_forgetOldest 50 = .ok (.putfield 18, 3) := by decide +kernel
theorem dX1_forgetOldest_53 : decode cX1_forgetOldest 53 = .ok (.return_, 1) := by decide +kernel
theorem dX1_takeBack_0 : decode cX1_takeBack 0 = .ok (.aload_n 0, 1) := by decide +kernel
theorem dX1_takeBack_1 : decode cX1_takeBack 1 = .ok (.getfield 18, 3) := by decide +kernel
theorem dX1_takeBack_4 : decode cX1_takeBack 4 = .ok (.ifCond .le 26, 3) := by decide +kernel
theorem dX1_takeBack_7 : decode cX1_takeBack 7 = .ok (.aload_n 0, 1) := by decide +kernel
theorem dX1_takeBack_8 : decode cX1_takeBack 8 = .ok (.dup, 1) := by decide +kernel
theorem dX1_takeBack_9 : decode cX1_takeBack 9 = .ok (.getfield 18, 3) := by decide +kernel
theorem dX1_takeBack_12 : decode cX1_takeBack 12 = .ok (.iconst 1, 1) := by decide +kernel
theorem dX1_takeBack_13 : decode cX1_takeBack 13 = .ok (.isub, 1) := by decide +kernel
theorem dX1_takeBack_14 : decode cX1_takeBack 14 = .ok (.putfield 18, 3) := by decide +kernel
theorem dX1_takeBack_17 : decode cX1_takeBack 17 = .ok (.aload_n 1, 1) := by decide +kernel
theorem dX1_takeBack_18 : decode cX1_takeBack 18 = .ok (.aload_n 0, 1) := by decide +kernel
theorem dX1_takeBack_19 : decode cX1_takeBack 19 = .ok (.getfield 11, 3) := by decide +kernel
theorem dX1_takeBack_22 : decode cX1_takeBack 22 = .ok (.aload_n 0, 1) := by decide +kernel
theorem dX1_takeBack_23 : decode cX1_takeBack 23 = .ok (.getfield 18, 3) := by decide +kernel
theorem dX1_takeBack_26 : decode cX1_takeBack 26 = .ok (.aaload, 1) := by decide +kernel
theorem dX1_takeBack_27 : decode cX1_takeBack 27 = .ok (.invokevirtual 25, 3) := by decide +kernel
theorem dX1_takeBack_30 : decode cX1_takeBack 30 = .ok (.aload_n 0, 1) := by decide +kernel
theorem dX1_takeBack_31 : decode cX1_takeBack 31 = .ok (.getfield 18, 3) := by decide +kernel
theorem dX1_takeBack_34 : decode cX1_takeBack 34 = .ok (.ireturn, 1) := by decide +kernel
theorem dX1_forgetAll_0 : decode cX1_forgetAll 0 = .ok (.aload_n 0, 1) := by decide +kernel
theorem dX1_forgetAll_1 : decode cX1_forgetAll 1 = .ok (.iconst 0, 1) := by decide +kernel
theorem dX1_forgetAll_2 : decode cX1_forgetAll 2 = .ok (.putfield 18, 3) := by decide +kernel
theorem dX1_forgetAll_5 : decode cX1_forgetAll 5 = .ok (.return_, 1) := by decide +kernel
theorem dX0_init_0 : decode cX0_init 0 = .ok (.aload_n 0, 1) := by decide +kernel
theorem dX0_init_1 : decode cX0_init 1 = .ok (.invokespecial 3, 3) := by decide +kernel
theorem dX0_init_4 : decode cX0_init 4 = .ok (.aload_n 0, 1) := by decide +kernel
theorem dX0_init_5 : decode cX0_init 5 = .ok (.bipush 6, 2) := by decide +kernel
theorem dX0_init_7 : decode cX0_init 7 = .ok (.newarray .int, 2) := by decide +kernel
theorem dX0_init_9 : decode cX0_init 9 = .ok (.putfield 9, 3) := by decide +kernel
theorem dX0_init_12 : decode cX0_init 12 = .ok (.aload_n 0, 1) := by decide +kernel
theorem dX0_init_13 : decode cX0_init 13 = .ok (.bipush 6, 2) := by decide +kernel
theorem dX0_init_15 : decode cX0_init 15 = .ok (.newarray .int, 2) := by decide +kernel
theorem dX0_init_17 : decode cX0_init 17 = .ok (.putfield 15, 3) := by decide +kernel
theorem dX0_init_20 : decode cX0_init 20 = .ok (.aload_n 0, 1) := by decide +kernel
theorem dX0_init_21 : decode cX0_init 21 = .ok (.bipush 6, 2) := by decide +kernel
theorem dX0_init_23 : decode cX0_init 23 = .ok (.newarray .int, 2) := by decide +kernel
theorem dX0_init_25 : decode cX0_init 25 = .ok (.putfield 18, 3) := by decide +kernel
theorem dX0_init_28 : decode cX0_init 28 = .ok (.aload_n 0, 1) := by decide +kernel
theorem dX0_init_29 : decode cX0_init 29 = .ok (.bipush 6, 2) := by decide +kernel
theorem dX0_init_31 : decode cX0_init 31 = .ok (.newarray .int, 2) := by decide +kernel
theorem dX0_init_33 : decode cX0_init 33 = .ok (.putfield 21, 3) := by decide +kernel
theorem dX0_init_36 : decode cX0_init 36 = .ok (.aload_n 0, 1) := by decide +kernel
theorem dX0_init_37 : decode cX0_init 37 = .ok (.bipush 6, 2) := by decide +kernel
theorem dX0_init_39 : decode cX0_init 39 = .ok (.newarray .int, 2) := by decide +kernel
theorem dX0_init_41 : decode cX0_init 41 = .ok (.putfield 24, 3) := by decide +kernel
theorem dX0_init_44 : decode cX0_init 44 = .ok (.aload_n 0, 1) := by decide +kernel
theorem dX0_init_45 : decode cX0_init 45 = .ok (.bipush 6, 2) := by decide +kernel
theorem dX0_init_47 : decode cX0_init 47 = .ok (.newarray .int, 2) := by decide +kernel
theorem dX0_init_49 : decode cX0_init 49 = .ok (.putfield 27, 3) := by decide +kernel
theorem dX0_init_52 : decode cX0_init 52 = .ok (.aload_n 0, 1) := by decide +kernel
theorem dX0_init_53 : decode cX0_init 53 = .ok (.bipush 6, 2) := by decide +kernel
theorem dX0_init_55 : decode cX0_init 55 = .ok (.newarray .int, 2) := by decide +kernel
theorem dX0_init_57 : decode cX0_init 57 = .ok (.putfield 30, 3) := by decide +kernel
theorem dX0_init_60 : decode cX0_init 60 = .ok (.aload_n 0, 1) := by decide +kernel
theorem dX0_init_61 : decode cX0_init 61 = .ok (.new 33, 3) := by decide +kernel
theorem dX0_init_64 : decode cX0_init 64 = .ok (.dup, 1) := by decide +kernel
theorem dX0_init_65 : decode cX0_init 65 = .ok (.invokespecial 35, 3) := by decide +kernel
theorem dX0_init_68 : decode cX0_init 68 = .ok (.putfield 36, 3) := by decide +kernel
theorem dX0_init_71 : decode cX0_init 71 = .ok (.aload_n 0, 1) := by decide +kernel
theorem dX0_init_72 : decode cX0_init 72 = .ok (.new 33, 3) := by decide +kernel
theorem dX0_init_75 : decode cX0_init 75 = .ok (.dup, 1) := by decide +kernel
theorem dX0_init_76 : decode cX0_init 76 = .ok (.invokespecial 35, 3) := by decide +kernel
theorem dX0_init_79 : decode cX0_init 79 = .ok (.putfield 40, 3) := by decide +kernel
theorem dX0_init_82 : decode cX0_init 82 = .ok (.aload_n 0, 1) := by decide +kernel
theorem dX0_init_83 : decode cX0_init 83 = .ok (.new 33, 3) := by decide +kernel
theorem dX0_init_86 : decode cX0_init 86 = .ok (.dup, 1) := by decide +kernel
theorem dX0_init_87 : decode cX0_init 87 = .ok (.invokespecial 35, 3) := by decide +kernel
theorem dX0_init_90 : decode cX0_init 90 = .ok (.putfield 43, 3) := by decide +kernel
theorem dX0_init_93 : decode cX0_init 93 = .ok (.aload_n 0, 1) := by decide +kernel
theorem dX0_init_94 : decode cX0_init 94 = .ok (.new 33, 3) := by decide +kernel
theorem dX0_init_97 : decode cX0_init 97 = .ok (.dup, 1) := by decide +kernel
theorem dX0_init_98 : decode cX0_init 98 = .ok (.invokespecial 35, 3) := by decide +kernel
theorem dX0_init_101 : decode cX0_init 101 = .ok (.putfield 46, 3) := by decide +kernel
theorem dX0_init_104 : decode cX0_init 104 = .ok (.aload_n 0, 1) := by decide +kernel
theorem dX0_init_105 : decode cX0_init 105 = .ok (.new 49, 3) := by decide +kernel
theorem dX0_init_108 : decode cX0_init 108 = .ok (.dup, 1) := by decide +kernel
theorem dX0_init_109 : decode cX0_init 109 = .ok (.invokespecial 51, 3) := by decide +kernel
theorem dX0_init_112 : decode cX0_init 112 = .ok (.putfield 52, 3) := by decide +kernel
theorem dX0_init_115 : decode cX0_init 115 = .ok (.return_, 1) := by decide +kernel
theorem dX0_knowsMember_0 : decode cX0_knowsMember 0 = .ok (.iload_n 1, 1) := by decide +kernel
theorem dX0_knowsMember_1 : decode cX0_knowsMember 1 = .ok (.ifCond .lt 15, 3) := by decide +kernel
theorem dX0_knowsMember_4 : decode cX0_knowsMember 4 = .ok (.iload_n 1, 1) := by decide +kernel
theorem dX0_knowsMember_5 : decode cX0_knowsMember 5 = .ok (.aload_n 0, 1) := by decide +kernel
theorem dX0_knowsMember_6 : decode cX0_knowsMember 6 = .ok (.getfield 56, 3) := by decide +kernel
theorem dX0_knowsMember_9 : decode cX0_knowsMember 9 = .ok (.if_icmp .ge 7, 3) := by decide +kernel
theorem dX0_knowsMember_12 : decode cX0_knowsMember 12 = .ok (.iconst 1, 1) := by decide +kernel
theorem dX0_knowsMember_13 : decode cX0_knowsMember 13 = .ok (.goto 4, 3) := by decide +kernel
theorem dX0_knowsMember_16 : decode cX0_knowsMember 16 = .ok (.iconst 0, 1) := by decide +kernel
theorem dX0_knowsMember_17 : decode cX0_knowsMember 17 = .ok (.ireturn, 1) := by decide +kernel
theorem dX0_knowsWine_0 : decode cX0_knowsWine 0 = .ok (.iload_n 1, 1) := by decide +kernel
theorem dX0_knowsWine_1 : decode cX0_knowsWine 1 = .ok (.ifCond .lt 15, 3) := by decide +kernel
theorem dX0_knowsWine_4 : decode cX0_knowsWine 4 = .ok (.iload_n 1, 1) := by decide +kernel
theorem dX0_knowsWine_5 : decode cX0_knowsWine 5 = .ok (.aload_n 0, 1) := by decide +kernel
theorem dX0_knowsWine_6 : decode cX0_knowsWine 6 = .ok (.getfield 60, 3) := by decide +kernel
theorem dX0_knowsWine_9 : decode cX0_knowsWine 9 = .ok (.if_icmp .ge 7, 3) := by decide +kernel
theorem dX0_knowsWine_12 : decode cX0_knowsWine 12 = .ok (.iconst 1, 1) := by decide +kernel
theorem dX0_knowsWine_13 : decode cX0_knowsWine 13 = .ok (.goto 4, 3) := by decide +kernel
theorem dX0_knowsWine_16 : decode cX0_knowsWine 16 = .ok (.iconst 0, 1) := by decide +kernel
theorem dX0_knowsWine_17 : decode cX0_knowsWine 17 = .ok (.ireturn, 1) := by decide +kernel
theorem dX0_knowsBoth_0 : decode cX0_knowsBoth 0 = .ok (.aload_n 0, 1) := by decide +kernel
theorem dX0_knowsBoth_1 : decode cX0_knowsBoth 1 = .ok (.iload_n 1, 1) := by decide +kernel
theorem dX0_knowsBoth_2 : decode cX0_knowsBoth 2 = .ok (.invokevirtual 63, 3) := by decide +kernel
theorem dX0_knowsBoth_5 : decode cX0_knowsBoth 5 = .ok (.ifCond .eq 15, 3) := by decide +kernel
theorem dX0_knowsBoth_8 : decode cX0_knowsBoth 8 = .ok (.aload_n 0, 1) := by decide +kernel
theorem dX0_knowsBoth_9 : decode cX0_knowsBoth 9 = .ok (.iload_n 2, 1) := by decide +kernel
theorem dX0_knowsBoth_10 : decode cX0_knowsBoth 10 = .ok (.invokevirtual 67, 3) := by decide +kernel
theorem dX0_knowsBoth_13 : decode cX0_knowsBoth 13 = .ok (.ifCond .eq 7, 3) := by decide +kernel
theorem dX0_knowsBoth_16 : decode cX0_knowsBoth 16 = .ok (.iconst 1, 1) := by decide +kernel
theorem dX0_knowsBoth_17 : decode cX0_knowsBoth 17 = .ok (.goto 4, 3) := by decide +kernel
theorem dX0_knowsBoth_20 : decode cX0_knowsBoth 20 = .ok (.iconst 0, 1) := by decide +kernel
theorem dX0_knowsBoth_21 : decode cX0_knowsBoth 21 = .ok (.ireturn, 1) := by decide +kernel
theorem dX0_factOfAll_0 : decode cX0_factOfAll 0 = .ok (.iload_n 1, 1) := by decide +kernel
theorem dX0_factOfAll_1 : decode cX0_factOfAll 1 = .ok (.tableswitch 117 0 8 #[51, 56, 61, 69, 77, 85, 93, 101, 109], 51) := by decide +kernel
theorem dX0_factOfAll_52 : decode cX0_factOfAll 52 = .ok (.aload_n 0, 1) := by decide +kernel
theorem dX0_factOfAll_53 : decode cX0_factOfAll 53 = .ok (.getfield 56, 3) := by decide +kernel
theorem dX0_factOfAll_56 : decode cX0_factOfAll 56 = .ok (.ireturn, 1) := by decide +kernel
theorem dX0_factOfAll_57 : decode cX0_factOfAll 57 = .ok (.aload_n 0, 1) := by decide +kernel
theorem dX0_factOfAll_58 : decode cX0_factOfAll 58 = .ok (.getfield 60, 3) := by decide +kernel
theorem dX0_factOfAll_61 : decode cX0_factOfAll 61 = .ok (.ireturn, 1) := by decide +kernel
theorem dX0_factOfAll_62 : decode cX0_factOfAll 62 = .ok (.aload_n 0, 1) := by decide +kernel
theorem dX0_factOfAll_63 : decode cX0_factOfAll 63 = .ok (.getfield 52, 3) := by decide +kernel
theorem dX0_factOfAll_66 : decode cX0_factOfAll 66 = .ok (.getfield 70, 3) := by decide +kernel
theorem dX0_factOfAll_69 : decode cX0_factOfAll 69 = .ok (.ireturn, 1) := by decide +kernel
theorem dX0_factOfAll_70 : decode cX0_factOfAll 70 = .ok (.aload_n 0, 1) := by decide +kernel
theorem dX0_factOfAll_71 : decode cX0_factOfAll 71 = .ok (.getfield 43, 3) := by decide +kernel
theorem dX0_factOfAll_74 : decode cX0_factOfAll 74 = .ok (.invokevirtual 73, 3) := by decide +kernel
theorem dX0_factOfAll_77 : decode cX0_factOfAll 77 = .ok (.ireturn, 1) := by decide +kernel
theorem dX0_factOfAll_78 : decode cX0_factOfAll 78 = .ok (.aload_n 0, 1) := by decide +kernel
theorem dX0_factOfAll_79 : decode cX0_factOfAll 79 = .ok (.getfield 46, 3) := by decide +kernel
theorem dX0_factOfAll_82 : decode cX0_factOfAll 82 = .ok (.invokevirtual 73, 3) := by decide +kernel
theorem dX0_factOfAll_85 : decode cX0_factOfAll 85 = .ok (.ireturn, 1) := by decide +kernel
theorem dX0_factOfAll_86 : decode cX0_factOfAll 86 = .ok (.aload_n 0, 1) := by decide +kernel
theorem dX0_factOfAll_87 : decode cX0_factOfAll 87 = .ok (.getfield 30, 3) := by decide +kernel
theorem dX0_factOfAll_90 : decode cX0_factOfAll 90 = .ok (.invokestatic 77, 3) := by decide +kernel
theorem dX0_factOfAll_93 : decode cX0_factOfAll 93 = .ok (.ireturn, 1) := by decide +kernel
theorem dX0_factOfAll_94 : decode cX0_factOfAll 94 = .ok (.aload_n 0, 1) := by decide +kernel
theorem dX0_factOfAll_95 : decode cX0_factOfAll 95 = .ok (.getfield 24, 3) := by decide +kernel
theorem dX0_factOfAll_98 : decode cX0_factOfAll 98 = .ok (.invokestatic 77, 3) := by decide +kernel
theorem dX0_factOfAll_101 : decode cX0_factOfAll 101 = .ok (.ireturn, 1) := by decide +kernel
theorem dX0_factOfAll_102 : decode cX0_factOfAll 102 = .ok (.aload_n 0, 1) := by decide +kernel
theorem dX0_factOfAll_103 : decode cX0_factOfAll 103 = .ok (.getfield 15, 3) := by decide +kernel
theorem dX0_factOfAll_106 : decode cX0_factOfAll 106 = .ok (.invokestatic 77, 3) := by decide +kernel
theorem dX0_factOfAll_109 : decode cX0_factOfAll 109 = .ok (.ireturn, 1) := by decide +kernel
theorem dX0_factOfAll_110 : decode cX0_factOfAll 110 = .ok (.aload_n 0, 1) := by decide +kernel
theorem dX0_factOfAll_111 : decode cX0_factOfAll 111 = .ok (.getfield 52, 3) := by decide +kernel
theorem dX0_factOfAll_114 : decode cX0_factOfAll 114 = .ok (.invokevirtual 81, 3) := by decide +kernel
theorem dX0_factOfAll_117 : decode cX0_factOfAll 117 = .ok (.ireturn, 1) := by decide +kernel
theorem dX0_factOfAll_118 : decode cX0_factOfAll 118 = .ok (.aload_n 0, 1) := by decide +kernel
theorem dX0_factOfAll_119 : decode cX0_factOfAll 119 = .ok (.getfield 52, 3) := by decide +kernel
theorem dX0_factOfAll_122 : decode cX0_factOfAll 122 = .ok (.invokevirtual 84, 3) := by decide +kernel
theorem dX0_factOfAll_125 : decode cX0_factOfAll 125 = .ok (.ireturn, 1) := by decide +kernel
theorem dX0_factOfMember_0 : decode cX0_factOfMember 0 = .ok (.iload_n 2, 1) := by decide +kernel
theorem dX0_factOfMember_1 : decode cX0_factOfMember 1 = .ok (.tableswitch 50 0 2 #[27, 34, 41], 27) := by decide +kernel
theorem dX0_factOfMember_28 : decode cX0_factOfMember 28 = .ok (.aload_n 0, 1) := by decide +kernel
theorem dX0_factOfMember_29 : decode cX0_factOfMember 29 = .ok (.getfield 9, 3) := by decide +kernel
theorem dX0_factOfMember_32 : decode cX0_factOfMember 32 = .ok (.iload_n 1, 1) := by decide +kernel
theorem dX0_factOfMember_33 : decode cX0_factOfMember 33 = .ok (.iaload, 1) := by decide +kernel
theorem dX0_factOfMember_34 : decode cX0_factOfMember 34 = .ok (.ireturn, 1) := by decide +kernel
theorem dX0_factOfMember_35 : decode cX0_factOfMember 35 = .ok (.aload_n 0, 1) := by decide +kernel
theorem dX0_factOfMember_36 : decode cX0_factOfMember 36 = .ok (.getfield 15, 3) := by decide +kernel
theorem dX0_factOfMember_39 : decode cX0_factOfMember 39 = .ok (.iload_n 1, 1) := by decide +kernel
theorem dX0_factOfMember_40 : decode cX0_factOfMember 40 = .ok (.iaload, 1) := by decide +kernel
theorem dX0_factOfMember_41 : decode cX0_factOfMember 41 = .ok (.ireturn, 1) := by decide +kernel
theorem dX0_factOfMember_42 : decode cX0_factOfMember 42 = .ok (.aload_n 0, 1) := by decide +kernel
theorem dX0_factOfMember_43 : decode cX0_factOfMember 43 = .ok (.getfield 43, 3) := by decide +kernel
theorem dX0_factOfMember_46 : decode cX0_factOfMember 46 = .ok (.iload_n 1, 1) := by decide +kernel
theorem dX0_factOfMember_47 : decode cX0_factOfMember 47 = .ok (.invokevirtual 87, 3) := by decide +kernel
theorem dX0_factOfMember_50 : decode cX0_factOfMember 50 = .ok (.ireturn, 1) := by decide +kernel
theorem dX0_factOfMember_51 : decode cX0_factOfMember 51 = .ok (.aload_n 0, 1) := by decide +kernel
theorem dX0_factOfMember_52 : decode cX0_factOfMember 52 = .ok (.getfield 46, 3) := by decide +kernel
theorem dX0_factOfMember_55 : decode cX0_factOfMember 55 = .ok (.iload_n 1, 1) := by decide +kernel
theorem dX0_factOfMember_56 : decode cX0_factOfMember 56 = .ok (.invokevirtual 87, 3) := by decide +kernel
theorem dX0_factOfMember_59 : decode cX0_factOfMember 59 = .ok (.ireturn, 1) := by decide +kernel
theorem dX0_factOfWine_0 : decode cX0_factOfWine 0 = .ok (.iload_n 2, 1) := by decide +kernel
theorem dX0_factOfWine_1 : decode cX0_factOfWine 1 = .ok (.tableswitch 109 0 7 #[47, 54, 61, 68, 75, 84, 93, 100], 47) := by decide +kernel
theorem dX0_factOfWine_48 : decode cX0_factOfWine 48 = .ok (.aload_n 0, 1) := by decide +kernel
theorem dX0_factOfWine_49 : decode cX0_factOfWine 49 = .ok (.getfield 18, 3) := by decide +kernel
theorem dX0_factOfWine_52 : decode cX0_factOfWine 52 = .ok (.iload_n 1, 1) := by decide +kernel
theorem dX0_factOfWine_53 : decode cX0_factOfWine 53 = .ok (.iaload, 1) := by decide +kernel
theorem dX0_factOfWine_54 : decode cX0_factOfWine 54 = .ok (.ireturn, 1) := by decide +kernel
theorem dX0_factOfWine_55 : decode cX0_factOfWine 55 = .ok (.aload_n 0, 1) := by decide +kernel
theorem dX0_factOfWine_56 : decode cX0_factOfWine 56 = .ok (.getfield 21, 3) := by decide +kernel
theorem dX0_factOfWine_59 : decode cX0_factOfWine 59 = .ok (.iload_n 1, 1) := by decide +kernel
theorem dX0_factOfWine_60 : decode cX0_factOfWine 60 = .ok (.iaload, 1) := by decide +kernel
theorem dX0_factOfWine_61 : decode cX0_factOfWine 61 = .ok (.ireturn, 1) := by decide +kernel
theorem dX0_factOfWine_62 : decode cX0_factOfWine 62 = .ok (.aload_n 0, 1) := by decide +kernel
theorem dX0_factOfWine_63 : decode cX0_factOfWine 63 = .ok (.getfield 24, 3) := by decide +kernel
theorem dX0_factOfWine_66 : decode cX0_factOfWine 66 = .ok (.iload_n 1, 1) := by decide +kernel
theorem dX0_factOfWine_67 : decode cX0_factOfWine 67 = .ok (.iaload, 1) := by decide +kernel
theorem dX0_factOfWine_68 : decode cX0_factOfWine 68 = .ok (.ireturn, 1) := by decide +kernel
theorem dX0_factOfWine_69 : decode cX0_factOfWine 69 = .ok (.aload_n 0, 1) := by decide +kernel
theorem dX0_factOfWine_70 : decode cX0_factOfWine 70 = .ok (.getfield 27, 3) := by decide +kernel
theorem dX0_factOfWine_73 : decode cX0_factOfWine 73 = .ok (.iload_n 1, 1) := by decide +kernel
theorem dX0_factOfWine_74 : decode cX0_factOfWine 74 = .ok (.iaload, 1) := by decide +kernel
theorem dX0_factOfWine_75 : decode cX0_factOfWine 75 = .ok (.ireturn, 1) := by decide +kernel
theorem dX0_factOfWine_76 : decode cX0_factOfWine 76 = .ok (.aload_n 0, 1) := by decide +kernel
theorem dX0_factOfWine_77 : decode cX0_factOfWine 77 = .ok (.getfield 43, 3) := by decide +kernel
theorem dX0_factOfWine_80 : decode cX0_factOfWine 80 = .ok (.iload_n 1, 1) := by decide +kernel
theorem dX0_factOfWine_81 : decode cX0_factOfWine 81 = .ok (.invokevirtual 91, 3) := by decide +kernel
theorem dX0_factOfWine_84 : decode cX0_factOfWine 84 = .ok (.ireturn, 1) := by decide +kernel
theorem dX0_factOfWine_85 : decode cX0_factOfWine 85 = .ok (.aload_n 0, 1) := by decide +kernel
theorem dX0_factOfWine_86 : decode cX0_factOfWine 86 = .ok (.getfield 46, 3) := by decide +kernel
theorem dX0_factOfWine_89 : decode cX0_factOfWine 89 = .ok (.iload_n 1, 1) := by decide +kernel
theorem dX0_factOfWine_90 : decode cX0_factOfWine 90 = .ok (.invokevirtual 91, 3) := by decide +kernel
theorem dX0_factOfWine_93 : decode cX0_factOfWine 93 = .ok (.ireturn, 1) := by decide +kernel
theorem dX0_factOfWine_94 : decode cX0_factOfWine 94 = .ok (.aload_n 0, 1) := by decide +kernel
theorem dX0_factOfWine_95 : decode cX0_factOfWine 95 = .ok (.getfield 30, 3) := by decide +kernel
theorem dX0_factOfWine_98 : decode cX0_factOfWine 98 = .ok (.iload_n 1, 1) := by decide +kernel
theorem dX0_factOfWine_99 : decode cX0_factOfWine 99 = .ok (.iaload, 1) := by decide +kernel
theorem dX0_factOfWine_100 : decode cX0_factOfWine 100 = .ok (.ireturn, 1) := by decide +kernel
theorem dX0_factOfWine_101 : decode cX0_factOfWine 101 = .ok (.aload_n 0, 1) := by decide +kernel
theorem dX0_factOfWine_102 : decode cX0_factOfWine 102 = .ok (.getfield 40, 3) := by decide +kernel
theorem dX0_factOfWine_105 : decode cX0_factOfWine 105 = .ok (.iload_n 1, 1) := by decide +kernel
theorem dX0_factOfWine_106 : decode cX0_factOfWine 106 = .ok (.invokevirtual 91, 3) := by decide +kernel
theorem dX0_factOfWine_109 : decode cX0_factOfWine 109 = .ok (.ireturn, 1) := by decide +kernel
theorem dX0_factOfWine_110 : decode cX0_factOfWine 110 = .ok (.aload_n 0, 1) := by decide +kernel
theorem dX0_factOfWine_111 : decode cX0_factOfWine 111 = .ok (.getfield 36, 3) := by decide +kernel
theorem dX0_factOfWine_114 : decode cX0_factOfWine 114 = .ok (.iload_n 1, 1) := by decide +kernel
theorem dX0_factOfWine_115 : decode cX0_factOfWine 115 = .ok (.invokevirtual 91, 3) := by decide +kernel
theorem dX0_factOfWine_118 : decode cX0_factOfWine 118 = .ok (.ireturn, 1) := by decide +kernel
theorem dX0_factOfBoth_0 : decode cX0_factOfBoth 0 = .ok (.iload_n 3, 1) := by decide +kernel
theorem dX0_factOfBoth_1 : decode cX0_factOfBoth 1 = .ok (.lookupswitch 47 #[(0, 27), (1, 37)], 27) := by decide +kernel
theorem dX0_factOfBoth_28 : decode cX0_factOfBoth 28 = .ok (.aload_n 0, 1) := by decide +kernel
theorem dX0_factOfBoth_29 : decode cX0_factOfBoth 29 = .ok (.getfield 36, 3) := by decide +kernel
theorem dX0_factOfBoth_32 : decode cX0_factOfBoth 32 = .ok (.iload_n 1, 1) := by decide +kernel
theorem dX0_factOfBoth_33 : decode cX0_factOfBoth 33 = .ok (.iload_n 2, 1) := by decide +kernel
theorem dX0_factOfBoth_34 : decode cX0_factOfBoth 34 = .ok (.invokevirtual 94, 3) := by decide +kernel
theorem dX0_factOfBoth_37 : decode cX0_factOfBoth 37 = .ok (.ireturn, 1) := by decide +kernel
theorem dX0_factOfBoth_38 : decode cX0_factOfBoth 38 = .ok (.aload_n 0, 1) := by decide +kernel
theorem dX0_factOfBoth_39 : decode cX0_factOfBoth 39 = .ok (.getfield 40, 3) := by decide +kernel
theorem dX0_factOfBoth_42 : decode cX0_factOfBoth 42 = .ok (.iload_n 1, 1) := by decide +kernel
theorem dX0_factOfBoth_43 : decode cX0_factOfBoth 43 = .ok (.iload_n 2, 1) := by decide +kernel
theorem dX0_factOfBoth_44 : decode cX0_factOfBoth 44 = .ok (.invokevirtual 94, 3) := by decide +kernel
theorem dX0_factOfBoth_47 : decode cX0_factOfBoth 47 = .ok (.ireturn, 1) := by decide +kernel
theorem dX0_factOfBoth_48 : decode cX0_factOfBoth 48 = .ok (.aload_n 0, 1) := by decide +kernel
theorem dX0_factOfBoth_49 : decode cX0_factOfBoth 49 = .ok (.getfield 43, 3) := by decide +kernel
theorem dX0_factOfBoth_52 : decode cX0_factOfBoth 52 = .ok (.iload_n 1, 1) := by decide +kernel
theorem dX0_factOfBoth_53 : decode cX0_factOfBoth 53 = .ok (.iload_n 2, 1) := by decide +kernel
theorem dX0_factOfBoth_54 : decode cX0_factOfBoth 54 = .ok (.invokevirtual 94, 3) := by decide +kernel
theorem dX0_factOfBoth_57 : decode cX0_factOfBoth 57 = .ok (.ireturn, 1) := by decide +kernel
theorem dX0_memberFault_0 : decode cX0_memberFault 0 = .ok (.iload_n 1, 1) := by decide +kernel
theorem dX0_memberFault_1 : decode cX0_memberFault 1 = .ok (.ifCond .lt 10, 3) := by decide +kernel
theorem dX0_memberFault_4 : decode cX0_memberFault 4 = .ok (.iload_n 1, 1) := by decide +kernel
theorem dX0_memberFault_5 : decode cX0_memberFault 5 = .ok (.sipush 999, 3) := by decide +kernel
theorem dX0_memberFault_8 : decode cX0_memberFault 8 = .ok (.if_icmp .le 5, 3) := by decide +kernel
theorem dX0_memberFault_11 : decode cX0_memberFault 11 = .ok (.iconst 2, 1) := by decide +kernel
theorem dX0_memberFault_12 : decode cX0_memberFault 12 = .ok (.ireturn, 1) := by decide +kernel
theorem dX0_memberFault_13 : decode cX0_memberFault 13 = .ok (.aload_n 0, 1) := by decide +kernel
theorem dX0_memberFault_14 : decode cX0_memberFault 14 = .ok (.getfield 56, 3) := by decide +kernel
theorem dX0_memberFault_17 : decode cX0_memberFault 17 = .ok (.bipush 6, 2) := by decide +kernel
theorem dX0_memberFault_19 : decode cX0_memberFault 19 = .ok (.if_icmp .ge 7, 3) := by decide +kernel
theorem dX0_memberFault_22 : decode cX0_memberFault 22 = .ok (.iconst 0, 1) := by decide +kernel
theorem dX0_memberFault_23 : decode cX0_memberFault 23 = .ok (.goto 4, 3) := by decide +kernel
theorem dX0_memberFault_26 : decode cX0_memberFault 26 = .ok (.iconst 3, 1) := by decide +kernel
theorem dX0_memberFault_27 : decode cX0_memberFault 27 = .ok (.ireturn, 1) := by decide +kernel
theorem dX0_enrol_0 : decode cX0_enrol 0 = .ok (.aload_n 0, 1) := by decide +kernel
theorem dX0_enrol_1 : decode cX0_enrol 1 = .ok (.getfield 56, 3) := by decide +kernel
theorem dX0_enrol_4 : decode cX0_enrol 4 = .ok (.istore_n 2, 1) := by decide +kernel
theorem dX0_enrol_5 : decode cX0_enrol 5 = .ok (.aload_n 0, 1) := by decide +kernel
theorem dX0_enrol_6 : decode cX0_enrol 6 = .ok (.getfield 9, 3) := by decide +kernel
theorem dX0_enrol_9 : decode cX0_enrol 9 = .ok (.iload_n 2, 1) := by decide +kernel
theorem dX0_enrol_10 : decode cX0_enrol 10 = .ok (.iload_n 1, 1) := by decide +kernel
theorem dX0_enrol_11 : decode cX0_enrol 11 = .ok (.iastore, 1) := by decide +kernel
theorem dX0_enrol_12 : decode cX0_enrol 12 = .ok (.aload_n 0, 1) := by decide +kernel
theorem dX0_enrol_13 : decode cX0_enrol 13 = .ok (.dup, 1) := by decide +kernel
theorem dX0_enrol_14 : decode cX0_enrol 14 = .ok (.getfield 56, 3) := by decide +kernel
theorem dX0_enrol_17 : decode cX0_enrol 17 = .ok (.iconst 1, 1) := by decide +kernel
theorem dX0_enrol_18 : decode cX0_enrol 18 = .ok (.iadd, 1) := by decide +kernel
theorem dX0_enrol_19 : decode cX0_enrol 19 = .ok (.putfield 56, 3) := by decide +kernel
theorem dX0_enrol_22 : decode cX0_enrol 22 = .ok (.iload_n 2, 1) := by decide +kernel
theorem dX0_enrol_23 : decode cX0_enrol 23 = .ok (.ireturn, 1) := by decide +kernel
theorem dX0_wineFault_0 : decode cX0_wineFault 0 = .ok (.iload_n 1, 1) := by decide +kernel
theorem dX0_wineFault_1 : decode cX0_wineFault 1 = .ok (.iconst 1, 1) := by decide +kernel
theorem dX0_wineFault_2 : decode cX0_wineFault 2 = .ok (.if_icmp .lt 19, 3) := by decide +kernel
theorem dX0_wineFault_5 : decode cX0_wineFault 5 = .ok (.iload_n 1, 1) := by decide +kernel
theorem dX0_wineFault_6 : decode cX0_wineFault 6 = .ok (.bipush 99, 2) := by decide +kernel
theorem dX0_wineFault_8 : decode cX0_wineFault 8 = .ok (.if_icmp .gt 13, 3) := by decide +kernel
theorem dX0_wineFault_11 : decode cX0_wineFault 11 = .ok (.iload_n 2, 1) := by decide +kernel
theorem dX0_wineFault_12 : decode cX0_wineFault 12 = .ok (.ifCond .lt 9, 3) := by decide +kernel
theorem dX0_wineFault_15 : decode cX0_wineFault 15 = .ok (.iload_n 2, 1) := by decide +kernel
theorem dX0_wineFault_16 : decode cX0_wineFault 16 = .ok (.bipush 60, 2) := by decide +kernel
theorem dX0_wineFault_18 : decode cX0_wineFault 18 = .ok (.if_icmp .le 5, 3) := by decide +kernel
theorem dX0_wineFault_21 : decode cX0_wineFault 21 = .ok (.iconst 2, 1) := by decide +kernel
theorem dX0_wineFault_22 : decode cX0_wineFault 22 = .ok (.ireturn, 1) := by decide +kernel
theorem dX0_wineFault_23 : decode cX0_wineFault 23 = .ok (.aload_n 0, 1) := by decide +kernel
theorem dX0_wineFault_24 : decode cX0_wineFault 24 = .ok (.getfield 60, 3) := by decide +kernel
theorem dX0_wineFault_27 : decode cX0_wineFault 27 = .ok (.bipush 6, 2) := by decide +kernel
theorem dX0_wineFault_29 : decode cX0_wineFault 29 = .ok (.if_icmp .ge 7, 3) := by decide +kernel
theorem dX0_wineFault_32 : decode cX0_wineFault 32 = .ok (.iconst 0, 1) := by decide +kernel
theorem dX0_wineFault_33 : decode cX0_wineFault 33 = .ok (.goto 4, 3) := by decide +kernel
theorem dX0_wineFault_36 : decode cX0_wineFault 36 = .ok (.iconst 3, 1) := by decide +kernel
theorem dX0_wineFault_37 : decode cX0_wineFault 37 = .ok (.ireturn, 1) := by decide +kernel
theorem dX0_offer_0 : decode cX0_offer 0 = .ok (.aload_n 0, 1) := by decide +kernel
theorem dX0_offer_1 : decode cX0_offer 1 = .ok (.getfield 60, 3) := by decide +kernel
theorem dX0_offer_4 : decode cX0_offer 4 = .ok (.istore_n 3, 1) := by decide +kernel
theorem dX0_offer_5 : decode cX0_offer 5 = .ok (.aload_n 0, 1) := by decide +kernel
theorem dX0_offer_6 : decode cX0_offer 6 = .ok (.getfield 18, 3) := by decide +kernel
theorem dX0_offer_9 : decode cX0_offer 9 = .ok (.iload_n 3, 1) := by decide +kernel
theorem dX0_offer_10 : decode cX0_offer 10 = .ok (.iload_n 1, 1) := by decide +kernel
theorem dX0_offer_11 : decode cX0_offer 11 = .ok (.iastore, 1) := by decide +kernel
theorem dX0_offer_12 : decode cX0_offer 12 = .ok (.aload_n 0, 1) := by decide +kernel
theorem dX0_offer_13 : decode cX0_offer 13 = .ok (.getfield 21, 3) := by decide +kernel
theorem dX0_offer_16 : decode cX0_offer 16 = .ok (.iload_n 3, 1) := by decide +kernel
theorem dX0_offer_17 : decode cX0_offer 17 = .ok (.iload_n 2, 1) := by decide +kernel
theorem dX0_offer_18 : decode cX0_offer 18 = .ok (.iastore, 1) := by decide +kernel
theorem dX0_offer_19 : decode cX0_offer 19 = .ok (.aload_n 0, 1) := by decide +kernel
theorem dX0_offer_20 : decode cX0_offer 20 = .ok (.getfield 24, 3) := by decide +kernel
theorem dX0_offer_23 : decode cX0_offer 23 = .ok (.iload_n 3, 1) := by decide +kernel
theorem dX0_offer_24 : decode cX0_offer 24 = .ok (.iload_n 2, 1) := by decide +kernel
theorem dX0_offer_25 : decode cX0_offer 25 = .ok (.iastore, 1) := by decide +kernel
theorem dX0_offer_26 : decode cX0_offer 26 = .ok (.aload_n 0, 1) := by decide +kernel
theorem dX0_offer_27 : decode cX0_offer 27 = .ok (.dup, 1) := by decide +kernel
theorem dX0_offer_28 : decode cX0_offer 28 = .ok (.getfield 60, 3) := by decide +kernel
theorem dX0_offer_31 : decode cX0_offer 31 = .ok (.iconst 1, 1) := by decide +kernel
theorem dX0_offer_32 : decode cX0_offer 32 = .ok (.iadd, 1) := by decide +kernel
theorem dX0_offer_33 : decode cX0_offer 33 = .ok (.putfield 60, 3) := by decide +kernel
theorem dX0_offer_36 : decode cX0_offer 36 = .ok (.iload_n 3, 1) := by decide +kernel
theorem dX0_offer_37 : decode cX0_offer 37 = .ok (.ireturn, 1) := by decide +kernel
theorem dX0_orderFault_0 : decode cX0_orderFault 0 = .ok (.aload_n 0, 1) := by decide +kernel
theorem dX0_orderFault_1 : decode cX0_orderFault 1 = .ok (.iload_n 1, 1) := by decide +kernel
theorem dX0_orderFault_2 : decode cX0_orderFault 2 = .ok (.iload_n 2, 1) := by decide +kernel
theorem dX0_orderFault_3 : decode cX0_orderFault 3 = .ok (.invokevirtual 98, 3) := by decide +kernel
theorem dX0_orderFault_6 : decode cX0_orderFault 6 = .ok (.ifCond .ne 5, 3) := by decide +kernel
theorem dX0_orderFault_9 : decode cX0_orderFault 9 = .ok (.iconst 1, 1) := by decide +kernel
theorem dX0_orderFault_10 : decode cX0_orderFault 10 = .ok (.ireturn, 1) := by decide +kernel
theorem dX0_orderFault_11 : decode cX0_orderFault 11 = .ok (.iload_n 3, 1) := by decide +kernel
theorem dX0_orderFault_12 : decode cX0_orderFault 12 = .ok (.ifCond .lt 9, 3) := by decide +kernel
theorem dX0_orderFault_15 : decode cX0_orderFault 15 = .ok (.iload_n 3, 1) := by decide +kernel
theorem dX0_orderFault_16 : decode cX0_orderFault 16 = .ok (.bipush 60, 2) := by decide +kernel
theorem dX0_orderFault_18 : decode cX0_orderFault 18 = .ok (.if_icmp .le 5, 3) := by decide +kernel
theorem dX0_orderFault_21 : decode cX0_orderFault 21 = .ok (.iconst 2, 1) := by decide +kernel
theorem dX0_orderFault_22 : decode cX0_orderFault 22 = .ok (.ireturn, 1) := by decide +kernel
theorem dX0_orderFault_23 : decode cX0_orderFault 23 = .ok (.aload_n 0, 1) := by decide +kernel
theorem dX0_orderFault_24 : decode cX0_orderFault 24 = .ok (.getfield 27, 3) := by decide +kernel
theorem dX0_orderFault_27 : decode cX0_orderFault 27 = .ok (.iload_n 2, 1) := by decide +kernel
theorem dX0_orderFault_28 : decode cX0_orderFault 28 = .ok (.iaload, 1) := by decide +kernel
theorem dX0_orderFault_29 : decode cX0_orderFault 29 = .ok (.ifCond .ne 7, 3) := by decide +kernel
theorem dX0_orderFault_32 : decode cX0_orderFault 32 = .ok (.iconst 0, 1) := by decide +kernel
theorem dX0_orderFault_33 : decode cX0_orderFault 33 = .ok (.goto 4, 3) := by decide +kernel
theorem dX0_orderFault_36 : decode cX0_orderFault 36 = .ok (.iconst 3, 1) := by decide +kernel
theorem dX0_orderFault_37 : decode cX0_orderFault 37 = .ok (.ireturn, 1) := by decide +kernel
theorem dX0_changeOrder_0 : decode cX0_changeOrder 0 = .ok (.aload_n 0, 1) := by decide +kernel
theorem dX0_changeOrder_1 : decode cX0_changeOrder 1 = .ok (.getfield 36, 3) := by decide +kernel
theorem dX0_changeOrder_4 : decode cX0_changeOrder 4 = .ok (.iload_n 1, 1) := by decide +kernel
theorem dX0_changeOrder_5 : decode cX0_changeOrder 5 = .ok (.iload_n 2, 1) := by decide +kernel
theorem dX0_changeOrder_6 : decode cX0_changeOrder 6 = .ok (.invokevirtual 94, 3) := by decide +kernel
theorem dX0_changeOrder_9 : decode cX0_changeOrder 9 = .ok (.istore 4, 2) := by decide +kernel
theorem dX0_changeOrder_11 : decode cX0_changeOrder 11 = .ok (.aload_n 0, 1) := by decide +kernel
theorem dX0_changeOrder_12 : decode cX0_changeOrder 12 = .ok (.getfield 36, 3) := by decide +kernel
theorem dX0_changeOrder_15 : decode cX0_changeOrder 15 = .ok (.iload_n 1, 1) := by decide +kernel
theorem dX0_changeOrder_16 : decode cX0_changeOrder 16 = .ok (.iload_n 2, 1) := by decide +kernel
theorem dX0_changeOrder_17 : decode cX0_changeOrder 17 = .ok (.iload_n 3, 1) := by decide +kernel
theorem dX0_changeOrder_18 : decode cX0_changeOrder 18 = .ok (.invokevirtual 102, 3) := by decide +kernel
theorem dX0_changeOrder_21 : decode cX0_changeOrder 21 = .ok (.iload 4, 2) := by decide +kernel
theorem dX0_changeOrder_23 : decode cX0_changeOrder 23 = .ok (.ireturn, 1) := by decide +kernel
theorem dX0_allocationFault_0 : decode cX0_allocationFault 0 = .ok (.aload_n 0, 1) := by decide +kernel
theorem dX0_allocationFault_1 : decode cX0_allocationFault 1 = .ok (.iload_n 1, 1) := by decide +kernel
theorem dX0_allocationFault_2 : decode cX0_allocationFault 2 = .ok (.invokevirtual 67, 3) := by decide +kernel
theorem dX0_allocationFault_5 : decode cX0_allocationFault 5 = .ok (.ifCond .ne 5, 3) := by decide +kernel
theorem dX0_allocationFault_8 : decode cX0_allocationFault 8 = .ok (.iconst 1, 1) := by decide +kernel
theorem dX0_allocationFault_9 : decode cX0_allocationFault 9 = .ok (.ireturn, 1) := by decide +kernel
theorem dX0_allocationFault_10 : decode cX0_allocationFault 10 = .ok (.aload_n 0, 1) := by decide +kernel
theorem dX0_allocationFault_11 : decode cX0_allocationFault 11 = .ok (.getfield 27, 3) := by decide +kernel
theorem dX0_allocationFault_14 : decode cX0_allocationFault 14 = .ok (.iload_n 1, 1) := by decide +kernel
theorem dX0_allocationFault_15 : decode cX0_allocationFault 15 = .ok (.iaload, 1) := by decide +kernel
theorem dX0_allocationFault_16 : decode cX0_allocationFault 16 = .ok (.ifCond .ne 7, 3) := by decide +kernel
theorem dX0_allocationFault_19 : decode cX0_allocationFault 19 = .ok (.iconst 0, 1) := by decide +kernel
theorem dX0_allocationFault_20 : decode cX0_allocationFault 20 = .ok (.goto 4, 3) := by decide +kernel
theorem dX0_allocationFault_23 : decode cX0_allocationFault 23 = .ok (.iconst 3, 1) := by decide +kernel
theorem dX0_allocationFault_24 : decode cX0_allocationFault 24 = .ok (.ireturn, 1) := by decide +kernel
theorem dX0_shareOut_0 : decode cX0_shareOut 0 = .ok (.iconst 0, 1) := by decide +kernel
theorem dX0_shareOut_1 : decode cX0_shareOut 1 = .ok (.istore_n 2, 1) := by decide +kernel
theorem dX0_shareOut_2 : decode cX0_shareOut 2 = .ok (.iload_n 2, 1) := by decide +kernel
theorem dX0_shareOut_3 : decode cX0_shareOut 3 = .ok (.bipush 60, 2) := by decide +kernel
theorem dX0_shareOut_5 : decode cX0_shareOut 5 = .ok (.if_icmp .ge 53, 3) := by decide +kernel
theorem dX0_shareOut_8 : decode cX0_shareOut 8 = .ok (.aload_n 0, 1) := by decide +kernel
theorem dX0_shareOut_9 : decode cX0_shareOut 9 = .ok (.getfield 24, 3) := by decide +kernel
theorem dX0_shareOut_12 : decode cX0_shareOut 12 = .ok (.iload_n 1, 1) := by decide +kernel
theorem dX0_shareOut_13 : decode cX0_shareOut 13 = .ok (.iaload, 1) := by decide +kernel
theorem dX0_shareOut_14 : decode cX0_shareOut 14 = .ok (.ifCond .le 44, 3) := by decide +kernel
theorem dX0_shareOut_17 : decode cX0_shareOut 17 = .ok (.aload_n 0, 1) := by decide +kernel
theorem dX0_shareOut_18 : decode cX0_shareOut 18 = .ok (.iload_n 1, 1) := by decide +kernel
theorem dX0_shareOut_19 : decode cX0_shareOut 19 = .ok (.invokevirtual 106, 3) := by decide +kernel
theorem dX0_shareOut_22 : decode cX0_shareOut 22 = .ok (.istore_n 3, 1) := by decide +kernel
theorem dX0_shareOut_23 : decode cX0_shareOut 23 = .ok (.iload_n 3, 1) := by decide +kernel
theorem dX0_shareOut_24 : decode cX0_shareOut 24 = .ok (.ldc 109, 2) := by decide +kernel
theorem dX0_shareOut_26 : decode cX0_shareOut 26 = .ok (.if_icmp .ne 6, 3) := by decide +kernel
theorem dX0_shareOut_29 : decode cX0_shareOut 29 = .ok (.goto 29, 3) := by decide +kernel
theorem dX0_shareOut_32 : decode cX0_shareOut 32 = .ok (.aload_n 0, 1) := by decide +kernel
theorem dX0_shareOut_33 : decode cX0_shareOut 33 = .ok (.getfield 40, 3) := by decide +kernel
theorem dX0_shareOut_36 : decode cX0_shareOut 36 = .ok (.iload_n 3, 1) := by decide +kernel
theorem dX0_shareOut_37 : decode cX0_shareOut 37 = .ok (.iload_n 1, 1) := by decide +kernel
theorem dX0_shareOut_38 : decode cX0_shareOut 38 = .ok (.iconst 1, 1) := by decide +kernel
theorem dX0_shareOut_39 : decode cX0_shareOut 39 = .ok (.invokevirtual 110, 3) := by decide +kernel
theorem dX0_shareOut_42 : decode cX0_shareOut 42 = .ok (.aload_n 0, 1) := by decide +kernel
theorem dX0_shareOut_43 : decode cX0_shareOut 43 = .ok (.getfield 24, 3) := by decide +kernel
theorem dX0_shareOut_46 : decode cX0_shareOut 46 = .ok (.iload_n 1, 1) := by decide +kernel
theorem dX0_shareOut_47 : decode cX0_shareOut 47 = .ok (.dup2, 1) := by decide +kernel
theorem dX0_shareOut_48 : decode cX0_shareOut 48 = .ok (.iaload, 1) := by decide +kernel
theorem dX0_shareOut_49 : decode cX0_shareOut 49 = .ok (.iconst 1, 1) := by decide +kernel
theorem dX0_shareOut_50 : decode cX0_shareOut 50 = .ok (.isub, 1) := by decide +kernel
theorem dX0_shareOut_51 : decode cX0_shareOut 51 = .ok (.iastore, 1) := by decide +kernel
theorem dX0_shareOut_52 : decode cX0_shareOut 52 = .ok (.iinc 2 1, 3) := by decide +kernel
theorem dX0_shareOut_55 : decode cX0_shareOut 55 = .ok (.goto (-53), 3) := by decide +kernel
theorem dX0_shareOut_58 : decode cX0_shareOut 58 = .ok (.iconst 0, 1) := by decide +kernel
theorem dX0_shareOut_59 : decode cX0_shareOut 59 = .ok (.istore_n 2, 1) := by decide +kernel
theorem dX0_shareOut_60 : decode cX0_shareOut 60 = .ok (.iload_n 2, 1) := by decide +kernel
theorem dX0_shareOut_61 : decode cX0_shareOut 61 = .ok (.aload_n 0, 1) := by decide +kernel
theorem dX0_shareOut_62 : decode cX0_shareOut 62 = .ok (.getfield 56, 3) := by decide +kernel
theorem dX0_shareOut_65 : decode cX0_shareOut 65 = .ok (.if_icmp .ge 64, 3) := by decide +kernel
theorem dX0_shareOut_68 : decode cX0_shareOut 68 = .ok (.aload_n 0, 1) := by decide +kernel
theorem dX0_shareOut_69 : decode cX0_shareOut 69 = .ok (.getfield 40, 3) := by decide +kernel
theorem dX0_shareOut_72 : decode cX0_shareOut 72 = .ok (.iload_n 2, 1) := by decide +kernel
theorem dX0_shareOut_73 : decode cX0_shareOut 73 = .ok (.iload_n 1, 1) := by decide +kernel
theorem dX0_shareOut_74 : decode cX0_shareOut 74 = .ok (.invokevirtual 94, 3) := by decide +kernel
theorem dX0_shareOut_77 : decode cX0_shareOut 77 = .ok (.istore_n 3, 1) := by decide +kernel
theorem dX0_shareOut_78 : decode cX0_shareOut 78 = .ok (.aload_n 0, 1) := by decide +kernel
theorem dX0_shareOut_79 : decode cX0_shareOut 79 = .ok (.getfield 15, 3) := by decide +kernel
theorem dX0_shareOut_82 : decode cX0_shareOut 82 = .ok (.iload_n 2, 1) := by decide +kernel
theorem dX0_shareOut_83 : decode cX0_shareOut 83 = .ok (.dup2, 1) := by decide +kernel
theorem dX0_shareOut_84 : decode cX0_shareOut 84 = .ok (.iaload, 1) := by decide +kernel
theorem dX0_shareOut_85 : decode cX0_shareOut 85 = .ok (.aload_n 0, 1) := by decide +kernel
theorem dX0_shareOut_86 : decode cX0_shareOut 86 = .ok (.iload_n 1, 1) := by decide +kernel
theorem dX0_shareOut_87 : decode cX0_shareOut 87 = .ok (.iload_n 3, 1) := by decide +kernel
theorem dX0_shareOut_88 : decode cX0_shareOut 88 = .ok (.invokevirtual 113, 3) := by decide +kernel
theorem dX0_shareOut_91 : decode cX0_shareOut 91 = .ok (.iadd, 1) := by decide +kernel
theorem dX0_shareOut_92 : decode cX0_shareOut 92 = .ok (.iastore, 1) := by decide +kernel
theorem dX0_shareOut_93 : decode cX0_shareOut 93 = .ok (.aload_n 0, 1) := by decide +kernel
theorem dX0_shareOut_94 : decode cX0_shareOut 94 = .ok (.getfield 9, 3) := by decide +kernel
theorem dX0_shareOut_97 : decode cX0_shareOut 97 = .ok (.iload_n 2, 1) := by decide +kernel
theorem dX0_shareOut_98 : decode cX0_shareOut 98 = .ok (.sipush 999, 3) := by decide +kernel
theorem dX0_shareOut_101 : decode cX0_shareOut 101 = .ok (.aload_n 0, 1) := by decide +kernel
theorem dX0_shareOut_102 : decode cX0_shareOut 102 = .ok (.getfield 9, 3) := by decide +kernel
theorem dX0_shareOut_105 : decode cX0_shareOut 105 = .ok (.iload_n 2, 1) := by decide +kernel
theorem dX0_shareOut_106 : decode cX0_shareOut 106 = .ok (.iaload, 1) := by decide +kernel
theorem dX0_shareOut_107 : decode cX0_shareOut 107 = .ok (.iload_n 3, 1) := by decide +kernel
theorem dX0_shareOut_108 : decode cX0_shareOut 108 = .ok (.iadd, 1) := by decide +kernel
theorem dX0_shareOut_109 : decode cX0_shareOut 109 = .ok (.invokestatic 116, 3) := by decide +kernel
theorem dX0_shareOut_112 : decode cX0_shareOut 112 = .ok (.iastore, 1) := by decide +kernel
theorem dX0_shareOut_113 : decode cX0_shareOut 113 = .ok (.aload_n 0, 1) := by decide +kernel
theorem dX0_shareOut_114 : decode cX0_shareOut 114 = .ok (.getfield 36, 3) := by decide +kernel
theorem dX0_shareOut_117 : decode cX0_shareOut 117 = .ok (.iload_n 2, 1) := by decide +kernel
theorem dX0_shareOut_118 : decode cX0_shareOut 118 = .ok (.iload_n 1, 1) := by decide +kernel
theorem dX0_shareOut_119 : decode cX0_shareOut 119 = .ok (.iconst 0, 1) := by decide +kernel
theorem dX0_shareOut_120 : decode cX0_shareOut 120 = .ok (.invokevirtual 102, 3) := by decide +kernel
theorem dX0_shareOut_123 : decode cX0_shareOut 123 = .ok (.iinc 2 1, 3) := by decide +kernel
theorem dX0_shareOut_126 : decode cX0_shareOut 126 = .ok (.goto (-66), 3) := by decide +kernel
theorem dX0_shareOut_129 : decode cX0_shareOut 129 = .ok (.aload_n 0, 1) := by decide +kernel
theorem dX0_shareOut_130 : decode cX0_shareOut 130 = .ok (.getfield 27, 3) := by decide +kernel
theorem dX0_shareOut_133 : decode cX0_shareOut 133 = .ok (.iload_n 1, 1) := by decide +kernel
theorem dX0_shareOut_134 : decode cX0_shareOut 134 = .ok (.iconst 1, 1) := by decide +kernel
theorem dX0_shareOut_135 : decode cX0_shareOut 135 = .ok (.iastore, 1) := by decide +kernel
theorem dX0_shareOut_136 : decode cX0_shareOut 136 = .ok (.aload_n 0, 1) := by decide +kernel
theorem dX0_shareOut_137 : decode cX0_shareOut 137 = .ok (.getfield 40, 3) := by decide +kernel
theorem dX0_shareOut_140 : decode cX0_shareOut 140 = .ok (.iload_n 1, 1) := by decide +kernel
theorem dX0_shareOut_141 : decode cX0_shareOut 141 = .ok (.invokevirtual 91, 3) := by decide +kernel
theorem dX0_shareOut_144 : decode cX0_shareOut 144 = .ok (.ireturn, 1) := by decide +kernel
theorem dX0_nextToGet_0 : decode cX0_nextToGet 0 = .ok (.ldc 109, 2) := by decide +kernel
theorem dX0_nextToGet_2 : decode cX0_nextToGet 2 = .ok (.istore_n 2, 1) := by decide +kernel
theorem dX0_nextToGet_3 : decode cX0_nextToGet 3 = .ok (.iconst 0, 1) := by decide +kernel
theorem dX0_nextToGet_4 : decode cX0_nextToGet 4 = .ok (.istore_n 3, 1) := by decide +kernel
theorem dX0_nextToGet_5 : decode cX0_nextToGet 5 = .ok (.iload_n 3, 1) := by decide +kernel
theorem dX0_nextToGet_6 : decode cX0_nextToGet 6 = .ok (.aload_n 0, 1) := by decide +kernel
theorem dX0_nextToGet_7 : decode cX0_nextToGet 7 = .ok (.getfield 56, 3) := by decide +kernel
theorem dX0_nextToGet_10 : decode cX0_nextToGet 10 = .ok (.if_icmp .ge 60, 3) := by decide +kernel
theorem dX0_nextToGet_13 : decode cX0_nextToGet 13 = .ok (.aload_n 0, 1) := by decide +kernel
theorem dX0_nextToGet_14 : decode cX0_nextToGet 14 = .ok (.getfield 40, 3) := by decide +kernel
theorem dX0_nextToGet_17 : decode cX0_nextToGet 17 = .ok (.iload_n 3, 1) := by decide +kernel
theorem dX0_nextToGet_18 : decode cX0_nextToGet 18 = .ok (.iload_n 1, 1) := by decide +kernel
theorem dX0_nextToGet_19 : decode cX0_nextToGet 19 = .ok (.invokevirtual 94, 3) := by decide +kernel
theorem dX0_nextToGet_22 : decode cX0_nextToGet 22 = .ok (.aload_n 0, 1) := by decide +kernel
theorem dX0_nextToGet_23 : decode cX0_nextToGet 23 = .ok (.getfield 36, 3) := by decide +kernel
theorem dX0_nextToGet_26 : decode cX0_nextToGet 26 = .ok (.iload_n 3, 1) := by decide +kernel
theorem dX0_nextToGet_27 : decode cX0_nextToGet 27 = .ok (.iload_n 1, 1) := by decide +kernel
theorem dX0_nextToGet_28 : decode cX0_nextToGet 28 = .ok (.invokevirtual 94, 3) := by decide +kernel
theorem dX0_nextToGet_31 : decode cX0_nextToGet 31 = .ok (.if_icmp .ge 7, 3) := by decide +kernel
theorem dX0_nextToGet_34 : decode cX0_nextToGet 34 = .ok (.iconst 1, 1) := by decide +kernel
theorem dX0_nextToGet_35 : decode cX0_nextToGet 35 = .ok (.goto 4, 3) := by decide +kernel
theorem dX0_nextToGet_38 : decode cX0_nextToGet 38 = .ok (.iconst 0, 1) := by decide +kernel
theorem dX0_nextToGet_39 : decode cX0_nextToGet 39 = .ok (.istore 4, 2) := by decide +kernel
theorem dX0_nextToGet_41 : decode cX0_nextToGet 41 = .ok (.iload 4, 2) := by decide +kernel
theorem dX0_nextToGet_43 : decode cX0_nextToGet 43 = .ok (.ifCond .eq 21, 3) := by decide +kernel
theorem dX0_nextToGet_46 : decode cX0_nextToGet 46 = .ok (.iload_n 2, 1) := by decide +kernel
theorem dX0_nextToGet_47 : decode cX0_nextToGet 47 = .ok (.ldc 109, 2) := by decide +kernel
theorem dX0_nextToGet_49 : decode cX0_nextToGet 49 = .ok (.if_icmp .eq 13, 3) := by decide +kernel
theorem dX0_nextToGet_52 : decode cX0_nextToGet 52 = .ok (.aload_n 0, 1) := by decide +kernel
theorem dX0_nextToGet_53 : decode cX0_nextToGet 53 = .ok (.iload_n 3, 1) := by decide +kernel
theorem dX0_nextToGet_54 : decode cX0_nextToGet 54 = .ok (.iload_n 2, 1) := by decide +kernel
theorem dX0_nextToGet_55 : decode cX0_nextToGet 55 = .ok (.iload_n 1, 1) := by decide +kernel
theorem dX0_nextToGet_56 : decode cX0_nextToGet 56 = .ok (.invokevirtual 121, 3) := by decide +kernel
theorem dX0_nextToGet_59 : decode cX0_nextToGet 59 = .ok (.ifCond .eq 5, 3) := by decide +kernel
theorem dX0_nextToGet_62 : decode cX0_nextToGet 62 = .ok (.iload_n 3, 1) := by decide +kernel
theorem dX0_nextToGet_63 : decode cX0_nextToGet 63 = .ok (.istore_n 2, 1) := by decide +kernel
theorem dX0_nextToGet_64 : decode cX0_nextToGet 64 = .ok (.iinc 3 1, 3) := by decide +kernel
theorem dX0_nextToGet_67 : decode cX0_nextToGet 67 = .ok (.goto (-62), 3) := by decide +kernel
theorem dX0_nextToGet_70 : decode cX0_nextToGet 70 = .ok (.iload_n 2, 1) := by decide +kernel
theorem dX0_nextToGet_71 : decode cX0_nextToGet 71 = .ok (.ireturn, 1) := by decide +kernel
theorem dX0_comesBefore_0 : decode cX0_comesBefore 0 = .ok (.aload_n 0, 1) := by decide +kernel
theorem dX0_comesBefore_1 : decode cX0_comesBefore 1 = .ok (.getfield 9, 3) := by decide +kernel
theorem dX0_comesBefore_4 : decode cX0_comesBefore 4 = .ok (.iload_n 1, 1) := by decide +kernel
theorem dX0_comesBefore_5 : decode cX0_comesBefore 5 = .ok (.iaload, 1) := by decide +kernel
theorem dX0_comesBefore_6 : decode cX0_comesBefore 6 = .ok (.iconst 1, 1) := by decide +kernel
theorem dX0_comesBefore_7 : decode cX0_comesBefore 7 = .ok (.iadd, 1) := by decide +kernel
theorem dX0_comesBefore_8 : decode cX0_comesBefore 8 = .ok (.aload_n 0, 1) := by decide +kernel
theorem dX0_comesBefore_9 : decode cX0_comesBefore 9 = .ok (.getfield 40, 3) := by decide +kernel
theorem dX0_comesBefore_12 : decode cX0_comesBefore 12 = .ok (.iload_n 2, 1) := by decide +kernel
theorem dX0_comesBefore_13 : decode cX0_comesBefore 13 = .ok (.iload_n 3, 1) := by decide +kernel
theorem dX0_comesBefore_14 : decode cX0_comesBefore 14 = .ok (.invokevirtual 94, 3) := by decide +kernel
theorem dX0_comesBefore_17 : decode cX0_comesBefore 17 = .ok (.iconst 1, 1) := by decide +kernel
theorem dX0_comesBefore_18 : decode cX0_comesBefore 18 = .ok (.iadd, 1) := by decide +kernel
theorem dX0_comesBefore_19 : decode cX0_comesBefore 19 = .ok (.imul, 1) := by decide +kernel
theorem dX0_comesBefore_20 : decode cX0_comesBefore 20 = .ok (.aload_n 0, 1) := by decide +kernel
theorem dX0_comesBefore_21 : decode cX0_comesBefore 21 = .ok (.getfield 9, 3) := by decide +kernel
theorem dX0_comesBefore_24 : decode cX0_comesBefore 24 = .ok (.iload_n 2, 1) := by decide +kernel
theorem dX0_comesBefore_25 : decode cX0_comesBefore 25 = .ok (.iaload, 1) := by decide +kernel
theorem dX0_comesBefore_26 : decode cX0_comesBefore 26 = .ok (.iconst 1, 1) := by decide +kernel
theorem dX0_comesBefore_27 : decode cX0_comesBefore 27 = .ok (.iadd, 1) := by decide +kernel
theorem dX0_comesBefore_28 : decode cX0_comesBefore 28 = .ok (.aload_n 0, 1) := by decide +kernel
theorem dX0_comesBefore_29 : decode cX0_comesBefore 29 = .ok (.getfield 40, 3) := by decide +kernel
theorem dX0_comesBefore_32 : decode cX0_comesBefore 32 = .ok (.iload_n 1, 1) := by decide +kernel
theorem dX0_comesBefore_33 : decode cX0_comesBefore 33 = .ok (.iload_n 3, 1) := by decide +kernel
theorem dX0_comesBefore_34 : decode cX0_comesBefore 34 = .ok (.invokevirtual 94, 3) := by decide +kernel
theorem dX0_comesBefore_37 : decode cX0_comesBefore 37 = .ok (.iconst 1, 1) := by decide +kernel
theorem dX0_comesBefore_38 : decode cX0_comesBefore 38 = .ok (.iadd, 1) := by decide +kernel
theorem dX0_comesBefore_39 : decode cX0_comesBefore 39 = .ok (.imul, 1) := by decide +kernel
theorem dX0_comesBefore_40 : decode cX0_comesBefore 40 = .ok (.if_icmp .le 7, 3) := by decide +kernel
theorem dX0_comesBefore_43 : decode cX0_comesBefore 43 = .ok (.iconst 1, 1) := by decide +kernel
theorem dX0_comesBefore_44 : decode cX0_comesBefore 44 = .ok (.goto 4, 3) := by decide +kernel
theorem dX0_comesBefore_47 : decode cX0_comesBefore 47 = .ok (.iconst 0, 1) := by decide +kernel
theorem dX0_comesBefore_48 : decode cX0_comesBefore 48 = .ok (.ireturn, 1) := by decide +kernel
theorem dX0_paidAhead_0 : decode cX0_paidAhead 0 = .ok (.aload_n 0, 1) := by decide +kernel
theorem dX0_paidAhead_1 : decode cX0_paidAhead 1 = .ok (.getfield 18, 3) := by decide +kernel
theorem dX0_paidAhead_4 : decode cX0_paidAhead 4 = .ok (.iload_n 1, 1) := by decide +kernel
theorem dX0_paidAhead_5 : decode cX0_paidAhead 5 = .ok (.iaload, 1) := by decide +kernel
theorem dX0_paidAhead_6 : decode cX0_paidAhead 6 = .ok (.iload_n 2, 1) := by decide +kernel
theorem dX0_paidAhead_7 : decode cX0_paidAhead 7 = .ok (.imul, 1) := by decide +kernel
theorem dX0_paidAhead_8 : decode cX0_paidAhead 8 = .ok (.iconst 1, 1) := by decide +kernel
theorem dX0_paidAhead_9 : decode cX0_paidAhead 9 = .ok (.iadd, 1) := by decide +kernel
theorem dX0_paidAhead_10 : decode cX0_paidAhead 10 = .ok (.iconst 2, 1) := by decide +kernel
theorem dX0_paidAhead_11 : decode cX0_paidAhead 11 = .ok (.idiv, 1) := by decide +kernel
theorem dX0_paidAhead_12 : decode cX0_paidAhead 12 = .ok (.ireturn, 1) := by decide +kernel
theorem dX0_deliveryFault_0 : decode cX0_deliveryFault 0 = .ok (.aload_n 0, 1) := by decide +kernel
theorem dX0_deliveryFault_1 : decode cX0_deliveryFault 1 = .ok (.iload_n 1, 1) := by decide +kernel
theorem dX0_deliveryFault_2 : decode cX0_deliveryFault 2 = .ok (.invokevirtual 67, 3) := by decide +kernel
theorem dX0_deliveryFault_5 : decode cX0_deliveryFault 5 = .ok (.ifCond .ne 5, 3) := by decide +kernel
theorem dX0_deliveryFault_8 : decode cX0_deliveryFault 8 = .ok (.iconst 1, 1) := by decide +kernel
theorem dX0_deliveryFault_9 : decode cX0_deliveryFault 9 = .ok (.ireturn, 1) := by decide +kernel
theorem dX0_deliveryFault_10 : decode cX0_deliveryFault 10 = .ok (.aload_n 0, 1) := by decide +kernel
theorem dX0_deliveryFault_11 : decode cX0_deliveryFault 11 = .ok (.getfield 27, 3) := by decide +kernel
theorem dX0_deliveryFault_14 : decode cX0_deliveryFault 14 = .ok (.iload_n 1, 1) := by decide +kernel
theorem dX0_deliveryFault_15 : decode cX0_deliveryFault 15 = .ok (.iaload, 1) := by decide +kernel
theorem dX0_deliveryFault_16 : decode cX0_deliveryFault 16 = .ok (.iconst 1, 1) := by decide +kernel
theorem dX0_deliveryFault_17 : decode cX0_deliveryFault 17 = .ok (.if_icmp .ne 22, 3) := by decide +kernel
theorem dX0_deliveryFault_20 : decode cX0_deliveryFault 20 = .ok (.aload_n 0, 1) := by decide +kernel
theorem dX0_deliveryFault_21 : decode cX0_deliveryFault 21 = .ok (.getfield 40, 3) := by decide +kernel
theorem dX0_deliveryFault_24 : decode cX0_deliveryFault 24 = .ok (.iload_n 1, 1) := by decide +kernel
theorem dX0_deliveryFault_25 : decode cX0_deliveryFault 25 = .ok (.invokevirtual 91, 3) := by decide +kernel
theorem dX0_deliveryFault_28 : decode cX0_deliveryFault 28 = .ok (.aload_n 0, 1) := by decide +kernel
theorem dX0_deliveryFault_29 : decode cX0_deliveryFault 29 = .ok (.getfield 52, 3) := by decide +kernel
theorem dX0_deliveryFault_32 : decode cX0_deliveryFault 32 = .ok (.iload_n 1, 1) := by decide +kernel
theorem dX0_deliveryFault_33 : decode cX0_deliveryFault 33 = .ok (.invokevirtual 125, 3) := by decide +kernel
theorem dX0_deliveryFault_36 : decode cX0_deliveryFault 36 = .ok (.if_icmp .le 5, 3) := by decide +kernel
theorem dX0_deliveryFault_39 : decode cX0_deliveryFault 39 = .ok (.iconst 3, 1) := by decide +kernel
theorem dX0_deliveryFault_40 : decode cX0_deliveryFault 40 = .ok (.ireturn, 1) := by decide +kernel
theorem dX0_deliveryFault_41 : decode cX0_deliveryFault 41 = .ok (.iconst 0, 1) := by decide +kernel
theorem dX0_deliveryFault_42 : decode cX0_deliveryFault 42 = .ok (.ireturn, 1) := by decide +kernel
theorem dX0_bringIn_0 : decode cX0_bringIn 0 = .ok (.aload_n 0, 1) := by decide +kernel
theorem dX0_bringIn_1 : decode cX0_bringIn 1 = .ok (.getfield 40, 3) := by decide +kernel
theorem dX0_bringIn_4 : decode cX0_bringIn 4 = .ok (.iload_n 1, 1) := by decide +kernel
theorem dX0_bringIn_5 : decode cX0_bringIn 5 = .ok (.invokevirtual 91, 3) := by decide +kernel
theorem dX0_bringIn_8 : decode cX0_bringIn 8 = .ok (.istore_n 2, 1) := by decide +kernel
theorem dX0_bringIn_9 : decode cX0_bringIn 9 = .ok (.aload_n 0, 1) := by decide +kernel
theorem dX0_bringIn_10 : decode cX0_bringIn 10 = .ok (.getfield 52, 3) := by decide +kernel
theorem dX0_bringIn_13 : decode cX0_bringIn 13 = .ok (.iload_n 1, 1) := by decide +kernel
theorem dX0_bringIn_14 : decode cX0_bringIn 14 = .ok (.iload_n 2, 1) := by decide +kernel
theorem dX0_bringIn_15 : decode cX0_bringIn 15 = .ok (.invokevirtual 128, 3) := by decide +kernel
theorem dX0_bringIn_18 : decode cX0_bringIn 18 = .ok (.iconst 0, 1) := by decide +kernel
theorem dX0_bringIn_19 : decode cX0_bringIn 19 = .ok (.istore_n 3, 1) := by decide +kernel
theorem dX0_bringIn_20 : decode cX0_bringIn 20 = .ok (.iload_n 3, 1) := by decide +kernel
theorem dX0_bringIn_21 : decode cX0_bringIn 21 = .ok (.aload_n 0, 1) := by decide +kernel
theorem dX0_bringIn_22 : decode cX0_bringIn 22 = .ok (.getfield 56, 3) := by decide +kernel
theorem dX0_bringIn_25 : decode cX0_bringIn 25 = .ok (.if_icmp .ge 67, 3) := by decide +kernel
theorem dX0_bringIn_28 : decode cX0_bringIn 28 = .ok (.aload_n 0, 1) := by decide +kernel
theorem dX0_bringIn_29 : decode cX0_bringIn 29 = .ok (.getfield 40, 3) := by decide +kernel
theorem dX0_bringIn_32 : decode cX0_bringIn 32 = .ok (.iload_n 3, 1) := by decide +kernel
theorem dX0_bringIn_33 : decode cX0_bringIn 33 = .ok (.iload_n 1, 1) := by decide +kernel
theorem dX0_bringIn_34 : decode cX0_bringIn 34 = .ok (.invokevirtual 94, 3) := by decide +kernel
theorem dX0_bringIn_37 : decode cX0_bringIn 37 = .ok (.istore 4, 2) := by decide +kernel
theorem dX0_bringIn_39 : decode cX0_bringIn 39 = .ok (.aload_n 0, 1) := by decide +kernel
theorem dX0_bringIn_40 : decode cX0_bringIn 40 = .ok (.getfield 15, 3) := by decide +kernel
theorem dX0_bringIn_43 : decode cX0_bringIn 43 = .ok (.iload_n 3, 1) := by decide +kernel
theorem dX0_bringIn_44 : decode cX0_bringIn 44 = .ok (.dup2, 1) := by decide +kernel
theorem dX0_bringIn_45 : decode cX0_bringIn 45 = .ok (.iaload, 1) := by decide +kernel
theorem dX0_bringIn_46 : decode cX0_bringIn 46 = .ok (.aload_n 0, 1) := by decide +kernel
theorem dX0_bringIn_47 : decode cX0_bringIn 47 = .ok (.getfield 18, 3) := by decide +kernel
theorem dX0_bringIn_50 : decode cX0_bringIn 50 = .ok (.iload_n 1, 1) := by decide +kernel
theorem dX0_bringIn_51 : decode cX0_bringIn 51 = .ok (.iaload, 1) := by decide +kernel
theorem dX0_bringIn_52 : decode cX0_bringIn 52 = .ok (.iload 4, 2) := by decide +kernel
theorem dX0_bringIn_54 : decode cX0_bringIn 54 = .ok (.imul, 1) := by decide +kernel
theorem dX0_bringIn_55 : decode cX0_bringIn 55 = .ok (.aload_n 0, 1) := by decide +kernel
theorem dX0_bringIn_56 : decode cX0_bringIn 56 = .ok (.iload_n 1, 1) := by decide +kernel
theorem dX0_bringIn_57 : decode cX0_bringIn 57 = .ok (.iload 4, 2) := by decide +kernel
theorem dX0_bringIn_59 : decode cX0_bringIn 59 = .ok (.invokevirtual 113, 3) := by decide +kernel
theorem dX0_bringIn_62 : decode cX0_bringIn 62 = .ok (.isub, 1) := by decide +kernel
theorem dX0_bringIn_63 : decode cX0_bringIn 63 = .ok (.iadd, 1) := by decide +kernel
theorem dX0_bringIn_64 : decode cX0_bringIn 64 = .ok (.iastore, 1) := by decide +kernel
theorem dX0_bringIn_65 : decode cX0_bringIn 65 = .ok (.aload_n 0, 1) := by decide +kernel
theorem dX0_bringIn_66 : decode cX0_bringIn 66 = .ok (.getfield 43, 3) := by decide +kernel
theorem dX0_bringIn_69 : decode cX0_bringIn 69 = .ok (.iload_n 3, 1) := by decide +kernel
theorem dX0_bringIn_70 : decode cX0_bringIn 70 = .ok (.iload_n 1, 1) := by decide +kernel
theorem dX0_bringIn_71 : decode cX0_bringIn 71 = .ok (.iload 4, 2) := by decide +kernel
theorem dX0_bringIn_73 : decode cX0_bringIn 73 = .ok (.invokevirtual 102, 3) := by decide +kernel
theorem dX0_bringIn_76 : decode cX0_bringIn 76 = .ok (.aload_n 0, 1) := by decide +kernel
theorem dX0_bringIn_77 : decode cX0_bringIn 77 = .ok (.getfield 40, 3) := by decide +kernel
theorem dX0_bringIn_80 : decode cX0_bringIn 80 = .ok (.iload_n 3, 1) := by decide +kernel
theorem dX0_bringIn_81 : decode cX0_bringIn 81 = .ok (.iload_n 1, 1) := by decide +kernel
theorem dX0_bringIn_82 : decode cX0_bringIn 82 = .ok (.iconst 0, 1) := by decide +kernel
theorem dX0_bringIn_83 : decode cX0_bringIn 83 = .ok (.invokevirtual 102, 3) := by decide +kernel
theorem dX0_bringIn_86 : decode cX0_bringIn 86 = .ok (.iinc 3 1, 3) := by decide +kernel
theorem dX0_bringIn_89 : decode cX0_bringIn 89 = .ok (.goto (-69), 3) := by decide +kernel
theorem dX0_bringIn_92 : decode cX0_bringIn 92 = .ok (.aload_n 0, 1) := by decide +kernel
theorem dX0_bringIn_93 : decode cX0_bringIn 93 = .ok (.getfield 27, 3) := by decide +kernel
theorem dX0_bringIn_96 : decode cX0_bringIn 96 = .ok (.iload_n 1, 1) := by decide +kernel
theorem dX0_bringIn_97 : decode cX0_bringIn 97 = .ok (.iconst 2, 1) := by decide +kernel
theorem dX0_bringIn_98 : decode cX0_bringIn 98 = .ok (.iastore, 1) := by decide +kernel
theorem dX0_bringIn_99 : decode cX0_bringIn 99 = .ok (.iload_n 2, 1) := by decide +kernel
theorem dX0_bringIn_100 : decode cX0_bringIn 100 = .ok (.ireturn, 1) := by decide +kernel
theorem dX0_drinkFault_0 : decode cX0_drinkFault 0 = .ok (.aload_n 0, 1) := by decide +kernel
theorem dX0_drinkFault_1 : decode cX0_drinkFault 1 = .ok (.iload_n 1, 1) := by decide +kernel
theorem dX0_drinkFault_2 : decode cX0_drinkFault 2 = .ok (.iload_n 2, 1) := by decide +kernel
theorem dX0_drinkFault_3 : decode cX0_drinkFault 3 = .ok (.invokevirtual 98, 3) := by decide +kernel
theorem dX0_drinkFault_6 : decode cX0_drinkFault 6 = .ok (.ifCond .ne 5, 3) := by decide +kernel
theorem dX0_drinkFault_9 : decode cX0_drinkFault 9 = .ok (.iconst 1, 1) := by decide +kernel
theorem dX0_drinkFault_10 : decode cX0_drinkFault 10 = .ok (.ireturn, 1) := by decide +kernel
theorem dX0_drinkFault_11 : decode cX0_drinkFault 11 = .ok (.iload_n 3, 1) := by decide +kernel
theorem dX0_drinkFault_12 : decode cX0_drinkFault 12 = .ok (.iconst 1, 1) := by decide +kernel
theorem dX0_drinkFault_13 : decode cX0_drinkFault 13 = .ok (.if_icmp .lt 9, 3) := by decide +kernel
theorem dX0_drinkFault_16 : decode cX0_drinkFault 16 = .ok (.iload_n 3, 1) := by decide +kernel
theorem dX0_drinkFault_17 : decode cX0_drinkFault 17 = .ok (.bipush 60, 2) := by decide +kernel
theorem dX0_drinkFault_19 : decode cX0_drinkFault 19 = .ok (.if_icmp .le 5, 3) := by decide +kernel
theorem dX0_drinkFault_22 : decode cX0_drinkFault 22 = .ok (.iconst 2, 1) := by decide +kernel
theorem dX0_drinkFault_23 : decode cX0_drinkFault 23 = .ok (.ireturn, 1) := by decide +kernel
theorem dX0_drinkFault_24 : decode cX0_drinkFault 24 = .ok (.aload_n 0, 1) := by decide +kernel
theorem dX0_drinkFault_25 : decode cX0_drinkFault 25 = .ok (.getfield 43, 3) := by decide +kernel
theorem dX0_drinkFault_28 : decode cX0_drinkFault 28 = .ok (.iload_n 1, 1) := by decide +kernel
theorem dX0_drinkFault_29 : decode cX0_drinkFault 29 = .ok (.iload_n 2, 1) := by decide +kernel
theorem dX0_drinkFault_30 : decode cX0_drinkFault 30 = .ok (.invokevirtual 94, 3) := by decide +kernel
theorem dX0_drinkFault_33 : decode cX0_drinkFault 33 = .ok (.iload_n 3, 1) := by decide +kernel
theorem dX0_drinkFault_34 : decode cX0_drinkFault 34 = .ok (.if_icmp .lt 7, 3) := by decide +kernel
theorem dX0_drinkFault_37 : decode cX0_drinkFault 37 = .ok (.iconst 0, 1) := by decide +kernel
theorem dX0_drinkFault_38 : decode cX0_drinkFault 38 = .ok (.goto 4, 3) := by decide +kernel
theorem dX0_drinkFault_41 : decode cX0_drinkFault 41 = .ok (.iconst 3, 1) := by decide +kernel
theorem dX0_drinkFault_42 : decode cX0_drinkFault 42 = .ok (.ireturn, 1) := by decide +kernel
theorem dX0_drinkUp_0 : decode cX0_drinkUp 0 = .ok (.aload_n 0, 1) := by decide +kernel
theorem dX0_drinkUp_1 : decode cX0_drinkUp 1 = .ok (.getfield 52, 3) := by decide +kernel
theorem dX0_drinkUp_4 : decode cX0_drinkUp 4 = .ok (.iload_n 2, 1) := by decide +kernel
theorem dX0_drinkUp_5 : decode cX0_drinkUp 5 = .ok (.iload_n 3, 1) := by decide +kernel
theorem dX0_drinkUp_6 : decode cX0_drinkUp 6 = .ok (.invokevirtual 132, 3) := by decide +kernel
theorem dX0_drinkUp_9 : decode cX0_drinkUp 9 = .ok (.aload_n 0, 1) := by decide +kernel
theorem dX0_drinkUp_10 : decode cX0_drinkUp 10 = .ok (.getfield 43, 3) := by decide +kernel
theorem dX0_drinkUp_13 : decode cX0_drinkUp 13 = .ok (.iload_n 1, 1) := by decide +kernel
theorem dX0_drinkUp_14 : decode cX0_drinkUp 14 = .ok (.iload_n 2, 1) := by decide +kernel
theorem dX0_drinkUp_15 : decode cX0_drinkUp 15 = .ok (.iload_n 3, 1) := by decide +kernel
theorem dX0_drinkUp_16 : decode cX0_drinkUp 16 = .ok (.ineg, 1) := by decide +kernel
theorem dX0_drinkUp_17 : decode cX0_drinkUp 17 = .ok (.invokevirtual 110, 3) := by decide +kernel
theorem dX0_drinkUp_20 : decode cX0_drinkUp 20 = .ok (.aload_n 0, 1) := by decide +kernel
theorem dX0_drinkUp_21 : decode cX0_drinkUp 21 = .ok (.getfield 46, 3) := by decide +kernel
theorem dX0_drinkUp_24 : decode cX0_drinkUp 24 = .ok (.iload_n 1, 1) := by decide +kernel
theorem dX0_drinkUp_25 : decode cX0_drinkUp 25 = .ok (.iload_n 2, 1) := by decide +kernel
theorem dX0_drinkUp_26 : decode cX0_drinkUp 26 = .ok (.iload_n 3, 1) := by decide +kernel
theorem dX0_drinkUp_27 : decode cX0_drinkUp 27 = .ok (.invokevirtual 110, 3) := by decide +kernel
theorem dX0_drinkUp_30 : decode cX0_drinkUp 30 = .ok (.aload_n 0, 1) := by decide +kernel
theorem dX0_drinkUp_31 : decode cX0_drinkUp 31 = .ok (.getfield 43, 3) := by decide +kernel
theorem dX0_drinkUp_34 : decode cX0_drinkUp 34 = .ok (.iload_n 1, 1) := by decide +kernel
theorem dX0_drinkUp_35 : decode cX0_drinkUp 35 = .ok (.iload_n 2, 1) := by decide +kernel
theorem dX0_drinkUp_36 : decode cX0_drinkUp 36 = .ok (.invokevirtual 94, 3) := by decide +kernel
theorem dX0_drinkUp_39 : decode cX0_drinkUp 39 = .ok (.ireturn, 1) := by decide +kernel
theorem dX0_giftFault_0 : decode cX0_giftFault 0 = .ok (.aload_n 0, 1) := by decide +kernel
theorem dX0_giftFault_1 : decode cX0_giftFault 1 = .ok (.iload_n 1, 1) := by decide +kernel
theorem dX0_giftFault_2 : decode cX0_giftFault 2 = .ok (.iload_n 3, 1) := by decide +kernel
theorem dX0_giftFault_3 : decode cX0_giftFault 3 = .ok (.invokevirtual 98, 3) := by decide +kernel
theorem dX0_giftFault_6 : decode cX0_giftFault 6 = .ok (.ifCond .eq 11, 3) := by decide +kernel
theorem dX0_giftFault_9 : decode cX0_giftFault 9 = .ok (.aload_n 0, 1) := by decide +kernel
theorem dX0_giftFault_10 : decode cX0_giftFault 10 = .ok (.iload_n 2, 1) := by decide +kernel
theorem dX0_giftFault_11 : decode cX0_giftFault 11 = .ok (.invokevirtual 63, 3) := by decide +kernel
theorem dX0_giftFault_14 : decode cX0_giftFault 14 = .ok (.ifCond .ne 5, 3) := by decide +kernel
theorem dX0_giftFault_17 : decode cX0_giftFault 17 = .ok (.iconst 1, 1) := by decide +kernel
theorem dX0_giftFault_18 : decode cX0_giftFault 18 = .ok (.ireturn, 1) := by decide +kernel
theorem dX0_giftFault_19 : decode cX0_giftFault 19 = .ok (.iload_n 1, 1) := by decide +kernel
theorem dX0_giftFault_20 : decode cX0_giftFault 20 = .ok (.iload_n 2, 1) := by decide +kernel
theorem dX0_giftFault_21 : decode cX0_giftFault 21 = .ok (.if_icmp .eq 16, 3) := by decide +kernel
theorem dX0_giftFault_24 : decode cX0_giftFault 24 = .ok (.iload 4, 2) := by decide +kernel
theorem dX0_giftFault_26 : decode cX0_giftFault 26 = .ok (.iconst 1, 1) := by decide +kernel
theorem dX0_giftFault_27 : decode cX0_giftFault 27 = .ok (.if_icmp .lt 10, 3) := by decide +kernel
theorem dX0_giftFault_30 : decode cX0_giftFault 30 = .ok (.iload 4, 2) := by decide +kernel
theorem dX0_giftFault_32 : decode cX0_giftFault 32 = .ok (.bipush 60, 2) := by decide +kernel
theorem dX0_giftFault_34 : decode cX0_giftFault 34 = .ok (.if_icmp .le 5, 3) := by decide +kernel
theorem dX0_giftFault_37 : decode cX0_giftFault 37 = .ok (.iconst 2, 1) := by decide +kernel
theorem dX0_giftFault_38 : decode cX0_giftFault 38 = .ok (.ireturn, 1) := by decide +kernel
theorem dX0_giftFault_39 : decode cX0_giftFault 39 = .ok (.aload_n 0, 1) := by decide +kernel
theorem dX0_giftFault_40 : decode cX0_giftFault 40 = .ok (.getfield 43, 3) := by decide +kernel
theorem dX0_giftFault_43 : decode cX0_giftFault 43 = .ok (.iload_n 1, 1) := by decide +kernel
theorem dX0_giftFault_44 : decode cX0_giftFault 44 = .ok (.iload_n 3, 1) := by decide +kernel
theorem dX0_giftFault_45 : decode cX0_giftFault 45 = .ok (.invokevirtual 94, 3) := by decide +kernel
theorem dX0_giftFault_48 : decode cX0_giftFault 48 = .ok (.iload 4, 2) := by decide +kernel
theorem dX0_giftFault_50 : decode cX0_giftFault 50 = .ok (.if_icmp .lt 7, 3) := by decide +kernel
theorem dX0_giftFault_53 : decode cX0_giftFault 53 = .ok (.iconst 0, 1) := by decide +kernel
theorem dX0_giftFault_54 : decode cX0_giftFault 54 = .ok (.goto 4, 3) := by decide +kernel
theorem dX0_giftFault_57 : decode cX0_giftFault 57 = .ok (.iconst 3, 1) := by decide +kernel
theorem dX0_giftFault_58 : decode cX0_giftFault 58 = .ok (.ireturn, 1) := by decide +kernel
theorem dX0_handOver_0 : decode cX0_handOver 0 = .ok (.aload_n 0, 1) := by decide +kernel
theorem dX0_handOver_1 : decode cX0_handOver 1 = .ok (.getfield 43, 3) := by decide +kernel
theorem dX0_handOver_4 : decode cX0_handOver 4 = .ok (.iload_n 1, 1) := by decide +kernel
theorem dX0_handOver_5 : decode cX0_handOver 5 = .ok (.iload_n 3, 1) := by decide +kernel
theorem dX0_handOver_6 : decode cX0_handOver 6 = .ok (.iload 4, 2) := by decide +kernel
theorem dX0_handOver_8 : decode cX0_handOver 8 = .ok (.ineg, 1) := by decide +kernel
theorem dX0_handOver_9 : decode cX0_handOver 9 = .ok (.invokevirtual 110, 3) := by decide +kernel
theorem dX0_handOver_12 : decode cX0_handOver 12 = .ok (.aload_n 0, 1) := by decide +kernel
theorem dX0_handOver_13 : decode cX0_handOver 13 = .ok (.getfield 43, 3) := by decide +kernel
theorem dX0_handOver_16 : decode cX0_handOver 16 = .ok (.iload_n 2, 1) := by decide +kernel
theorem dX0_handOver_17 : decode cX0_handOver 17 = .ok (.iload_n 3, 1) := by decide +kernel
theorem dX0_handOver_18 : decode cX0_handOver 18 = .ok (.iload 4, 2) := by decide +kernel
theorem dX0_handOver_20 : decode cX0_handOver 20 = .ok (.invokevirtual 110, 3) := by decide +kernel
theorem dX0_handOver_23 : decode cX0_handOver 23 = .ok (.aload_n 0, 1) := by decide +kernel
theorem dX0_handOver_24 : decode cX0_handOver 24 = .ok (.getfield 43, 3) := by decide +kernel
theorem dX0_handOver_27 : decode cX0_handOver 27 = .ok (.iload_n 2, 1) := by decide +kernel
theorem dX0_handOver_28 : decode cX0_handOver 28 = .ok (.iload_n 3, 1) := by decide +kernel
theorem dX0_handOver_29 : decode cX0_handOver 29 = .ok (.invokevirtual 94, 3) := by decide +kernel
theorem dX0_handOver_32 : decode cX0_handOver 32 = .ok (.ireturn, 1) := by decide +kernel
theorem dX0_corkFault_0 : decode cX0_corkFault 0 = .ok (.aload_n 0, 1) := by decide +kernel
theorem dX0_corkFault_1 : decode cX0_corkFault 1 = .ok (.iload_n 1, 1) := by decide +kernel
theorem dX0_corkFault_2 : decode cX0_corkFault 2 = .ok (.iload_n 2, 1) := by decide +kernel
theorem dX0_corkFault_3 : decode cX0_corkFault 3 = .ok (.invokevirtual 98, 3) := by decide +kernel
theorem dX0_corkFault_6 : decode cX0_corkFault 6 = .ok (.ifCond .ne 5, 3) := by decide +kernel
theorem dX0_corkFault_9 : decode cX0_corkFault 9 = .ok (.iconst 1, 1) := by decide +kernel
theorem dX0_corkFault_10 : decode cX0_corkFault 10 = .ok (.ireturn, 1) := by decide +kernel
theorem dX0_corkFault_11 : decode cX0_corkFault 11 = .ok (.aload_n 0, 1) := by decide +kernel
theorem dX0_corkFault_12 : decode cX0_corkFault 12 = .ok (.getfield 43, 3) := by decide +kernel
theorem dX0_corkFault_15 : decode cX0_corkFault 15 = .ok (.iload_n 1, 1) := by decide +kernel
theorem dX0_corkFault_16 : decode cX0_corkFault 16 = .ok (.iload_n 2, 1) := by decide +kernel
theorem dX0_corkFault_17 : decode cX0_corkFault 17 = .ok (.invokevirtual 94, 3) := by decide +kernel
theorem dX0_corkFault_20 : decode cX0_corkFault 20 = .ok (.ifCond .le 7, 3) := by decide +kernel
theorem dX0_corkFault_23 : decode cX0_corkFault 23 = .ok (.iconst 0, 1) := by decide +kernel
theorem dX0_corkFault_24 : decode cX0_corkFault 24 = .ok (.goto 4, 3) := by decide +kernel
theorem dX0_corkFault_27 : decode cX0_corkFault 27 = .ok (.iconst 3, 1) := by decide +kernel
theorem dX0_corkFault_28 : decode cX0_corkFault 28 = .ok (.ireturn, 1) := by decide +kernel
theorem dX0_replaceCorked_0 : decode cX0_replaceCorked 0 = .ok (.aload_n 0, 1) := by decide +kernel
theorem dX0_replaceCorked_1 : decode cX0_replaceCorked 1 = .ok (.getfield 52, 3) := by decide +kernel
theorem dX0_replaceCorked_4 : decode cX0_replaceCorked 4 = .ok (.iload_n 2, 1) := by decide +kernel
theorem dX0_replaceCorked_5 : decode cX0_replaceCorked 5 = .ok (.iconst 1, 1) := by decide +kernel
theorem dX0_replaceCorked_6 : decode cX0_replaceCorked 6 = .ok (.invokevirtual 132, 3) := by decide +kernel
theorem dX0_replaceCorked_9 : decode cX0_replaceCorked 9 = .ok (.aload_n 0, 1) := by decide +kernel
theorem dX0_replaceCorked_10 : decode cX0_replaceCorked 10 = .ok (.getfield 30, 3) := by decide +kernel
theorem dX0_replaceCorked_13 : decode cX0_replaceCorked 13 = .ok (.iload_n 2, 1) := by decide +kernel
theorem dX0_replaceCorked_14 : decode cX0_replaceCorked 14 = .ok (.dup2, 1) := by decide +kernel
theorem dX0_replaceCorked_15 : decode cX0_replaceCorked 15 = .ok (.iaload, 1) := by decide +kernel
theorem dX0_replaceCorked_16 : decode cX0_replaceCorked 16 = .ok (.iconst 1, 1) := by decide +kernel
theorem dX0_replaceCorked_17 : decode cX0_replaceCorked 17 = .ok (.iadd, 1) := by decide +kernel
theorem dX0_replaceCorked_18 : decode cX0_replaceCorked 18 = .ok (.iastore, 1) := by decide +kernel
theorem dX0_replaceCorked_19 : decode cX0_replaceCorked 19 = .ok (.aload_n 0, 1) := by decide +kernel
theorem dX0_replaceCorked_20 : decode cX0_replaceCorked 20 = .ok (.getfield 24, 3) := by decide +kernel
theorem dX0_replaceCorked_23 : decode cX0_replaceCorked 23 = .ok (.iload_n 2, 1) := by decide +kernel
theorem dX0_replaceCorked_24 : decode cX0_replaceCorked 24 = .ok (.iaload, 1) := by decide +kernel
theorem dX0_replaceCorked_25 : decode cX0_replaceCorked 25 = .ok (.ifCond .le 24, 3) := by decide +kernel
theorem dX0_replaceCorked_28 : decode cX0_replaceCorked 28 = .ok (.aload_n 0, 1) := by decide +kernel
theorem dX0_replaceCorked_29 : decode cX0_replaceCorked 29 = .ok (.getfield 24, 3) := by decide +kernel
theorem dX0_replaceCorked_32 : decode cX0_replaceCorked 32 = .ok (.iload_n 2, 1) := by decide +kernel
theorem dX0_replaceCorked_33 : decode cX0_replaceCorked 33 = .ok (.dup2, 1) := by decide +kernel
theorem dX0_replaceCorked_34 : decode cX0_replaceCorked 34 = .ok (.iaload, 1) := by decide +kernel
theorem dX0_replaceCorked_35 : decode cX0_replaceCorked 35 = .ok (.iconst 1, 1) := by decide +kernel
theorem dX0_replaceCorked_36 : decode cX0_replaceCorked 36 = .ok (.isub, 1) := by decide +kernel
theorem dX0_replaceCorked_37 : decode cX0_replaceCorked 37 = .ok (.iastore, 1) := by decide +kernel
theorem dX0_replaceCorked_38 : decode cX0_replaceCorked 38 = .ok (.aload_n 0, 1) := by decide +kernel
theorem dX0_replaceCorked_39 : decode cX0_replaceCorked 39 = .ok (.getfield 52, 3) := by decide +kernel
theorem dX0_replaceCorked_42 : decode cX0_replaceCorked 42 = .ok (.iload_n 2, 1) := by decide +kernel
theorem dX0_replaceCorked_43 : decode cX0_replaceCorked 43 = .ok (.iconst 1, 1) := by decide +kernel
theorem dX0_replaceCorked_44 : decode cX0_replaceCorked 44 = .ok (.invokevirtual 128, 3) := by decide +kernel
theorem dX0_replaceCorked_47 : decode cX0_replaceCorked 47 = .ok (.iconst 1, 1) := by decide +kernel
theorem dX0_replaceCorked_48 : decode cX0_replaceCorked 48 = .ok (.ireturn, 1) := by decide +kernel
theorem dX0_replaceCorked_49 : decode cX0_replaceCorked 49 = .ok (.aload_n 0, 1) := by decide +kernel
theorem dX0_replaceCorked_50 : decode cX0_replaceCorked 50 = .ok (.getfield 43, 3) := by decide +kernel
theorem dX0_replaceCorked_53 : decode cX0_replaceCorked 53 = .ok (.iload_n 1, 1) := by decide +kernel
theorem dX0_replaceCorked_54 : decode cX0_replaceCorked 54 = .ok (.iload_n 2, 1) := by decide +kernel
theorem dX0_replaceCorked_55 : decode cX0_replaceCorked 55 = .ok (.iconst (-1), 1) := by decide +kernel
theorem dX0_replaceCorked_56 : decode cX0_replaceCorked 56 = .ok (.invokevirtual 110, 3) := by decide +kernel
theorem dX0_replaceCorked_59 : decode cX0_replaceCorked 59 = .ok (.aload_n 0, 1) := by decide +kernel
theorem dX0_replaceCorked_60 : decode cX0_replaceCorked 60 = .ok (.getfield 15, 3) := by decide +kernel
theorem dX0_replaceCorked_63 : decode cX0_replaceCorked 63 = .ok (.iload_n 1, 1) := by decide +kernel
theorem dX0_replaceCorked_64 : decode cX0_replaceCorked 64 = .ok (.dup2, 1) := by decide +kernel
theorem dX0_replaceCorked_65 : decode cX0_replaceCorked 65 = .ok (.iaload, 1) := by decide +kernel
theorem dX0_replaceCorked_66 : decode cX0_replaceCorked 66 = .ok (.aload_n 0, 1) := by decide +kernel
theorem dX0_replaceCorked_67 : decode cX0_replaceCorked 67 = .ok (.getfield 18, 3) := by decide +kernel
theorem dX0_replaceCorked_70 : decode cX0_replaceCorked 70 = .ok (.iload_n 2, 1) := by decide +kernel
theorem dX0_replaceCorked_71 : decode cX0_replaceCorked 71 = .ok (.iaload, 1) := by decide +kernel
theorem dX0_replaceCorked_72 : decode cX0_replaceCorked 72 = .ok (.isub, 1) := by decide +kernel
theorem dX0_replaceCorked_73 : decode cX0_replaceCorked 73 = .ok (.iastore, 1) := by decide +kernel
theorem dX0_replaceCorked_74 : decode cX0_replaceCorked 74 = .ok (.iconst 0, 1) := by decide +kernel
theorem dX0_replaceCorked_75 : decode cX0_replaceCorked 75 = .ok (.ireturn, 1) := by decide +kernel
theorem dX0_settle_0 : decode cX0_settle 0 = .ok (.aload_n 0, 1) := by decide +kernel
theorem dX0_settle_1 : decode cX0_settle 1 = .ok (.getfield 15, 3) := by decide +kernel
theorem dX0_settle_4 : decode cX0_settle 4 = .ok (.iload_n 1, 1) := by decide +kernel
theorem dX0_settle_5 : decode cX0_settle 5 = .ok (.iaload, 1) := by decide +kernel
theorem dX0_settle_6 : decode cX0_settle 6 = .ok (.istore_n 2, 1) := by decide +kernel
theorem dX0_settle_7 : decode cX0_settle 7 = .ok (.aload_n 0, 1) := by decide +kernel
theorem dX0_settle_8 : decode cX0_settle 8 = .ok (.getfield 15, 3) := by decide +kernel
theorem dX0_settle_11 : decode cX0_settle 11 = .ok (.iload_n 1, 1) := by decide +kernel
theorem dX0_settle_12 : decode cX0_settle 12 = .ok (.iconst 0, 1) := by decide +kernel
theorem dX0_settle_13 : decode cX0_settle 13 = .ok (.iastore, 1) := by decide +kernel
theorem dX0_settle_14 : decode cX0_settle 14 = .ok (.iload_n 2, 1) := by decide +kernel
theorem dX0_settle_15 : decode cX0_settle 15 = .ok (.ireturn, 1) := by decide +kernel
theorem dX0_copyFrom_0 : decode cX0_copyFrom 0 = .ok (.aload_n 0, 1) := by decide +kernel
theorem dX0_copyFrom_1 : decode cX0_copyFrom 1 = .ok (.aload_n 1, 1) := by decide +kernel
theorem dX0_copyFrom_2 : decode cX0_copyFrom 2 = .ok (.getfield 56, 3) := by decide +kernel
theorem dX0_copyFrom_5 : decode cX0_copyFrom 5 = .ok (.putfield 56, 3) := by decide +kernel
theorem dX0_copyFrom_8 : decode cX0_copyFrom 8 = .ok (.aload_n 0, 1) := by decide +kernel
theorem dX0_copyFrom_9 : decode cX0_copyFrom 9 = .ok (.aload_n 1, 1) := by decide +kernel
theorem dX0_copyFrom_10 : decode cX0_copyFrom 10 = .ok (.getfield 60, 3) := by decide +kernel
theorem dX0_copyFrom_13 : decode cX0_copyFrom 13 = .ok (.putfield 60, 3) := by decide +kernel
theorem dX0_copyFrom_16 : decode cX0_copyFrom 16 = .ok (.aload_n 1, 1) := by decide +kernel
theorem dX0_copyFrom_17 : decode cX0_copyFrom 17 = .ok (.getfield 9, 3) := by decide +kernel
theorem dX0_copyFrom_20 : decode cX0_copyFrom 20 = .ok (.aload_n 0, 1) := by decide +kernel
theorem dX0_copyFrom_21 : decode cX0_copyFrom 21 = .ok (.getfield 9, 3) := by decide +kernel
theorem dX0_copyFrom_24 : decode cX0_copyFrom 24 = .ok (.invokestatic 135, 3) := by decide +kernel
theorem dX0_copyFrom_27 : decode cX0_copyFrom 27 = .ok (.aload_n 1, 1) := by decide +kernel
theorem dX0_copyFrom_28 : decode cX0_copyFrom 28 = .ok (.getfield 15, 3) := by decide +kernel
theorem dX0_copyFrom_31 : decode cX0_copyFrom 31 = .ok (.aload_n 0, 1) := by decide +kernel
theorem dX0_copyFrom_32 : decode cX0_copyFrom 32 = .ok (.getfield 15, 3) := by decide +kernel
theorem dX0_copyFrom_35 : decode cX0_copyFrom 35 = .ok (.invokestatic 135, 3) := by decide +kernel
theorem dX0_copyFrom_38 : decode cX0_copyFrom 38 = .ok (.aload_n 1, 1) := by decide +kernel
