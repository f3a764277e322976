theorem dX8_bin_87 : decode cX8_bin 87 = .ok (.iconst 1, 1) := by decide +kernel
theorem dX8_bin_88 : decode cX8_bin 88 = .ok (.isub, 1) := by decide +kernel
theorem dX8_bin_89 : decode cX8_bin 89 = .ok (.ireturn, 1) := by decide +kernel
theorem dX8_has_0 : decode cX8_has 0 = .ok (.aload_n 0, 1) := by decide +kernel
theorem dX8_has_1 : decode cX8_has 1 = .ok (.aload_n 0, 1) := by decide +kernel
theorem dX8_has_2 : decode cX8_has 2 = .ok (.iload_n 1, 1) := by decide +kernel
theorem dX8_has_3 : decode cX8_has 3 = .ok (.invokevirtual 174, 3) := by decide +kernel
theorem dX8_has_6 : decode cX8_has 6 = .ok (.ifCond .eq 11, 3) := by decide +kernel
theorem dX8_has_9 : decode cX8_has 9 = .ok (.aload_n 0, 1) := by decide +kernel
theorem dX8_has_10 : decode cX8_has 10 = .ok (.iload_n 2, 1) := by decide +kernel
theorem dX8_has_11 : decode cX8_has 11 = .ok (.invokevirtual 182, 3) := by decide +kernel
theorem dX8_has_14 : decode cX8_has 14 = .ok (.ifCond .ne 7, 3) := by decide +kernel
theorem dX8_has_17 : decode cX8_has 17 = .ok (.iconst 1, 1) := by decide +kernel
theorem dX8_has_18 : decode cX8_has 18 = .ok (.goto 20, 3) := by decide +kernel
theorem dX8_has_21 : decode cX8_has 21 = .ok (.iload_n 3, 1) := by decide +kernel
theorem dX8_has_22 : decode cX8_has 22 = .ok (.i2l, 1) := by decide +kernel
theorem dX8_has_23 : decode cX8_has 23 = .ok (.lconst 0, 1) := by decide +kernel
theorem dX8_has_24 : decode cX8_has 24 = .ok (.ldc2_w 190, 3) := by decide +kernel
theorem dX8_has_27 : decode cX8_has 27 = .ok (.invokestatic 108, 3) := by decide +kernel
theorem dX8_has_30 : decode cX8_has 30 = .ok (.ifCond .eq 7, 3) := by decide +kernel
theorem dX8_has_33 : decode cX8_has 33 = .ok (.iconst 0, 1) := by decide +kernel
theorem dX8_has_34 : decode cX8_has 34 = .ok (.goto 4, 3) := by decide +kernel
theorem dX8_has_37 : decode cX8_has 37 = .ok (.iconst 2, 1) := by decide +kernel
theorem dX8_has_38 : decode cX8_has 38 = .ok (.invokevirtual 115, 3) := by decide +kernel
theorem dX8_has_41 : decode cX8_has 41 = .ok (.ifCond .eq 7, 3) := by decide +kernel
theorem dX8_has_44 : decode cX8_has 44 = .ok (.iconst 0, 1) := by decide +kernel
theorem dX8_has_45 : decode cX8_has 45 = .ok (.goto 15, 3) := by decide +kernel
theorem dX8_has_48 : decode cX8_has 48 = .ok (.aload_n 0, 1) := by decide +kernel
theorem dX8_has_49 : decode cX8_has 49 = .ok (.getfield 16, 3) := by decide +kernel
theorem dX8_has_52 : decode cX8_has 52 = .ok (.iload_n 1, 1) := by decide +kernel
theorem dX8_has_53 : decode cX8_has 53 = .ok (.iload_n 2, 1) := by decide +kernel
theorem dX8_has_54 : decode cX8_has 54 = .ok (.invokestatic 54, 3) := by decide +kernel
theorem dX8_has_57 : decode cX8_has 57 = .ok (.iload_n 3, 1) := by decide +kernel
theorem dX8_has_58 : decode cX8_has 58 = .ok (.iadd, 1) := by decide +kernel
theorem dX8_has_59 : decode cX8_has 59 = .ok (.iaload, 1) := by decide +kernel
theorem dX8_has_60 : decode cX8_has 60 = .ok (.ireturn, 1) := by decide +kernel
theorem dX8_addMember_0 : decode cX8_addMember 0 = .ok (.aload_n 0, 1) := by decide +kernel
theorem dX8_addMember_1 : decode cX8_addMember 1 = .ok (.iload_n 1, 1) := by decide +kernel
theorem dX8_addMember_2 : decode cX8_addMember 2 = .ok (.i2l, 1) := by decide +kernel
theorem dX8_addMember_3 : decode cX8_addMember 3 = .ok (.lconst 0, 1) := by decide +kernel
theorem dX8_addMember_4 : decode cX8_addMember 4 = .ok (.ldc2_w 192, 3) := by decide +kernel
theorem dX8_addMember_7 : decode cX8_addMember 7 = .ok (.invokestatic 108, 3) := by decide +kernel
theorem dX8_addMember_10 : decode cX8_addMember 10 = .ok (.ifCond .ne 7, 3) := by decide +kernel
theorem dX8_addMember_13 : decode cX8_addMember 13 = .ok (.iconst 1, 1) := by decide +kernel
theorem dX8_addMember_14 : decode cX8_addMember 14 = .ok (.goto 19, 3) := by decide +kernel
theorem dX8_addMember_17 : decode cX8_addMember 17 = .ok (.aload_n 0, 1) := by decide +kernel
theorem dX8_addMember_18 : decode cX8_addMember 18 = .ok (.getfield 16, 3) := by decide +kernel
theorem dX8_addMember_21 : decode cX8_addMember 21 = .ok (.iconst 0, 1) := by decide +kernel
theorem dX8_addMember_22 : decode cX8_addMember 22 = .ok (.iaload, 1) := by decide +kernel
theorem dX8_addMember_23 : decode cX8_addMember 23 = .ok (.bipush 6, 2) := by decide +kernel
theorem dX8_addMember_25 : decode cX8_addMember 25 = .ok (.if_icmp .ne 7, 3) := by decide +kernel
theorem dX8_addMember_28 : decode cX8_addMember 28 = .ok (.iconst 2, 1) := by decide +kernel
theorem dX8_addMember_29 : decode cX8_addMember 29 = .ok (.goto 4, 3) := by decide +kernel
theorem dX8_addMember_32 : decode cX8_addMember 32 = .ok (.iconst 0, 1) := by decide +kernel
theorem dX8_addMember_33 : decode cX8_addMember 33 = .ok (.invokevirtual 115, 3) := by decide +kernel
theorem dX8_addMember_36 : decode cX8_addMember 36 = .ok (.ifCond .eq 5, 3) := by decide +kernel
theorem dX8_addMember_39 : decode cX8_addMember 39 = .ok (.iconst 0, 1) := by decide +kernel
theorem dX8_addMember_40 : decode cX8_addMember 40 = .ok (.ireturn, 1) := by decide +kernel
theorem dX8_addMember_41 : decode cX8_addMember 41 = .ok (.aload_n 0, 1) := by decide +kernel
theorem dX8_addMember_42 : decode cX8_addMember 42 = .ok (.invokevirtual 194, 3) := by decide +kernel
theorem dX8_addMember_45 : decode cX8_addMember 45 = .ok (.aload_n 0, 1) := by decide +kernel
theorem dX8_addMember_46 : decode cX8_addMember 46 = .ok (.getfield 16, 3) := by decide +kernel
theorem dX8_addMember_49 : decode cX8_addMember 49 = .ok (.iload_n 1, 1) := by decide +kernel
theorem dX8_addMember_50 : decode cX8_addMember 50 = .ok (.invokestatic 141, 3) := by decide +kernel
theorem dX8_addMember_53 : decode cX8_addMember 53 = .ok (.aload_n 0, 1) := by decide +kernel
theorem dX8_addMember_54 : decode cX8_addMember 54 = .ok (.getfield 16, 3) := by decide +kernel
theorem dX8_addMember_57 : decode cX8_addMember 57 = .ok (.iconst 0, 1) := by decide +kernel
theorem dX8_addMember_58 : decode cX8_addMember 58 = .ok (.iaload, 1) := by decide +kernel
theorem dX8_addMember_59 : decode cX8_addMember 59 = .ok (.iconst 1, 1) := by decide +kernel
theorem dX8_addMember_60 : decode cX8_addMember 60 = .ok (.isub, 1) := by decide +kernel
theorem dX8_addMember_61 : decode cX8_addMember 61 = .ok (.ireturn, 1) := by decide +kernel
theorem dX8_addWine_0 : decode cX8_addWine 0 = .ok (.aload_n 0, 1) := by decide +kernel
theorem dX8_addWine_1 : decode cX8_addWine 1 = .ok (.iload_n 1, 1) := by decide +kernel
theorem dX8_addWine_2 : decode cX8_addWine 2 = .ok (.i2l, 1) := by decide +kernel
theorem dX8_addWine_3 : decode cX8_addWine 3 = .ok (.lconst 1, 1) := by decide +kernel
theorem dX8_addWine_4 : decode cX8_addWine 4 = .ok (.ldc2_w 197, 3) := by decide +kernel
theorem dX8_addWine_7 : decode cX8_addWine 7 = .ok (.invokestatic 108, 3) := by decide +kernel
theorem dX8_addWine_10 : decode cX8_addWine 10 = .ok (.ifCond .eq 15, 3) := by decide +kernel
theorem dX8_addWine_13 : decode cX8_addWine 13 = .ok (.iload_n 2, 1) := by decide +kernel
theorem dX8_addWine_14 : decode cX8_addWine 14 = .ok (.i2l, 1) := by decide +kernel
theorem dX8_addWine_15 : decode cX8_addWine 15 = .ok (.lconst 0, 1) := by decide +kernel
theorem dX8_addWine_16 : decode cX8_addWine 16 = .ok (.ldc2_w 199, 3) := by decide +kernel
theorem dX8_addWine_19 : decode cX8_addWine 19 = .ok (.invokestatic 108, 3) := by decide +kernel
theorem dX8_addWine_22 : decode cX8_addWine 22 = .ok (.ifCond .ne 7, 3) := by decide +kernel
theorem dX8_addWine_25 : decode cX8_addWine 25 = .ok (.iconst 1, 1) := by decide +kernel
theorem dX8_addWine_26 : decode cX8_addWine 26 = .ok (.goto 19, 3) := by decide +kernel
theorem dX8_addWine_29 : decode cX8_addWine 29 = .ok (.aload_n 0, 1) := by decide +kernel
theorem dX8_addWine_30 : decode cX8_addWine 30 = .ok (.getfield 16, 3) := by decide +kernel
theorem dX8_addWine_33 : decode cX8_addWine 33 = .ok (.iconst 1, 1) := by decide +kernel
theorem dX8_addWine_34 : decode cX8_addWine 34 = .ok (.iaload, 1) := by decide +kernel
theorem dX8_addWine_35 : decode cX8_addWine 35 = .ok (.bipush 6, 2) := by decide +kernel
theorem dX8_addWine_37 : decode cX8_addWine 37 = .ok (.if_icmp .ne 7, 3) := by decide +kernel
theorem dX8_addWine_40 : decode cX8_addWine 40 = .ok (.iconst 2, 1) := by decide +kernel
theorem dX8_addWine_41 : decode cX8_addWine 41 = .ok (.goto 4, 3) := by decide +kernel
theorem dX8_addWine_44 : decode cX8_addWine 44 = .ok (.iconst 0, 1) := by decide +kernel
theorem dX8_addWine_45 : decode cX8_addWine 45 = .ok (.invokevirtual 115, 3) := by decide +kernel
theorem dX8_addWine_48 : decode cX8_addWine 48 = .ok (.ifCond .eq 5, 3) := by decide +kernel
theorem dX8_addWine_51 : decode cX8_addWine 51 = .ok (.iconst 0, 1) := by decide +kernel
theorem dX8_addWine_52 : decode cX8_addWine 52 = .ok (.ireturn, 1) := by decide +kernel
theorem dX8_addWine_53 : decode cX8_addWine 53 = .ok (.aload_n 0, 1) := by decide +kernel
theorem dX8_addWine_54 : decode cX8_addWine 54 = .ok (.invokevirtual 194, 3) := by decide +kernel
theorem dX8_addWine_57 : decode cX8_addWine 57 = .ok (.aload_n 0, 1) := by decide +kernel
theorem dX8_addWine_58 : decode cX8_addWine 58 = .ok (.getfield 16, 3) := by decide +kernel
theorem dX8_addWine_61 : decode cX8_addWine 61 = .ok (.iload_n 1, 1) := by decide +kernel
theorem dX8_addWine_62 : decode cX8_addWine 62 = .ok (.iload_n 2, 1) := by decide +kernel
theorem dX8_addWine_63 : decode cX8_addWine 63 = .ok (.invokestatic 145, 3) := by decide +kernel
theorem dX8_addWine_66 : decode cX8_addWine 66 = .ok (.aload_n 0, 1) := by decide +kernel
theorem dX8_addWine_67 : decode cX8_addWine 67 = .ok (.getfield 16, 3) := by decide +kernel
theorem dX8_addWine_70 : decode cX8_addWine 70 = .ok (.iconst 1, 1) := by decide +kernel
theorem dX8_addWine_71 : decode cX8_addWine 71 = .ok (.iaload, 1) := by decide +kernel
theorem dX8_addWine_72 : decode cX8_addWine 72 = .ok (.iconst 1, 1) := by decide +kernel
theorem dX8_addWine_73 : decode cX8_addWine 73 = .ok (.isub, 1) := by decide +kernel
theorem dX8_addWine_74 : decode cX8_addWine 74 = .ok (.ireturn, 1) := by decide +kernel
theorem dX8_addBin_0 : decode cX8_addBin 0 = .ok (.aload_n 0, 1) := by decide +kernel
theorem dX8_addBin_1 : decode cX8_addBin 1 = .ok (.iload_n 1, 1) := by decide +kernel
theorem dX8_addBin_2 : decode cX8_addBin 2 = .ok (.i2l, 1) := by decide +kernel
theorem dX8_addBin_3 : decode cX8_addBin 3 = .ok (.lconst 1, 1) := by decide +kernel
theorem dX8_addBin_4 : decode cX8_addBin 4 = .ok (.ldc2_w 201, 3) := by decide +kernel
theorem dX8_addBin_7 : decode cX8_addBin 7 = .ok (.invokestatic 108, 3) := by decide +kernel
theorem dX8_addBin_10 : decode cX8_addBin 10 = .ok (.ifCond .ne 7, 3) := by decide +kernel
theorem dX8_addBin_13 : decode cX8_addBin 13 = .ok (.iconst 1, 1) := by decide +kernel
theorem dX8_addBin_14 : decode cX8_addBin 14 = .ok (.goto 19, 3) := by decide +kernel
theorem dX8_addBin_17 : decode cX8_addBin 17 = .ok (.aload_n 0, 1) := by decide +kernel
theorem dX8_addBin_18 : decode cX8_addBin 18 = .ok (.getfield 16, 3) := by decide +kernel
theorem dX8_addBin_21 : decode cX8_addBin 21 = .ok (.iconst 2, 1) := by decide +kernel
theorem dX8_addBin_22 : decode cX8_addBin 22 = .ok (.iaload, 1) := by decide +kernel
theorem dX8_addBin_23 : decode cX8_addBin 23 = .ok (.bipush 8, 2) := by decide +kernel
theorem dX8_addBin_25 : decode cX8_addBin 25 = .ok (.if_icmp .ne 7, 3) := by decide +kernel
theorem dX8_addBin_28 : decode cX8_addBin 28 = .ok (.iconst 2, 1) := by decide +kernel
theorem dX8_addBin_29 : decode cX8_addBin 29 = .ok (.goto 4, 3) := by decide +kernel
theorem dX8_addBin_32 : decode cX8_addBin 32 = .ok (.iconst 0, 1) := by decide +kernel
theorem dX8_addBin_33 : decode cX8_addBin 33 = .ok (.invokevirtual 115, 3) := by decide +kernel
theorem dX8_addBin_36 : decode cX8_addBin 36 = .ok (.ifCond .eq 5, 3) := by decide +kernel
theorem dX8_addBin_39 : decode cX8_addBin 39 = .ok (.iconst 0, 1) := by decide +kernel
theorem dX8_addBin_40 : decode cX8_addBin 40 = .ok (.ireturn, 1) := by decide +kernel
theorem dX8_addBin_41 : decode cX8_addBin 41 = .ok (.aload_n 0, 1) := by decide +kernel
theorem dX8_addBin_42 : decode cX8_addBin 42 = .ok (.invokevirtual 194, 3) := by decide +kernel
theorem dX8_addBin_45 : decode cX8_addBin 45 = .ok (.aload_n 0, 1) := by decide +kernel
theorem dX8_addBin_46 : decode cX8_addBin 46 = .ok (.getfield 16, 3) := by decide +kernel
theorem dX8_addBin_49 : decode cX8_addBin 49 = .ok (.iload_n 1, 1) := by decide +kernel
theorem dX8_addBin_50 : decode cX8_addBin 50 = .ok (.invokestatic 148, 3) := by decide +kernel
theorem dX8_addBin_53 : decode cX8_addBin 53 = .ok (.aload_n 0, 1) := by decide +kernel
theorem dX8_addBin_54 : decode cX8_addBin 54 = .ok (.getfield 16, 3) := by decide +kernel
theorem dX8_addBin_57 : decode cX8_addBin 57 = .ok (.iconst 2, 1) := by decide +kernel
theorem dX8_addBin_58 : decode cX8_addBin 58 = .ok (.iaload, 1) := by decide +kernel
theorem dX8_addBin_59 : decode cX8_addBin 59 = .ok (.iconst 1, 1) := by decide +kernel
theorem dX8_addBin_60 : decode cX8_addBin 60 = .ok (.isub, 1) := by decide +kernel
theorem dX8_addBin_61 : decode cX8_addBin 61 = .ok (.ireturn, 1) := by decide +kernel
theorem dX8_order_0 : decode cX8_order 0 = .ok (.aload_n 0, 1) := by decide +kernel
theorem dX8_order_1 : decode cX8_order 1 = .ok (.iload_n 1, 1) := by decide +kernel
theorem dX8_order_2 : decode cX8_order 2 = .ok (.invokevirtual 174, 3) := by decide +kernel
theorem dX8_order_5 : decode cX8_order 5 = .ok (.ifCond .eq 15, 3) := by decide +kernel
theorem dX8_order_8 : decode cX8_order 8 = .ok (.aload_n 0, 1) := by decide +kernel
theorem dX8_order_9 : decode cX8_order 9 = .ok (.iload_n 2, 1) := by decide +kernel
theorem dX8_order_10 : decode cX8_order 10 = .ok (.invokevirtual 182, 3) := by decide +kernel
theorem dX8_order_13 : decode cX8_order 13 = .ok (.ifCond .eq 7, 3) := by decide +kernel
theorem dX8_order_16 : decode cX8_order 16 = .ok (.iconst 1, 1) := by decide +kernel
theorem dX8_order_17 : decode cX8_order 17 = .ok (.goto 4, 3) := by decide +kernel
theorem dX8_order_20 : decode cX8_order 20 = .ok (.iconst 0, 1) := by decide +kernel
theorem dX8_order_21 : decode cX8_order 21 = .ok (.istore 4, 2) := by decide +kernel
theorem dX8_order_23 : decode cX8_order 23 = .ok (.aload_n 0, 1) := by decide +kernel
theorem dX8_order_24 : decode cX8_order 24 = .ok (.iload 4, 2) := by decide +kernel
theorem dX8_order_26 : decode cX8_order 26 = .ok (.ifCond .ne 7, 3) := by decide +kernel
theorem dX8_order_29 : decode cX8_order 29 = .ok (.iconst 1, 1) := by decide +kernel
theorem dX8_order_30 : decode cX8_order 30 = .ok (.goto 38, 3) := by decide +kernel
theorem dX8_order_33 : decode cX8_order 33 = .ok (.iload_n 3, 1) := by decide +kernel
theorem dX8_order_34 : decode cX8_order 34 = .ok (.i2l, 1) := by decide +kernel
theorem dX8_order_35 : decode cX8_order 35 = .ok (.lconst 0, 1) := by decide +kernel
theorem dX8_order_36 : decode cX8_order 36 = .ok (.ldc2_w 199, 3) := by decide +kernel
theorem dX8_order_39 : decode cX8_order 39 = .ok (.invokestatic 108, 3) := by decide +kernel
theorem dX8_order_42 : decode cX8_order 42 = .ok (.ifCond .ne 7, 3) := by decide +kernel
theorem dX8_order_45 : decode cX8_order 45 = .ok (.iconst 2, 1) := by decide +kernel
theorem dX8_order_46 : decode cX8_order 46 = .ok (.goto 22, 3) := by decide +kernel
theorem dX8_order_49 : decode cX8_order 49 = .ok (.aload_n 0, 1) := by decide +kernel
theorem dX8_order_50 : decode cX8_order 50 = .ok (.getfield 16, 3) := by decide +kernel
theorem dX8_order_53 : decode cX8_order 53 = .ok (.iload_n 2, 1) := by decide +kernel
theorem dX8_order_54 : decode cX8_order 54 = .ok (.invokestatic 62, 3) := by decide +kernel
theorem dX8_order_57 : decode cX8_order 57 = .ok (.iconst 3, 1) := by decide +kernel
theorem dX8_order_58 : decode cX8_order 58 = .ok (.iadd, 1) := by decide +kernel
theorem dX8_order_59 : decode cX8_order 59 = .ok (.iaload, 1) := by decide +kernel
theorem dX8_order_60 : decode cX8_order 60 = .ok (.ifCond .ne 7, 3) := by decide +kernel
theorem dX8_order_63 : decode cX8_order 63 = .ok (.iconst 0, 1) := by decide +kernel
theorem dX8_order_64 : decode cX8_order 64 = .ok (.goto 4, 3) := by decide +kernel
theorem dX8_order_67 : decode cX8_order 67 = .ok (.iconst 3, 1) := by decide +kernel
theorem dX8_order_68 : decode cX8_order 68 = .ok (.invokevirtual 115, 3) := by decide +kernel
theorem dX8_order_71 : decode cX8_order 71 = .ok (.ifCond .eq 5, 3) := by decide +kernel
theorem dX8_order_74 : decode cX8_order 74 = .ok (.iconst 0, 1) := by decide +kernel
theorem dX8_order_75 : decode cX8_order 75 = .ok (.ireturn, 1) := by decide +kernel
theorem dX8_order_76 : decode cX8_order 76 = .ok (.aload_n 0, 1) := by decide +kernel
theorem dX8_order_77 : decode cX8_order 77 = .ok (.invokevirtual 194, 3) := by decide +kernel
theorem dX8_order_80 : decode cX8_order 80 = .ok (.aload_n 0, 1) := by decide +kernel
theorem dX8_order_81 : decode cX8_order 81 = .ok (.getfield 16, 3) := by decide +kernel
theorem dX8_order_84 : decode cX8_order 84 = .ok (.iload_n 1, 1) := by decide +kernel
theorem dX8_order_85 : decode cX8_order 85 = .ok (.iload_n 2, 1) := by decide +kernel
theorem dX8_order_86 : decode cX8_order 86 = .ok (.invokestatic 54, 3) := by decide +kernel
theorem dX8_order_89 : decode cX8_order 89 = .ok (.iaload, 1) := by decide +kernel
theorem dX8_order_90 : decode cX8_order 90 = .ok (.istore 5, 2) := by decide +kernel
theorem dX8_order_92 : decode cX8_order 92 = .ok (.aload_n 0, 1) := by decide +kernel
theorem dX8_order_93 : decode cX8_order 93 = .ok (.getfield 16, 3) := by decide +kernel
theorem dX8_order_96 : decode cX8_order 96 = .ok (.iload_n 1, 1) := by decide +kernel
theorem dX8_order_97 : decode cX8_order 97 = .ok (.iload_n 2, 1) := by decide +kernel
theorem dX8_order_98 : decode cX8_order 98 = .ok (.invokestatic 54, 3) := by decide +kernel
theorem dX8_order_101 : decode cX8_order 101 = .ok (.iload_n 3, 1) := by decide +kernel
theorem dX8_order_102 : decode cX8_order 102 = .ok (.iastore, 1) := by decide +kernel
theorem dX8_order_103 : decode cX8_order 103 = .ok (.iload 5, 2) := by decide +kernel
theorem dX8_order_105 : decode cX8_order 105 = .ok (.ireturn, 1) := by decide +kernel
theorem dX8_allocate_0 : decode cX8_allocate 0 = .ok (.aload_n 0, 1) := by decide +kernel
theorem dX8_allocate_1 : decode cX8_allocate 1 = .ok (.aload_n 0, 1) := by decide +kernel
theorem dX8_allocate_2 : decode cX8_allocate 2 = .ok (.iload_n 1, 1) := by decide +kernel
theorem dX8_allocate_3 : decode cX8_allocate 3 = .ok (.invokevirtual 182, 3) := by decide +kernel
theorem dX8_allocate_6 : decode cX8_allocate 6 = .ok (.ifCond .ne 7, 3) := by decide +kernel
theorem dX8_allocate_9 : decode cX8_allocate 9 = .ok (.iconst 1, 1) := by decide +kernel
theorem dX8_allocate_10 : decode cX8_allocate 10 = .ok (.goto 22, 3) := by decide +kernel
theorem dX8_allocate_13 : decode cX8_allocate 13 = .ok (.aload_n 0, 1) := by decide +kernel
theorem dX8_allocate_14 : decode cX8_allocate 14 = .ok (.getfield 16, 3) := by decide +kernel
theorem dX8_allocate_17 : decode cX8_allocate 17 = .ok (.iload_n 1, 1) := by decide +kernel
theorem dX8_allocate_18 : decode cX8_allocate 18 = .ok (.invokestatic 62, 3) := by decide +kernel
theorem dX8_allocate_21 : decode cX8_allocate 21 = .ok (.iconst 3, 1) := by decide +kernel
theorem dX8_allocate_22 : decode cX8_allocate 22 = .ok (.iadd, 1) := by decide +kernel
theorem dX8_allocate_23 : decode cX8_allocate 23 = .ok (.iaload, 1) := by decide +kernel
theorem dX8_allocate_24 : decode cX8_allocate 24 = .ok (.ifCond .ne 7, 3) := by decide +kernel
theorem dX8_allocate_27 : decode cX8_allocate 27 = .ok (.iconst 0, 1) := by decide +kernel
theorem dX8_allocate_28 : decode cX8_allocate 28 = .ok (.goto 4, 3) := by decide +kernel
theorem dX8_allocate_31 : decode cX8_allocate 31 = .ok (.iconst 2, 1) := by decide +kernel
theorem dX8_allocate_32 : decode cX8_allocate 32 = .ok (.invokevirtual 115, 3) := by decide +kernel
theorem dX8_allocate_35 : decode cX8_allocate 35 = .ok (.ifCond .eq 5, 3) := by decide +kernel
theorem dX8_allocate_38 : decode cX8_allocate 38 = .ok (.iconst 0, 1) := by decide +kernel
theorem dX8_allocate_39 : decode cX8_allocate 39 = .ok (.ireturn, 1) := by decide +kernel
theorem dX8_allocate_40 : decode cX8_allocate 40 = .ok (.aload_n 0, 1) := by decide +kernel
theorem dX8_allocate_41 : decode cX8_allocate 41 = .ok (.invokevirtual 194, 3) := by decide +kernel
theorem dX8_allocate_44 : decode cX8_allocate 44 = .ok (.aload_n 0, 1) := by decide +kernel
theorem dX8_allocate_45 : decode cX8_allocate 45 = .ok (.aload_n 0, 1) := by decide +kernel
theorem dX8_allocate_46 : decode cX8_allocate 46 = .ok (.getfield 16, 3) := by decide +kernel
theorem dX8_allocate_49 : decode cX8_allocate 49 = .ok (.iload_n 1, 1) := by decide +kernel
theorem dX8_allocate_50 : decode cX8_allocate 50 = .ok (.invokevirtual 203, 3) := by decide +kernel
theorem dX8_allocate_53 : decode cX8_allocate 53 = .ok (.ireturn, 1) := by decide +kernel
theorem dX8_deliver_0 : decode cX8_deliver 0 = .ok (.aload_n 0, 1) := by decide +kernel
theorem dX8_deliver_1 : decode cX8_deliver 1 = .ok (.aload_n 0, 1) := by decide +kernel
theorem dX8_deliver_2 : decode cX8_deliver 2 = .ok (.iload_n 1, 1) := by decide +kernel
theorem dX8_deliver_3 : decode cX8_deliver 3 = .ok (.invokevirtual 182, 3) := by decide +kernel
theorem dX8_deliver_6 : decode cX8_deliver 6 = .ok (.ifCond .ne 7, 3) := by decide +kernel
theorem dX8_deliver_9 : decode cX8_deliver 9 = .ok (.iconst 1, 1) := by decide +kernel
theorem dX8_deliver_10 : decode cX8_deliver 10 = .ok (.goto 19, 3) := by decide +kernel
theorem dX8_deliver_13 : decode cX8_deliver 13 = .ok (.aload_n 0, 1) := by decide +kernel
theorem dX8_deliver_14 : decode cX8_deliver 14 = .ok (.getfield 16, 3) := by decide +kernel
theorem dX8_deliver_17 : decode cX8_deliver 17 = .ok (.iload_n 1, 1) := by decide +kernel
theorem dX8_deliver_18 : decode cX8_deliver 18 = .ok (.invokestatic 206, 3) := by decide +kernel
theorem dX8_deliver_21 : decode cX8_deliver 21 = .ok (.ifCond .eq 7, 3) := by decide +kernel
theorem dX8_deliver_24 : decode cX8_deliver 24 = .ok (.iconst 0, 1) := by decide +kernel
theorem dX8_deliver_25 : decode cX8_deliver 25 = .ok (.goto 4, 3) := by decide +kernel
theorem dX8_deliver_28 : decode cX8_deliver 28 = .ok (.iconst 2, 1) := by decide +kernel
theorem dX8_deliver_29 : decode cX8_deliver 29 = .ok (.invokevirtual 115, 3) := by decide +kernel
theorem dX8_deliver_32 : decode cX8_deliver 32 = .ok (.ifCond .eq 5, 3) := by decide +kernel
theorem dX8_deliver_35 : decode cX8_deliver 35 = .ok (.iconst 0, 1) := by decide +kernel
theorem dX8_deliver_36 : decode cX8_deliver 36 = .ok (.ireturn, 1) := by decide +kernel
theorem dX8_deliver_37 : decode cX8_deliver 37 = .ok (.aload_n 0, 1) := by decide +kernel
theorem dX8_deliver_38 : decode cX8_deliver 38 = .ok (.invokevirtual 194, 3) := by decide +kernel
theorem dX8_deliver_41 : decode cX8_deliver 41 = .ok (.aload_n 0, 1) := by decide +kernel
theorem dX8_deliver_42 : decode cX8_deliver 42 = .ok (.getfield 16, 3) := by decide +kernel
theorem dX8_deliver_45 : decode cX8_deliver 45 = .ok (.iload_n 1, 1) := by decide +kernel
theorem dX8_deliver_46 : decode cX8_deliver 46 = .ok (.invokestatic 210, 3) := by decide +kernel
theorem dX8_deliver_49 : decode cX8_deliver 49 = .ok (.ireturn, 1) := by decide +kernel
theorem dX8_drink_0 : decode cX8_drink 0 = .ok (.aload_n 0, 1) := by decide +kernel
theorem dX8_drink_1 : decode cX8_drink 1 = .ok (.iload_n 1, 1) := by decide +kernel
theorem dX8_drink_2 : decode cX8_drink 2 = .ok (.invokevirtual 174, 3) := by decide +kernel
theorem dX8_drink_5 : decode cX8_drink 5 = .ok (.ifCond .eq 15, 3) := by decide +kernel
theorem dX8_drink_8 : decode cX8_drink 8 = .ok (.aload_n 0, 1) := by decide +kernel
theorem dX8_drink_9 : decode cX8_drink 9 = .ok (.iload_n 2, 1) := by decide +kernel
theorem dX8_drink_10 : decode cX8_drink 10 = .ok (.invokevirtual 182, 3) := by decide +kernel
theorem dX8_drink_13 : decode cX8_drink 13 = .ok (.ifCond .eq 7, 3) := by decide +kernel
theorem dX8_drink_16 : decode cX8_drink 16 = .ok (.iconst 1, 1) := by decide +kernel
theorem dX8_drink_17 : decode cX8_drink 17 = .ok (.goto 4, 3) := by decide +kernel
theorem dX8_drink_20 : decode cX8_drink 20 = .ok (.iconst 0, 1) := by decide +kernel
theorem dX8_drink_21 : decode cX8_drink 21 = .ok (.istore 4, 2) := by decide +kernel
theorem dX8_drink_23 : decode cX8_drink 23 = .ok (.aload_n 0, 1) := by decide +kernel
theorem dX8_drink_24 : decode cX8_drink 24 = .ok (.iload 4, 2) := by decide +kernel
theorem dX8_drink_26 : decode cX8_drink 26 = .ok (.ifCond .ne 7, 3) := by decide +kernel
theorem dX8_drink_29 : decode cX8_drink 29 = .ok (.iconst 1, 1) := by decide +kernel
theorem dX8_drink_30 : decode cX8_drink 30 = .ok (.goto 40, 3) := by decide +kernel
theorem dX8_drink_33 : decode cX8_drink 33 = .ok (.iload_n 3, 1) := by decide +kernel
theorem dX8_drink_34 : decode cX8_drink 34 = .ok (.i2l, 1) := by decide +kernel
theorem dX8_drink_35 : decode cX8_drink 35 = .ok (.lconst 1, 1) := by decide +kernel
theorem dX8_drink_36 : decode cX8_drink 36 = .ok (.ldc2_w 199, 3) := by decide +kernel
theorem dX8_drink_39 : decode cX8_drink 39 = .ok (.invokestatic 108, 3) := by decide +kernel
theorem dX8_drink_42 : decode cX8_drink 42 = .ok (.ifCond .ne 7, 3) := by decide +kernel
theorem dX8_drink_45 : decode cX8_drink 45 = .ok (.iconst 2, 1) := by decide +kernel
theorem dX8_drink_46 : decode cX8_drink 46 = .ok (.goto 24, 3) := by decide +kernel
theorem dX8_drink_49 : decode cX8_drink 49 = .ok (.aload_n 0, 1) := by decide +kernel
theorem dX8_drink_50 : decode cX8_drink 50 = .ok (.getfield 16, 3) := by decide +kernel
theorem dX8_drink_53 : decode cX8_drink 53 = .ok (.iload_n 1, 1) := by decide +kernel
theorem dX8_drink_54 : decode cX8_drink 54 = .ok (.iload_n 2, 1) := by decide +kernel
theorem dX8_drink_55 : decode cX8_drink 55 = .ok (.invokestatic 54, 3) := by decide +kernel
theorem dX8_drink_58 : decode cX8_drink 58 = .ok (.iconst 2, 1) := by decide +kernel
theorem dX8_drink_59 : decode cX8_drink 59 = .ok (.iadd, 1) := by decide +kernel
theorem dX8_drink_60 : decode cX8_drink 60 = .ok (.iaload, 1) := by decide +kernel
theorem dX8_drink_61 : decode cX8_drink 61 = .ok (.iload_n 3, 1) := by decide +kernel
theorem dX8_drink_62 : decode cX8_drink 62 = .ok (.if_icmp .lt 7, 3) := by decide +kernel
theorem dX8_drink_65 : decode cX8_drink 65 = .ok (.iconst 0, 1) := by decide +kernel
theorem dX8_drink_66 : decode cX8_drink 66 = .ok (.goto 4, 3) := by decide +kernel
theorem dX8_drink_69 : decode cX8_drink 69 = .ok (.iconst 3, 1) := by decide +kernel
theorem dX8_drink_70 : decode cX8_drink 70 = .ok (.invokevirtual 115, 3) := by decide +kernel
theorem dX8_drink_73 : decode cX8_drink 73 = .ok (.ifCond .eq 5, 3) := by decide +kernel
theorem dX8_drink_76 : decode cX8_drink 76 = .ok (.iconst 0, 1) := by decide +kernel
theorem dX8_drink_77 : decode cX8_drink 77 = .ok (.ireturn, 1) := by decide +kernel
theorem dX8_drink_78 : decode cX8_drink 78 = .ok (.aload_n 0, 1) := by decide +kernel
theorem dX8_drink_79 : decode cX8_drink 79 = .ok (.invokevirtual 194, 3) := by decide +kernel
theorem dX8_drink_82 : decode cX8_drink 82 = .ok (.aload_n 0, 1) := by decide +kernel
theorem dX8_drink_83 : decode cX8_drink 83 = .ok (.getfield 16, 3) := by decide +kernel
theorem dX8_drink_86 : decode cX8_drink 86 = .ok (.iload_n 1, 1) := by decide +kernel
theorem dX8_drink_87 : decode cX8_drink 87 = .ok (.iload_n 2, 1) := by decide +kernel
theorem dX8_drink_88 : decode cX8_drink 88 = .ok (.iload_n 3, 1) := by decide +kernel
theorem dX8_drink_89 : decode cX8_drink 89 = .ok (.invokestatic 213, 3) := by decide +kernel
theorem dX8_drink_92 : decode cX8_drink 92 = .ok (.aload_n 0, 1) := by decide +kernel
theorem dX8_drink_93 : decode cX8_drink 93 = .ok (.getfield 16, 3) := by decide +kernel
theorem dX8_drink_96 : decode cX8_drink 96 = .ok (.iload_n 1, 1) := by decide +kernel
theorem dX8_drink_97 : decode cX8_drink 97 = .ok (.iload_n 2, 1) := by decide +kernel
theorem dX8_drink_98 : decode cX8_drink 98 = .ok (.invokestatic 54, 3) := by decide +kernel
theorem dX8_drink_101 : decode cX8_drink 101 = .ok (.iconst 2, 1) := by decide +kernel
theorem dX8_drink_102 : decode cX8_drink 102 = .ok (.iadd, 1) := by decide +kernel
theorem dX8_drink_103 : decode cX8_drink 103 = .ok (.iaload, 1) := by decide +kernel
theorem dX8_drink_104 : decode cX8_drink 104 = .ok (.ireturn, 1) := by decide +kernel
theorem dX8_give_0 : decode cX8_give 0 = .ok (.aload_n 0, 1) := by decide +kernel
theorem dX8_give_1 : decode cX8_give 1 = .ok (.iload_n 1, 1) := by decide +kernel
theorem dX8_give_2 : decode cX8_give 2 = .ok (.invokevirtual 174, 3) := by decide +kernel
theorem dX8_give_5 : decode cX8_give 5 = .ok (.ifCond .eq 23, 3) := by decide +kernel
theorem dX8_give_8 : decode cX8_give 8 = .ok (.aload_n 0, 1) := by decide +kernel
theorem dX8_give_9 : decode cX8_give 9 = .ok (.iload_n 2, 1) := by decide +kernel
theorem dX8_give_10 : decode cX8_give 10 = .ok (.invokevirtual 174, 3) := by decide +kernel
theorem dX8_give_13 : decode cX8_give 13 = .ok (.ifCond .eq 15, 3) := by decide +kernel
theorem dX8_give_16 : decode cX8_give 16 = .ok (.aload_n 0, 1) := by decide +kernel
theorem dX8_give_17 : decode cX8_give 17 = .ok (.iload_n 3, 1) := by decide +kernel
theorem dX8_give_18 : decode cX8_give 18 = .ok (.invokevirtual 182, 3) := by decide +kernel
theorem dX8_give_21 : decode cX8_give 21 = .ok (.ifCond .eq 7, 3) := by decide +kernel
theorem dX8_give_24 : decode cX8_give 24 = .ok (.iconst 1, 1) := by decide +kernel
theorem dX8_give_25 : decode cX8_give 25 = .ok (.goto 4, 3) := by decide +kernel
theorem dX8_give_28 : decode cX8_give 28 = .ok (.iconst 0, 1) := by decide +kernel
theorem dX8_give_29 : decode cX8_give 29 = .ok (.istore 5, 2) := by decide +kernel
theorem dX8_give_31 : decode cX8_give 31 = .ok (.aload_n 0, 1) := by decide +kernel
theorem dX8_give_32 : decode cX8_give 32 = .ok (.iload 5, 2) := by decide +kernel
theorem dX8_give_34 : decode cX8_give 34 = .ok (.ifCond .ne 7, 3) := by decide +kernel
theorem dX8_give_37 : decode cX8_give 37 = .ok (.iconst 1, 1) := by decide +kernel
theorem dX8_give_38 : decode cX8_give 38 = .ok (.goto 47, 3) := by decide +kernel
theorem dX8_give_41 : decode cX8_give 41 = .ok (.iload_n 1, 1) := by decide +kernel
theorem dX8_give_42 : decode cX8_give 42 = .ok (.iload_n 2, 1) := by decide +kernel
theorem dX8_give_43 : decode cX8_give 43 = .ok (.if_icmp .eq 16, 3) := by decide +kernel
theorem dX8_give_46 : decode cX8_give 46 = .ok (.iload 4, 2) := by decide +kernel
theorem dX8_give_48 : decode cX8_give 48 = .ok (.i2l, 1) := by decide +kernel
theorem dX8_give_49 : decode cX8_give 49 = .ok (.lconst 1, 1) := by decide +kernel
theorem dX8_give_50 : decode cX8_give 50 = .ok (.ldc2_w 199, 3) := by decide +kernel
theorem dX8_give_53 : decode cX8_give 53 = .ok (.invokestatic 108, 3) := by decide +kernel
theorem dX8_give_56 : decode cX8_give 56 = .ok (.ifCond .ne 7, 3) := by decide +kernel
theorem dX8_give_59 : decode cX8_give 59 = .ok (.iconst 2, 1) := by decide +kernel
theorem dX8_give_60 : decode cX8_give 60 = .ok (.goto 25, 3) := by decide +kernel
theorem dX8_give_63 : decode cX8_give 63 = .ok (.aload_n 0, 1) := by decide +kernel
theorem dX8_give_64 : decode cX8_give 64 = .ok (.getfield 16, 3) := by decide +kernel
theorem dX8_give_67 : decode cX8_give 67 = .ok (.iload_n 1, 1) := by decide +kernel
theorem dX8_give_68 : decode cX8_give 68 = .ok (.iload_n 3, 1) := by decide +kernel
theorem dX8_give_69 : decode cX8_give 69 = .ok (.invokestatic 54, 3) := by decide +kernel
theorem dX8_give_72 : decode cX8_give 72 = .ok (.iconst 2, 1) := by decide +kernel
theorem dX8_give_73 : decode cX8_give 73 = .ok (.iadd, 1) := by decide +kernel
theorem dX8_give_74 : decode cX8_give 74 = .ok (.iaload, 1) := by decide +kernel
theorem dX8_give_75 : decode cX8_give 75 = .ok (.iload 4, 2) := by decide +kernel
theorem dX8_give_77 : decode cX8_give 77 = .ok (.if_icmp .lt 7, 3) := by decide +kernel
theorem dX8_give_80 : decode cX8_give 80 = .ok (.iconst 0, 1) := by decide +kernel
theorem dX8_give_81 : decode cX8_give 81 = .ok (.goto 4, 3) := by decide +kernel
theorem dX8_give_84 : decode cX8_give 84 = .ok (.iconst 3, 1) := by decide +kernel
theorem dX8_give_85 : decode cX8_give 85 = .ok (.invokevirtual 115, 3) := by decide +kernel
theorem dX8_give_88 : decode cX8_give 88 = .ok (.ifCond .eq 5, 3) := by decide +kernel
theorem dX8_give_91 : decode cX8_give 91 = .ok (.iconst 0, 1) := by decide +kernel
theorem dX8_give_92 : decode cX8_give 92 = .ok (.ireturn, 1) := by decide +kernel
theorem dX8_give_93 : decode cX8_give 93 = .ok (.aload_n 0, 1) := by decide +kernel
theorem dX8_give_94 : decode cX8_give 94 = .ok (.invokevirtual 194, 3) := by decide +kernel
theorem dX8_give_97 : decode cX8_give 97 = .ok (.aload_n 0, 1) := by decide +kernel
theorem dX8_give_98 : decode cX8_give 98 = .ok (.getfield 16, 3) := by decide +kernel
theorem dX8_give_101 : decode cX8_give 101 = .ok (.iload_n 1, 1) := by decide +kernel
theorem dX8_give_102 : decode cX8_give 102 = .ok (.iload_n 2, 1) := by decide +kernel
theorem dX8_give_103 : decode cX8_give 103 = .ok (.iload_n 3, 1) := by decide +kernel
theorem dX8_give_104 : decode cX8_give 104 = .ok (.iload 4, 2) := by decide +kernel
theorem dX8_give_106 : decode cX8_give 106 = .ok (.invokestatic 217, 3) := by decide +kernel
theorem dX8_give_109 : decode cX8_give 109 = .ok (.aload_n 0, 1) := by decide +kernel
theorem dX8_give_110 : decode cX8_give 110 = .ok (.getfield 16, 3) := by decide +kernel
theorem dX8_give_113 : decode cX8_give 113 = .ok (.iload_n 2, 1) := by decide +kernel
theorem dX8_give_114 : decode cX8_give 114 = .ok (.iload_n 3, 1) := by decide +kernel
theorem dX8_give_115 : decode cX8_give 115 = .ok (.invokestatic 54, 3) := by decide +kernel
theorem dX8_give_118 : decode cX8_give 118 = .ok (.iconst 2, 1) := by decide +kernel
theorem dX8_give_119 : decode cX8_give 119 = .ok (.iadd, 1) := by decide +kernel
theorem dX8_give_120 : decode cX8_give 120 = .ok (.iaload, 1) := by decide +kernel
theorem dX8_give_121 : decode cX8_give 121 = .ok (.ireturn, 1) := by decide +kernel
theorem dX8_cork_0 : decode cX8_cork 0 = .ok (.aload_n 0, 1) := by decide +kernel
theorem dX8_cork_1 : decode cX8_cork 1 = .ok (.iload_n 1, 1) := by decide +kernel
theorem dX8_cork_2 : decode cX8_cork 2 = .ok (.invokevirtual 174, 3) := by decide +kernel
theorem dX8_cork_5 : decode cX8_cork 5 = .ok (.ifCond .eq 15, 3) := by decide +kernel
theorem dX8_cork_8 : decode cX8_cork 8 = .ok (.aload_n 0, 1) := by decide +kernel
theorem dX8_cork_9 : decode cX8_cork 9 = .ok (.iload_n 2, 1) := by decide +kernel
theorem dX8_cork_10 : decode cX8_cork 10 = .ok (.invokevirtual 182, 3) := by decide +kernel
theorem dX8_cork_13 : decode cX8_cork 13 = .ok (.ifCond .eq 7, 3) := by decide +kernel
theorem dX8_cork_16 : decode cX8_cork 16 = .ok (.iconst 1, 1) := by decide +kernel
theorem dX8_cork_17 : decode cX8_cork 17 = .ok (.goto 4, 3) := by decide +kernel
theorem dX8_cork_20 : decode cX8_cork 20 = .ok (.iconst 0, 1) := by decide +kernel
theorem dX8_cork_21 : decode cX8_cork 21 = .ok (.istore_n 3, 1) := by decide +kernel
theorem dX8_cork_22 : decode cX8_cork 22 = .ok (.aload_n 0, 1) := by decide +kernel
theorem dX8_cork_23 : decode cX8_cork 23 = .ok (.iload_n 3, 1) := by decide +kernel
theorem dX8_cork_24 : decode cX8_cork 24 = .ok (.ifCond .ne 7, 3) := by decide +kernel
theorem dX8_cork_27 : decode cX8_cork 27 = .ok (.iconst 1, 1) := by decide +kernel
theorem dX8_cork_28 : decode cX8_cork 28 = .ok (.goto 23, 3) := by decide +kernel
theorem dX8_cork_31 : decode cX8_cork 31 = .ok (.aload_n 0, 1) := by decide +kernel
theorem dX8_cork_32 : decode cX8_cork 32 = .ok (.getfield 16, 3) := by decide +kernel
theorem dX8_cork_35 : decode cX8_cork 35 = .ok (.iload_n 1, 1) := by decide +kernel
theorem dX8_cork_36 : decode cX8_cork 36 = .ok (.iload_n 2, 1) := by decide +kernel
theorem dX8_cork_37 : decode cX8_cork 37 = .ok (.invokestatic 54, 3) := by decide +kernel
theorem dX8_cork_40 : decode cX8_cork 40 = .ok (.iconst 2, 1) := by decide +kernel
theorem dX8_cork_41 : decode cX8_cork 41 = .ok (.iadd, 1) := by decide +kernel
theorem dX8_cork_42 : decode cX8_cork 42 = .ok (.iaload, 1) := by decide +kernel
theorem dX8_cork_43 : decode cX8_cork 43 = .ok (.ifCond .le 7, 3) := by decide +kernel
theorem dX8_cork_46 : decode cX8_cork 46 = .ok (.iconst 0, 1) := by decide +kernel
theorem dX8_cork_47 : decode cX8_cork 47 = .ok (.goto 4, 3) := by decide +kernel
theorem dX8_cork_50 : decode cX8_cork 50 = .ok (.iconst 2, 1) := by decide +kernel
theorem dX8_cork_51 : decode cX8_cork 51 = .ok (.invokevirtual 115, 3) := by decide +kernel
theorem dX8_cork_54 : decode cX8_cork 54 = .ok (.ifCond .eq 5, 3) := by decide +kernel
theorem dX8_cork_57 : decode cX8_cork 57 = .ok (.iconst 0, 1) := by decide +kernel
theorem dX8_cork_58 : decode cX8_cork 58 = .ok (.ireturn, 1) := by decide +kernel
theorem dX8_cork_59 : decode cX8_cork 59 = .ok (.aload_n 0, 1) := by decide +kernel
theorem dX8_cork_60 : decode cX8_cork 60 = .ok (.invokevirtual 194, 3) := by decide +kernel
theorem dX8_cork_63 : decode cX8_cork 63 = .ok (.aload_n 0, 1) := by decide +kernel
theorem dX8_cork_64 : decode cX8_cork 64 = .ok (.getfield 16, 3) := by decide +kernel
theorem dX8_cork_67 : decode cX8_cork 67 = .ok (.iload_n 1, 1) := by decide +kernel
theorem dX8_cork_68 : decode cX8_cork 68 = .ok (.iload_n 2, 1) := by decide +kernel
theorem dX8_cork_69 : decode cX8_cork 69 = .ok (.invokestatic 221, 3) := by decide +kernel
theorem dX8_cork_72 : decode cX8_cork 72 = .ok (.ireturn, 1) := by decide +kernel
theorem dX8_move_0 : decode cX8_move 0 = .ok (.aload_n 0, 1) := by decide +kernel
theorem dX8_move_1 : decode cX8_move 1 = .ok (.iload_n 1, 1) := by decide +kernel
theorem dX8_move_2 : decode cX8_move 2 = .ok (.invokevirtual 187, 3) := by decide +kernel
theorem dX8_move_5 : decode cX8_move 5 = .ok (.ifCond .eq 15, 3) := by decide +kernel
theorem dX8_move_8 : decode cX8_move 8 = .ok (.aload_n 0, 1) := by decide +kernel
theorem dX8_move_9 : decode cX8_move 9 = .ok (.iload_n 2, 1) := by decide +kernel
theorem dX8_move_10 : decode cX8_move 10 = .ok (.invokevirtual 187, 3) := by decide +kernel
theorem dX8_move_13 : decode cX8_move 13 = .ok (.ifCond .eq 7, 3) := by decide +kernel
theorem dX8_move_16 : decode cX8_move 16 = .ok (.iconst 1, 1) := by decide +kernel
theorem dX8_move_17 : decode cX8_move 17 = .ok (.goto 4, 3) := by decide +kernel
theorem dX8_move_20 : decode cX8_move 20 = .ok (.iconst 0, 1) := by decide +kernel
theorem dX8_move_21 : decode cX8_move 21 = .ok (.istore 4, 2) := by decide +kernel
theorem dX8_move_23 : decode cX8_move 23 = .ok (.aload_n 0, 1) := by decide +kernel
theorem dX8_move_24 : decode cX8_move 24 = .ok (.iload 4, 2) := by decide +kernel
theorem dX8_move_26 : decode cX8_move 26 = .ok (.ifCond .ne 7, 3) := by decide +kernel
theorem dX8_move_29 : decode cX8_move 29 = .ok (.iconst 1, 1) := by decide +kernel
theorem dX8_move_30 : decode cX8_move 30 = .ok (.goto 42, 3) := by decide +kernel
theorem dX8_move_33 : decode cX8_move 33 = .ok (.iload_n 1, 1) := by decide +kernel
theorem dX8_move_34 : decode cX8_move 34 = .ok (.iload_n 2, 1) := by decide +kernel
theorem dX8_move_35 : decode cX8_move 35 = .ok (.if_icmp .eq 15, 3) := by decide +kernel
theorem dX8_move_38 : decode cX8_move 38 = .ok (.iload_n 3, 1) := by decide +kernel
theorem dX8_move_39 : decode cX8_move 39 = .ok (.i2l, 1) := by decide +kernel
theorem dX8_move_40 : decode cX8_move 40 = .ok (.lconst 1, 1) := by decide +kernel
theorem dX8_move_41 : decode cX8_move 41 = .ok (.ldc2_w 201, 3) := by decide +kernel
theorem dX8_move_44 : decode cX8_move 44 = .ok (.invokestatic 108, 3) := by decide +kernel
theorem dX8_move_47 : decode cX8_move 47 = .ok (.ifCond .ne 7, 3) := by decide +kernel
theorem dX8_move_50 : decode cX8_move 50 = .ok (.iconst 2, 1) := by decide +kernel
theorem dX8_move_51 : decode cX8_move 51 = .ok (.goto 21, 3) := by decide +kernel
theorem dX8_move_54 : decode cX8_move 54 = .ok (.aload_n 0, 1) := by decide +kernel
theorem dX8_move_55 : decode cX8_move 55 = .ok (.getfield 16, 3) := by decide +kernel
theorem dX8_move_58 : decode cX8_move 58 = .ok (.iload_n 1, 1) := by decide +kernel
theorem dX8_move_59 : decode cX8_move 59 = .ok (.iload_n 2, 1) := by decide +kernel
theorem dX8_move_60 : decode cX8_move 60 = .ok (.iload_n 3, 1) := by decide +kernel
theorem dX8_move_61 : decode cX8_move 61 = .ok (.invokestatic 224, 3) := by decide +kernel
theorem dX8_move_64 : decode cX8_move 64 = .ok (.ifCond .eq 7, 3) := by decide +kernel
theorem dX8_move_67 : decode cX8_move 67 = .ok (.iconst 0, 1) := by decide +kernel
theorem dX8_move_68 : decode cX8_move 68 = .ok (.goto 4, 3) := by decide +kernel
theorem dX8_move_71 : decode cX8_move 71 = .ok (.iconst 3, 1) := by decide +kernel
theorem dX8_move_72 : decode cX8_move 72 = .ok (.invokevirtual 115, 3) := by decide +kernel
theorem dX8_move_75 : decode cX8_move 75 = .ok (.ifCond .eq 5, 3) := by decide +kernel
theorem dX8_move_78 : decode cX8_move 78 = .ok (.iconst 0, 1) := by decide +kernel
theorem dX8_move_79 : decode cX8_move 79 = .ok (.ireturn, 1) := by decide +kernel
theorem dX8_move_80 : decode cX8_move 80 = .ok (.aload_n 0, 1) := by decide +kernel
theorem dX8_move_81 : decode cX8_move 81 = .ok (.invokevirtual 194, 3) := by decide +kernel
theorem dX8_move_84 : decode cX8_move 84 = .ok (.aload_n 0, 1) := by decide +kernel
theorem dX8_move_85 : decode cX8_move 85 = .ok (.getfield 16, 3) := by decide +kernel
theorem dX8_move_88 : decode cX8_move 88 = .ok (.iload_n 1, 1) := by decide +kernel
theorem dX8_move_89 : decode cX8_move 89 = .ok (.iload_n 2, 1) := by decide +kernel
theorem dX8_move_90 : decode cX8_move 90 = .ok (.iload_n 3, 1) := by decide +kernel
theorem dX8_move_91 : decode cX8_move 91 = .ok (.invokestatic 228, 3) := by decide +kernel
theorem dX8_move_94 : decode cX8_move 94 = .ok (.aload_n 0, 1) := by decide +kernel
theorem dX8_move_95 : decode cX8_move 95 = .ok (.getfield 16, 3) := by decide +kernel
theorem dX8_move_98 : decode cX8_move 98 = .ok (.iload_n 2, 1) := by decide +kernel
theorem dX8_move_99 : decode cX8_move 99 = .ok (.invokestatic 58, 3) := by decide +kernel
theorem dX8_move_102 : decode cX8_move 102 = .ok (.iconst 2, 1) := by decide +kernel
theorem dX8_move_103 : decode cX8_move 103 = .ok (.iadd, 1) := by decide +kernel
theorem dX8_move_104 : decode cX8_move 104 = .ok (.iaload, 1) := by decide +kernel
theorem dX8_move_105 : decode cX8_move 105 = .ok (.ireturn, 1) := by decide +kernel
theorem dX8_pay_0 : decode cX8_pay 0 = .ok (.aload_n 0, 1) := by decide +kernel
theorem dX8_pay_1 : decode cX8_pay 1 = .ok (.aload_n 0, 1) := by decide +kernel
theorem dX8_pay_2 : decode cX8_pay 2 = .ok (.iload_n 1, 1) := by decide +kernel
theorem dX8_pay_3 : decode cX8_pay 3 = .ok (.invokevirtual 174, 3) := by decide +kernel
theorem dX8_pay_6 : decode cX8_pay 6 = .ok (.ifCond .eq 7, 3) := by decide +kernel
theorem dX8_pay_9 : decode cX8_pay 9 = .ok (.iconst 0, 1) := by decide +kernel
theorem dX8_pay_10 : decode cX8_pay 10 = .ok (.goto 4, 3) := by decide +kernel
theorem dX8_pay_13 : decode cX8_pay 13 = .ok (.iconst 1, 1) := by decide +kernel
theorem dX8_pay_14 : decode cX8_pay 14 = .ok (.invokevirtual 115, 3) := by decide +kernel
theorem dX8_pay_17 : decode cX8_pay 17 = .ok (.ifCond .eq 5, 3) := by decide +kernel
theorem dX8_pay_20 : decode cX8_pay 20 = .ok (.iconst 0, 1) := by decide +kernel
theorem dX8_pay_21 : decode cX8_pay 21 = .ok (.ireturn, 1) := by decide +kernel
theorem dX8_pay_22 : decode cX8_pay 22 = .ok (.aload_n 0, 1) := by decide +kernel
theorem dX8_pay_23 : decode cX8_pay 23 = .ok (.invokevirtual 194, 3) := by decide +kernel
theorem dX8_pay_26 : decode cX8_pay 26 = .ok (.aload_n 0, 1) := by decide +kernel
theorem dX8_pay_27 : decode cX8_pay 27 = .ok (.getfield 16, 3) := by decide +kernel
theorem dX8_pay_30 : decode cX8_pay 30 = .ok (.iload_n 1, 1) := by decide +kernel
theorem dX8_pay_31 : decode cX8_pay 31 = .ok (.invokestatic 83, 3) := by decide +kernel
theorem dX8_pay_34 : decode cX8_pay 34 = .ok (.iconst 1, 1) := by decide +kernel
theorem dX8_pay_35 : decode cX8_pay 35 = .ok (.iadd, 1) := by decide +kernel
theorem dX8_pay_36 : decode cX8_pay 36 = .ok (.iaload, 1) := by decide +kernel
theorem dX8_pay_37 : decode cX8_pay 37 = .ok (.istore_n 2, 1) := by decide +kernel
theorem dX8_pay_38 : decode cX8_pay 38 = .ok (.aload_n 0, 1) := by decide +kernel
theorem dX8_pay_39 : decode cX8_pay 39 = .ok (.getfield 16, 3) := by decide +kernel
theorem dX8_pay_42 : decode cX8_pay 42 = .ok (.iload_n 1, 1) := by decide +kernel
theorem dX8_pay_43 : decode cX8_pay 43 = .ok (.invokestatic 83, 3) := by decide +kernel
theorem dX8_pay_46 : decode cX8_pay 46 = .ok (.iconst 1, 1) := by decide +kernel
theorem dX8_pay_47 : decode cX8_pay 47 = .ok (.iadd, 1) := by decide +kernel
theorem dX8_pay_48 : decode cX8_pay 48 = .ok (.iconst 0, 1) := by decide +kernel
theorem dX8_pay_49 : decode cX8_pay 49 = .ok (.iastore, 1) := by decide +kernel
theorem dX8_pay_50 : decode cX8_pay 50 = .ok (.iload_n 2, 1) := by decide +kernel
theorem dX8_pay_51 : decode cX8_pay 51 = .ok (.ireturn, 1) := by decide +kernel
theorem dX8_undo_0 : decode cX8_undo 0 = .ok (.aload_n 0, 1) := by decide +kernel
theorem dX8_undo_1 : decode cX8_undo 1 = .ok (.aload_n 0, 1) := by decide +kernel
theorem dX8_undo_2 : decode cX8_undo 2 = .ok (.getfield 47, 3) := by decide +kernel
theorem dX8_undo_5 : decode cX8_undo 5 = .ok (.ifCond .ne 7, 3) := by decide +kernel
theorem dX8_undo_8 : decode cX8_undo 8 = .ok (.iconst 1, 1) := by decide +kernel
theorem dX8_undo_9 : decode cX8_undo 9 = .ok (.goto 4, 3) := by decide +kernel
theorem dX8_undo_12 : decode cX8_undo 12 = .ok (.iconst 0, 1) := by decide +kernel
theorem dX8_undo_13 : decode cX8_undo 13 = .ok (.invokevirtual 115, 3) := by decide +kernel
theorem dX8_undo_16 : decode cX8_undo 16 = .ok (.ifCond .eq 5, 3) := by decide +kernel
theorem dX8_undo_19 : decode cX8_undo 19 = .ok (.iconst 0, 1) := by decide +kernel
theorem dX8_undo_20 : decode cX8_undo 20 = .ok (.ireturn, 1) := by decide +kernel
theorem dX8_undo_21 : decode cX8_undo 21 = .ok (.aload_n 0, 1) := by decide +kernel
theorem dX8_undo_22 : decode cX8_undo 22 = .ok (.dup, 1) := by decide +kernel
theorem dX8_undo_23 : decode cX8_undo 23 = .ok (.getfield 47, 3) := by decide +kernel
theorem dX8_undo_26 : decode cX8_undo 26 = .ok (.iconst 1, 1) := by decide +kernel
theorem dX8_undo_27 : decode cX8_undo 27 = .ok (.isub, 1) := by decide +kernel
theorem dX8_undo_28 : decode cX8_undo 28 = .ok (.putfield 47, 3) := by decide +kernel
theorem dX8_undo_31 : decode cX8_undo 31 = .ok (.aload_n 0, 1) := by decide +kernel
theorem dX8_undo_32 : decode cX8_undo 32 = .ok (.getfield 22, 3) := by decide +kernel
theorem dX8_undo_35 : decode cX8_undo 35 = .ok (.sipush 189, 3) := by decide +kernel
theorem dX8_undo_38 : decode cX8_undo 38 = .ok (.aload_n 0, 1) := by decide +kernel
theorem dX8_undo_39 : decode cX8_undo 39 = .ok (.getfield 47, 3) := by decide +kernel
theorem dX8_undo_42 : decode cX8_undo 42 = .ok (.imul, 1) := by decide +kernel
theorem dX8_undo_43 : decode cX8_undo 43 = .ok (.aload_n 0, 1) := by decide +kernel
theorem dX8_undo_44 : decode cX8_undo 44 = .ok (.getfield 16, 3) := by decide +kernel
theorem dX8_undo_47 : decode cX8_undo 47 = .ok (.iconst 0, 1) := by decide +kernel
theorem dX8_undo_48 : decode cX8_undo 48 = .ok (.sipush 189, 3) := by decide +kernel
theorem dX8_undo_51 : decode cX8_undo 51 = .ok (.invokestatic 50, 3) := by decide +kernel
theorem dX8_undo_54 : decode cX8_undo 54 = .ok (.aload_n 0, 1) := by decide +kernel
theorem dX8_undo_55 : decode cX8_undo 55 = .ok (.getfield 47, 3) := by decide +kernel
theorem dX8_undo_58 : decode cX8_undo 58 = .ok (.ireturn, 1) := by decide +kernel
theorem dX8_wouldGet_0 : decode cX8_wouldGet 0 = .ok (.aload_n 0, 1) := by decide +kernel
theorem dX8_wouldGet_1 : decode cX8_wouldGet 1 = .ok (.aload_n 0, 1) := by decide +kernel
theorem dX8_wouldGet_2 : decode cX8_wouldGet 2 = .ok (.iload_n 1, 1) := by decide +kernel
theorem dX8_wouldGet_3 : decode cX8_wouldGet 3 = .ok (.invokevirtual 174, 3) := by decide +kernel
theorem dX8_wouldGet_6 : decode cX8_wouldGet 6 = .ok (.ifCond .eq 15, 3) := by decide +kernel
theorem dX8_wouldGet_9 : decode cX8_wouldGet 9 = .ok (.aload_n 0, 1) := by decide +kernel
theorem dX8_wouldGet_10 : decode cX8_wouldGet 10 = .ok (.iload_n 2, 1) := by decide +kernel
theorem dX8_wouldGet_11 : decode cX8_wouldGet 11 = .ok (.invokevirtual 182, 3) := by decide +kernel
theorem dX8_wouldGet_14 : decode cX8_wouldGet 14 = .ok (.ifCond .eq 7, 3) := by decide +kernel
theorem dX8_wouldGet_17 : decode cX8_wouldGet 17 = .ok (.iconst 0, 1) := by decide +kernel
theorem dX8_wouldGet_18 : decode cX8_wouldGet 18 = .ok (.goto 4, 3) := by decide +kernel
theorem dX8_wouldGet_21 : decode cX8_wouldGet 21 = .ok (.iconst 1, 1) := by decide +kernel
theorem dX8_wouldGet_22 : decode cX8_wouldGet 22 = .ok (.invokevirtual 115, 3) := by decide +kernel
theorem dX8_wouldGet_25 : decode cX8_wouldGet 25 = .ok (.ifCond .eq 5, 3) := by decide +kernel
theorem dX8_wouldGet_28 : decode cX8_wouldGet 28 = .ok (.iconst 0, 1) := by decide +kernel
theorem dX8_wouldGet_29 : decode cX8_wouldGet 29 = .ok (.ireturn, 1) := by decide +kernel
theorem dX8_wouldGet_30 : decode cX8_wouldGet 30 = .ok (.aload_n 0, 1) := by decide +kernel
theorem dX8_wouldGet_31 : decode cX8_wouldGet 31 = .ok (.getfield 16, 3) := by decide +kernel
theorem dX8_wouldGet_34 : decode cX8_wouldGet 34 = .ok (.iload_n 2, 1) := by decide +kernel
theorem dX8_wouldGet_35 : decode cX8_wouldGet 35 = .ok (.invokestatic 62, 3) := by decide +kernel
theorem dX8_wouldGet_38 : decode cX8_wouldGet 38 = .ok (.iconst 3, 1) := by decide +kernel
theorem dX8_wouldGet_39 : decode cX8_wouldGet 39 = .ok (.iadd, 1) := by decide +kernel
theorem dX8_wouldGet_40 : decode cX8_wouldGet 40 = .ok (.iaload, 1) := by decide +kernel
theorem dX8_wouldGet_41 : decode cX8_wouldGet 41 = .ok (.ifCond .eq 6, 3) := by decide +kernel
theorem dX8_wouldGet_44 : decode cX8_wouldGet 44 = .ok (.ldc 65, 2) := by decide +kernel
theorem dX8_wouldGet_46 : decode cX8_wouldGet 46 = .ok (.ireturn, 1) := by decide +kernel
theorem dX8_wouldGet_47 : decode cX8_wouldGet 47 = .ok (.aload_n 0, 1) := by decide +kernel
theorem dX8_wouldGet_48 : decode cX8_wouldGet 48 = .ok (.aload_n 0, 1) := by decide +kernel
theorem dX8_wouldGet_49 : decode cX8_wouldGet 49 = .ok (.getfield 16, 3) := by decide +kernel
theorem dX8_wouldGet_52 : decode cX8_wouldGet 52 = .ok (.iload_n 2, 1) := by decide +kernel
theorem dX8_wouldGet_53 : decode cX8_wouldGet 53 = .ok (.invokevirtual 86, 3) := by decide +kernel
theorem dX8_wouldGet_56 : decode cX8_wouldGet 56 = .ok (.pop, 1) := by decide +kernel
theorem dX8_wouldGet_57 : decode cX8_wouldGet 57 = .ok (.aload_n 0, 1) := by decide +kernel
theorem dX8_wouldGet_58 : decode cX8_wouldGet 58 = .ok (.getfield 32, 3) := by decide +kernel
theorem dX8_wouldGet_61 : decode cX8_wouldGet 61 = .ok (.iload_n 1, 1) := by decide +kernel
theorem dX8_wouldGet_62 : decode cX8_wouldGet 62 = .ok (.iaload, 1) := by decide +kernel
theorem dX8_wouldGet_63 : decode cX8_wouldGet 63 = .ok (.ireturn, 1) := by decide +kernel
theorem dX8_roomFor_0 : decode cX8_roomFor 0 = .ok (.aload_n 0, 1) := by decide +kernel
theorem dX8_roomFor_1 : decode cX8_roomFor 1 = .ok (.aload_n 0, 1) := by decide +kernel
theorem dX8_roomFor_2 : decode cX8_roomFor 2 = .ok (.iload_n 1, 1) := by decide +kernel
theorem dX8_roomFor_3 : decode cX8_roomFor 3 = .ok (.invokevirtual 182, 3) := by decide +kernel
theorem dX8_roomFor_6 : decode cX8_roomFor 6 = .ok (.ifCond .eq 7, 3) := by decide +kernel
theorem dX8_roomFor_9 : decode cX8_roomFor 9 = .ok (.iconst 0, 1) := by decide +kernel
theorem dX8_roomFor_10 : decode cX8_roomFor 10 = .ok (.goto 4, 3) := by decide +kernel
theorem dX8_roomFor_13 : decode cX8_roomFor 13 = .ok (.iconst 1, 1) := by decide +kernel
theorem dX8_roomFor_14 : decode cX8_roomFor 14 = .ok (.invokevirtual 115, 3) := by decide +kernel
theorem dX8_roomFor_17 : decode cX8_roomFor 17 = .ok (.ifCond .eq 7, 3) := by decide +kernel
theorem dX8_roomFor_20 : decode cX8_roomFor 20 = .ok (.iconst 0, 1) := by decide +kernel
theorem dX8_roomFor_21 : decode cX8_roomFor 21 = .ok (.goto 11, 3) := by decide +kernel
theorem dX8_roomFor_24 : decode cX8_roomFor 24 = .ok (.aload_n 0, 1) := by decide +kernel
theorem dX8_roomFor_25 : decode cX8_roomFor 25 = .ok (.getfield 16, 3) := by decide +kernel
theorem dX8_roomFor_28 : decode cX8_roomFor 28 = .ok (.iload_n 1, 1) := by decide +kernel
theorem dX8_roomFor_29 : decode cX8_roomFor 29 = .ok (.invokestatic 92, 3) := by decide +kernel
theorem dX8_roomFor_32 : decode cX8_roomFor 32 = .ok (.ireturn, 1) := by decide +kernel
theorem dX8_sizes_0 : decode cX8_sizes 0 = .ok (.iconst 0, 1) := by decide +kernel
theorem dX8_sizes_1 : decode cX8_sizes 1 = .ok (.istore_n 2, 1) := by decide +kernel
theorem dX8_sizes_2 : decode cX8_sizes 2 = .ok (.iconst 0, 1) := by decide +kernel
theorem dX8_sizes_3 : decode cX8_sizes 3 = .ok (.istore_n 3, 1) := by decide +kernel
theorem dX8_sizes_4 : decode cX8_sizes 4 = .ok (.iload_n 3, 1) := by decide +kernel
theorem dX8_sizes_5 : decode cX8_sizes 5 = .ok (.aload_n 0, 1) := by decide +kernel
theorem dX8_sizes_6 : decode cX8_sizes 6 = .ok (.iconst 2, 1) := by decide +kernel
theorem dX8_sizes_7 : decode cX8_sizes 7 = .ok (.iaload, 1) := by decide +kernel
theorem dX8_sizes_8 : decode cX8_sizes 8 = .ok (.if_icmp .ge 31, 3) := by decide +kernel
theorem dX8_sizes_11 : decode cX8_sizes 11 = .ok (.iload_n 2, 1) := by decide +kernel
theorem dX8_sizes_12 : decode cX8_sizes 12 = .ok (.iload_n 1, 1) := by decide +kernel
theorem dX8_sizes_13 : decode cX8_sizes 13 = .ok (.iload_n 3, 1) := by decide +kernel
theorem dX8_sizes_14 : decode cX8_sizes 14 = .ok (.ishr, 1) := by decide +kernel
theorem dX8_sizes_15 : decode cX8_sizes 15 = .ok (.iconst 1, 1) := by decide +kernel
theorem dX8_sizes_16 : decode cX8_sizes 16 = .ok (.iand, 1) := by decide +kernel
theorem dX8_sizes_17 : decode cX8_sizes 17 = .ok (.iconst 1, 1) := by decide +kernel
theorem dX8_sizes_18 : decode cX8_sizes 18 = .ok (.if_icmp .ne 12, 3) := by decide +kernel
theorem dX8_sizes_21 : decode cX8_sizes 21 = .ok (.aload_n 0, 1) := by decide +kernel
theorem dX8_sizes_22 : decode cX8_sizes 22 = .ok (.iload_n 3, 1) := by decide +kernel
theorem dX8_sizes_23 : decode cX8_sizes 23 = .ok (.invokestatic 58, 3) := by decide +kernel
theorem dX8_sizes_26 : decode cX8_sizes 26 = .ok (.iaload, 1) := by decide +kernel
theorem dX8_sizes_27 : decode cX8_sizes 27 = .ok (.goto 4, 3) := by decide +kernel
theorem dX8_sizes_30 : decode cX8_sizes 30 = .ok (.iconst 0, 1) := by decide +kernel
theorem dX8_sizes_31 : decode cX8_sizes 31 = .ok (.iadd, 1) := by decide +kernel
theorem dX8_sizes_32 : decode cX8_sizes 32 = .ok (.istore_n 2, 1) := by decide +kernel
theorem dX8_sizes_33 : decode cX8_sizes 33 = .ok (.iinc 3 1, 3) := by decide +kernel
theorem dX8_sizes_36 : decode cX8_sizes 36 = .ok (.goto (-32), 3) := by decide +kernel
theorem dX8_sizes_39 : decode cX8_sizes 39 = .ok (.iload_n 2, 1) := by decide +kernel
theorem dX8_sizes_40 : decode cX8_sizes 40 = .ok (.ireturn, 1) := by decide +kernel
theorem dX8_bits_0 : decode cX8_bits 0 = .ok (.iconst 0, 1) := by decide +kernel
theorem dX8_bits_1 : decode cX8_bits 1 = .ok (.istore_n 1, 1) := by decide +kernel
theorem dX8_bits_2 : decode cX8_bits 2 = .ok (.iconst 0, 1) := by decide +kernel
theorem dX8_bits_3 : decode cX8_bits 3 = .ok (.istore_n 2, 1) := by decide +kernel
theorem dX8_bits_4 : decode cX8_bits 4 = .ok (.iload_n 2, 1) := by decide +kernel
theorem dX8_bits_5 : decode cX8_bits 5 = .ok (.bipush 8, 2) := by decide +kernel
theorem dX8_bits_7 : decode cX8_bits 7 = .ok (.if_icmp .ge 17, 3) := by decide +kernel
theorem dX8_bits_10 : decode cX8_bits 10 = .ok (.iload_n 1, 1) := by decide +kernel
theorem dX8_bits_11 : decode cX8_bits 11 = .ok (.iload_n 0, 1) := by decide +kernel
theorem dX8_bits_12 : decode cX8_bits 12 = .ok (.iload_n 2, 1) := by decide +kernel
theorem dX8_bits_13 : decode cX8_bits 13 = .ok (.ishr, 1) := by decide +kernel
theorem dX8_bits_14 : decode cX8_bits 14 = .ok (.iconst 1, 1) := by decide +kernel
theorem dX8_bits_15 : decode cX8_bits 15 = .ok (.iand, 1) := by decide +kernel
theorem dX8_bits_16 : decode cX8_bits 16 = .ok (.iadd, 1) := by decide +kernel
theorem dX8_bits_17 : decode cX8_bits 17 = .ok (.istore_n 1, 1) := by decide +kernel
theorem dX8_bits_18 : decode cX8_bits 18 = .ok (.iinc 2 1, 3) := by decide +kernel
theorem dX8_bits_21 : decode cX8_bits 21 = .ok (.goto (-17), 3) := by decide +kernel
theorem dX8_bits_24 : decode cX8_bits 24 = .ok (.iload_n 1, 1) := by decide +kernel
theorem dX8_bits_25 : decode cX8_bits 25 = .ok (.ireturn, 1) := by decide +kernel
theorem dX8_layWine_0 : decode cX8_layWine 0 = .ok (.iconst 1, 1) := by decide +kernel
theorem dX8_layWine_1 : decode cX8_layWine 1 = .ok (.aload_n 0, 1) := by decide +kernel
theorem dX8_layWine_2 : decode cX8_layWine 2 = .ok (.getfield 16, 3) := by decide +kernel
theorem dX8_layWine_5 : decode cX8_layWine 5 = .ok (.iconst 2, 1) := by decide +kernel
theorem dX8_layWine_6 : decode cX8_layWine 6 = .ok (.iaload, 1) := by decide +kernel
theorem dX8_layWine_7 : decode cX8_layWine 7 = .ok (.ishl, 1) := by decide +kernel
theorem dX8_layWine_8 : decode cX8_layWine 8 = .ok (.iconst 1, 1) := by decide +kernel
theorem dX8_layWine_9 : decode cX8_layWine 9 = .ok (.isub, 1) := by decide +kernel
theorem dX8_layWine_10 : decode cX8_layWine 10 = .ok (.istore_n 2, 1) := by decide +kernel
theorem dX8_layWine_11 : decode cX8_layWine 11 = .ok (.iconst 0, 1) := by decide +kernel
theorem dX8_layWine_12 : decode cX8_layWine 12 = .ok (.istore_n 3, 1) := by decide +kernel
theorem dX8_layWine_13 : decode cX8_layWine 13 = .ok (.iload_n 3, 1) := by decide +kernel
theorem dX8_layWine_14 : decode cX8_layWine 14 = .ok (.iload_n 2, 1) := by decide +kernel
theorem dX8_layWine_15 : decode cX8_layWine 15 = .ok (.if_icmp .gt 102, 3) := by decide +kernel
theorem dX8_layWine_18 : decode cX8_layWine 18 = .ok (.aload_n 0, 1) := by decide +kernel
theorem dX8_layWine_19 : decode cX8_layWine 19 = .ok (.getfield 38, 3) := by decide +kernel
theorem dX8_layWine_22 : decode cX8_layWine 22 = .ok (.iload_n 3, 1) := by decide +kernel
theorem dX8_layWine_23 : decode cX8_layWine 23 = .ok (.bipush 99, 2) := by decide +kernel
theorem dX8_layWine_25 : decode cX8_layWine 25 = .ok (.iastore, 1) := by decide +kernel
theorem dX8_layWine_26 : decode cX8_layWine 26 = .ok (.iload_n 3, 1) := by decide +kernel
theorem dX8_layWine_27 : decode cX8_layWine 27 = .ok (.istore 4, 2) := by decide +kernel
theorem dX8_layWine_29 : decode cX8_layWine 29 = .ok (.iload 4, 2) := by decide +kernel
theorem dX8_layWine_31 : decode cX8_layWine 31 = .ok (.ifCond .le 80, 3) := by decide +kernel
theorem dX8_layWine_34 : decode cX8_layWine 34 = .ok (.aload_n 0, 1) := by decide +kernel
theorem dX8_layWine_35 : decode cX8_layWine 35 = .ok (.getfield 35, 3) := by decide +kernel
theorem dX8_layWine_38 : decode cX8_layWine 38 = .ok (.iload_n 3, 1) := by decide +kernel
theorem dX8_layWine_39 : decode cX8_layWine 39 = .ok (.iload 4, 2) := by decide +kernel
theorem dX8_layWine_41 : decode cX8_layWine 41 = .ok (.iconst (-1), 1) := by decide +kernel
theorem dX8_layWine_42 : decode cX8_layWine 42 = .ok (.ixor, 1) := by decide +kernel
theorem dX8_layWine_43 : decode cX8_layWine 43 = .ok (.iand, 1) := by decide +kernel
theorem dX8_layWine_44 : decode cX8_layWine 44 = .ok (.iaload, 1) := by decide +kernel
theorem dX8_layWine_45 : decode cX8_layWine 45 = .ok (.istore 5, 2) := by decide +kernel
theorem dX8_layWine_47 : decode cX8_layWine 47 = .ok (.aload_n 0, 1) := by decide +kernel
theorem dX8_layWine_48 : decode cX8_layWine 48 = .ok (.getfield 38, 3) := by decide +kernel
theorem dX8_layWine_51 : decode cX8_layWine 51 = .ok (.iload_n 3, 1) := by decide +kernel
theorem dX8_layWine_52 : decode cX8_layWine 52 = .ok (.aload_n 0, 1) := by decide +kernel
theorem dX8_layWine_53 : decode cX8_layWine 53 = .ok (.getfield 16, 3) := by decide +kernel
theorem dX8_layWine_56 : decode cX8_layWine 56 = .ok (.iload 4, 2) := by decide +kernel
theorem dX8_layWine_58 : decode cX8_layWine 58 = .ok (.invokestatic 231, 3) := by decide +kernel
theorem dX8_layWine_61 : decode cX8_layWine 61 = .ok (.iload_n 1, 1) := by decide +kernel
theorem dX8_layWine_62 : decode cX8_layWine 62 = .ok (.if_icmp .lt 31, 3) := by decide +kernel
theorem dX8_layWine_65 : decode cX8_layWine 65 = .ok (.iload 5, 2) := by decide +kernel
theorem dX8_layWine_67 : decode cX8_layWine 67 = .ok (.iload 4, 2) := by decide +kernel
theorem dX8_layWine_69 : decode cX8_layWine 69 = .ok (.invokestatic 234, 3) := by decide +kernel
theorem dX8_layWine_72 : decode cX8_layWine 72 = .ok (.iadd, 1) := by decide +kernel
theorem dX8_layWine_73 : decode cX8_layWine 73 = .ok (.aload_n 0, 1) := by decide +kernel
theorem dX8_layWine_74 : decode cX8_layWine 74 = .ok (.getfield 38, 3) := by decide +kernel
theorem dX8_layWine_77 : decode cX8_layWine 77 = .ok (.iload_n 3, 1) := by decide +kernel
theorem dX8_layWine_78 : decode cX8_layWine 78 = .ok (.iaload, 1) := by decide +kernel
theorem dX8_layWine_79 : decode cX8_layWine 79 = .ok (.if_icmp .ge 14, 3) := by decide +kernel
theorem dX8_layWine_82 : decode cX8_layWine 82 = .ok (.iload 5, 2) := by decide +kernel
theorem dX8_layWine_84 : decode cX8_layWine 84 = .ok (.iload 4, 2) := by decide +kernel
theorem dX8_layWine_86 : decode cX8_layWine 86 = .ok (.invokestatic 234, 3) := by decide +kernel
theorem dX8_layWine_89 : decode cX8_layWine 89 = .ok (.iadd, 1) := by decide +kernel
theorem dX8_layWine_90 : decode cX8_layWine 90 = .ok (.goto 9, 3) := by decide +kernel
theorem dX8_layWine_93 : decode cX8_layWine 93 = .ok (.aload_n 0, 1) := by decide +kernel
theorem dX8_layWine_94 : decode cX8_layWine 94 = .ok (.getfield 38, 3) := by decide +kernel
theorem dX8_layWine_97 : decode cX8_layWine 97 = .ok (.iload_n 3, 1) := by decide +kernel
theorem dX8_layWine_98 : decode cX8_layWine 98 = .ok (.iaload, 1) := by decide +kernel
theorem dX8_layWine_99 : decode cX8_layWine 99 = .ok (.iastore, 1) := by decide +kernel
theorem dX8_layWine_100 : decode cX8_layWine 100 = .ok (.iload 4, 2) := by decide +kernel
theorem dX8_layWine_102 : decode cX8_layWine 102 = .ok (.iconst 1, 1) := by decide +kernel
theorem dX8_layWine_103 : decode cX8_layWine 103 = .ok (.isub, 1) := by decide +kernel
theorem dX8_layWine_104 : decode cX8_layWine 104 = .ok (.iload_n 3, 1) := by decide +kernel
theorem dX8_layWine_105 : decode cX8_layWine 105 = .ok (.iand, 1) := by decide +kernel
theorem dX8_layWine_106 : decode cX8_layWine 106 = .ok (.istore 4, 2) := by decide +kernel
theorem dX8_layWine_108 : decode cX8_layWine 108 = .ok (.goto (-79), 3) := by decide +kernel
theorem dX8_layWine_111 : decode cX8_layWine 111 = .ok (.iinc 3 1, 3) := by decide +kernel
theorem dX8_layWine_114 : decode cX8_layWine 114 = .ok (.goto (-101), 3) := by decide +kernel
theorem dX8_layWine_117 : decode cX8_layWine 117 = .ok (.aload_n 0, 1) := by decide +kernel
theorem dX8_layWine_118 : decode cX8_layWine 118 = .ok (.getfield 38, 3) := by decide +kernel
theorem dX8_layWine_121 : decode cX8_layWine 121 = .ok (.iconst 0, 1) := by decide +kernel
theorem dX8_layWine_122 : decode cX8_layWine 122 = .ok (.aload_n 0, 1) := by decide +kernel
theorem dX8_layWine_123 : decode cX8_layWine 123 = .ok (.getfield 35, 3) := by decide +kernel
theorem dX8_layWine_126 : decode cX8_layWine 126 = .ok (.iconst 0, 1) := by decide +kernel
theorem dX8_layWine_127 : decode cX8_layWine 127 = .ok (.iload_n 2, 1) := by decide +kernel
theorem dX8_layWine_128 : decode cX8_layWine 128 = .ok (.iconst 1, 1) := by decide +kernel
theorem dX8_layWine_129 : decode cX8_layWine 129 = .ok (.iadd, 1) := by decide +kernel
theorem dX8_layWine_130 : decode cX8_layWine 130 = .ok (.invokestatic 50, 3) := by decide +kernel
theorem dX8_layWine_133 : decode cX8_layWine 133 = .ok (.return_, 1) := by decide +kernel
theorem dX8_fewestBins_0 : decode cX8_fewestBins 0 = .ok (.aload_n 0, 1) := by decide +kernel
theorem dX8_fewestBins_1 : decode cX8_fewestBins 1 = .ok (.iconst 0, 1) := by decide +kernel
theorem dX8_fewestBins_2 : decode cX8_fewestBins 2 = .ok (.putfield 41, 3) := by decide +kernel
theorem dX8_fewestBins_5 : decode cX8_fewestBins 5 = .ok (.iconst 0, 1) := by decide +kernel
theorem dX8_fewestBins_6 : decode cX8_fewestBins 6 = .ok (.istore_n 1, 1) := by decide +kernel
theorem dX8_fewestBins_7 : decode cX8_fewestBins 7 = .ok (.iload_n 1, 1) := by decide +kernel
theorem dX8_fewestBins_8 : decode cX8_fewestBins 8 = .ok (.sipush 256, 3) := by decide +kernel
theorem dX8_fewestBins_11 : decode cX8_fewestBins 11 = .ok (.if_icmp .ge 16, 3) := by decide +kernel
theorem dX8_fewestBins_14 : decode cX8_fewestBins 14 = .ok (.aload_n 0, 1) := by decide +kernel
theorem dX8_fewestBins_15 : decode cX8_fewestBins 15 = .ok (.getfield 35, 3) := by decide +kernel
theorem dX8_fewestBins_18 : decode cX8_fewestBins 18 = .ok (.iload_n 1, 1) := by decide +kernel
theorem dX8_fewestBins_19 : decode cX8_fewestBins 19 = .ok (.iconst 0, 1) := by decide +kernel
theorem dX8_fewestBins_20 : decode cX8_fewestBins 20 = .ok (.iastore, 1) := by decide +kernel
theorem dX8_fewestBins_21 : decode cX8_fewestBins 21 = .ok (.iinc 1 1, 3) := by decide +kernel
theorem dX8_fewestBins_24 : decode cX8_fewestBins 24 = .ok (.goto (-17), 3) := by decide +kernel
theorem dX8_fewestBins_27 : decode cX8_fewestBins 27 = .ok (.iconst 0, 1) := by decide +kernel
theorem dX8_fewestBins_28 : decode cX8_fewestBins 28 = .ok (.istore_n 1, 1) := by decide +kernel
theorem dX8_fewestBins_29 : decode cX8_fewestBins 29 = .ok (.iload_n 1, 1) := by decide +kernel
theorem dX8_fewestBins_30 : decode cX8_fewestBins 30 = .ok (.aload_n 0, 1) := by decide +kernel
theorem dX8_fewestBins_31 : decode cX8_fewestBins 31 = .ok (.getfield 16, 3) := by decide +kernel
theorem dX8_fewestBins_34 : decode cX8_fewestBins 34 = .ok (.iconst 1, 1) := by decide +kernel
theorem dX8_fewestBins_35 : decode cX8_fewestBins 35 = .ok (.iaload, 1) := by decide +kernel
theorem dX8_fewestBins_36 : decode cX8_fewestBins 36 = .ok (.if_icmp .ge 28, 3) := by decide +kernel
theorem dX8_fewestBins_39 : decode cX8_fewestBins 39 = .ok (.aload_n 0, 1) := by decide +kernel
theorem dX8_fewestBins_40 : decode cX8_fewestBins 40 = .ok (.getfield 16, 3) := by decide +kernel
theorem dX8_fewestBins_43 : decode cX8_fewestBins 43 = .ok (.iload_n 1, 1) := by decide +kernel
theorem dX8_fewestBins_44 : decode cX8_fewestBins 44 = .ok (.iconst 2, 1) := by decide +kernel
theorem dX8_fewestBins_45 : decode cX8_fewestBins 45 = .ok (.invokestatic 95, 3) := by decide +kernel
theorem dX8_fewestBins_48 : decode cX8_fewestBins 48 = .ok (.istore_n 2, 1) := by decide +kernel
theorem dX8_fewestBins_49 : decode cX8_fewestBins 49 = .ok (.iload_n 2, 1) := by decide +kernel
theorem dX8_fewestBins_50 : decode cX8_fewestBins 50 = .ok (.ifCond .le 8, 3) := by decide +kernel
theorem dX8_fewestBins_53 : decode cX8_fewestBins 53 = .ok (.aload_n 0, 1) := by decide +kernel
theorem dX8_fewestBins_54 : decode cX8_fewestBins 54 = .ok (.iload_n 2, 1) := by decide +kernel
theorem dX8_fewestBins_55 : decode cX8_fewestBins 55 = .ok (.invokevirtual 237, 3) := by decide +kernel
theorem dX8_fewestBins_58 : decode cX8_fewestBins 58 = .ok (.iinc 1 1, 3) := by decide +kernel
theorem dX8_fewestBins_61 : decode cX8_fewestBins 61 = .ok (.goto (-32), 3) := by decide +kernel
theorem dX8_fewestBins_64 : decode cX8_fewestBins 64 = .ok (.aload_n 0, 1) := by decide +kernel
theorem dX8_fewestBins_65 : decode cX8_fewestBins 65 = .ok (.getfield 35, 3) := by decide +kernel
theorem dX8_fewestBins_68 : decode cX8_fewestBins 68 = .ok (.iconst 1, 1) := by decide +kernel
theorem dX8_fewestBins_69 : decode cX8_fewestBins 69 = .ok (.aload_n 0, 1) := by decide +kernel
theorem dX8_fewestBins_70 : decode cX8_fewestBins 70 = .ok (.getfield 16, 3) := by decide +kernel
theorem dX8_fewestBins_73 : decode cX8_fewestBins 73 = .ok (.iconst 2, 1) := by decide +kernel
theorem dX8_fewestBins_74 : decode cX8_fewestBins 74 = .ok (.iaload, 1) := by decide +kernel
theorem dX8_fewestBins_75 : decode cX8_fewestBins 75 = .ok (.ishl, 1) := by decide +kernel
theorem dX8_fewestBins_76 : decode cX8_fewestBins 76 = .ok (.iconst 1, 1) := by decide +kernel
theorem dX8_fewestBins_77 : decode cX8_fewestBins 77 = .ok (.isub, 1) := by decide +kernel
theorem dX8_fewestBins_78 : decode cX8_fewestBins 78 = .ok (.iaload, 1) := by decide +kernel
theorem dX8_fewestBins_79 : decode cX8_fewestBins 79 = .ok (.ireturn, 1) := by decide +kernel
theorem dX8_shortest_0 : decode cX8_shortest 0 = .ok (.aload_n 0, 1) := by decide +kernel
theorem dX8_shortest_1 : decode cX8_shortest 1 = .ok (.aload_n 0, 1) := by decide +kernel
theorem dX8_shortest_2 : decode cX8_shortest 2 = .ok (.iload_n 1, 1) := by decide +kernel
theorem dX8_shortest_3 : decode cX8_shortest 3 = .ok (.invokevirtual 182, 3) := by decide +kernel
theorem dX8_shortest_6 : decode cX8_shortest 6 = .ok (.ifCond .eq 7, 3) := by decide +kernel
theorem dX8_shortest_9 : decode cX8_shortest 9 = .ok (.iconst 0, 1) := by decide +kernel
theorem dX8_shortest_10 : decode cX8_shortest 10 = .ok (.goto 4, 3) := by decide +kernel
theorem dX8_shortest_13 : decode cX8_shortest 13 = .ok (.iconst 1, 1) := by decide +kernel
theorem dX8_shortest_14 : decode cX8_shortest 14 = .ok (.invokevirtual 115, 3) := by decide +kernel
theorem dX8_shortest_17 : decode cX8_shortest 17 = .ok (.ifCond .eq 5, 3) := by decide +kernel
theorem dX8_shortest_20 : decode cX8_shortest 20 = .ok (.iconst 0, 1) := by decide +kernel
theorem dX8_shortest_21 : decode cX8_shortest 21 = .ok (.ireturn, 1) := by decide +kernel
theorem dX8_shortest_22 : decode cX8_shortest 22 = .ok (.aload_n 0, 1) := by decide +kernel
theorem dX8_shortest_23 : decode cX8_shortest 23 = .ok (.getfield 16, 3) := by decide +kernel
theorem dX8_shortest_26 : decode cX8_shortest 26 = .ok (.iload_n 1, 1) := by decide +kernel
theorem dX8_shortest_27 : decode cX8_shortest 27 = .ok (.invokestatic 62, 3) := by decide +kernel
theorem dX8_shortest_30 : decode cX8_shortest 30 = .ok (.iconst 3, 1) := by decide +kernel
theorem dX8_shortest_31 : decode cX8_shortest 31 = .ok (.iadd, 1) := by decide +kernel
theorem dX8_shortest_32 : decode cX8_shortest 32 = .ok (.iaload, 1) := by decide +kernel
theorem dX8_shortest_33 : decode cX8_shortest 33 = .ok (.ifCond .eq 6, 3) := by decide +kernel
theorem dX8_shortest_36 : decode cX8_shortest 36 = .ok (.ldc 65, 2) := by decide +kernel
theorem dX8_shortest_38 : decode cX8_shortest 38 = .ok (.ireturn, 1) := by decide +kernel
theorem dX8_shortest_39 : decode cX8_shortest 39 = .ok (.aload_n 0, 1) := by decide +kernel
theorem dX8_shortest_40 : decode cX8_shortest 40 = .ok (.aload_n 0, 1) := by decide +kernel
theorem dX8_shortest_41 : decode cX8_shortest 41 = .ok (.getfield 16, 3) := by decide +kernel
theorem dX8_shortest_44 : decode cX8_shortest 44 = .ok (.iload_n 1, 1) := by decide +kernel
theorem dX8_shortest_45 : decode cX8_shortest 45 = .ok (.invokevirtual 86, 3) := by decide +kernel
theorem dX8_shortest_48 : decode cX8_shortest 48 = .ok (.pop, 1) := by decide +kernel
theorem dX8_shortest_49 : decode cX8_shortest 49 = .ok (.ldc 65, 2) := by decide +kernel
theorem dX8_shortest_51 : decode cX8_shortest 51 = .ok (.istore_n 2, 1) := by decide +kernel
theorem dX8_shortest_52 : decode cX8_shortest 52 = .ok (.iconst 0, 1) := by decide +kernel
theorem dX8_shortest_53 : decode cX8_shortest 53 = .ok (.istore_n 3, 1) := by decide +kernel
theorem dX8_shortest_54 : decode cX8_shortest 54 = .ok (.iconst 0, 1) := by decide +kernel
theorem dX8_shortest_55 : decode cX8_shortest 55 = .ok (.istore 4, 2) := by decide +kernel
theorem dX8_shortest_57 : decode cX8_shortest 57 = .ok (.iload 4, 2) := by decide +kernel
theorem dX8_shortest_59 : decode cX8_shortest 59 = .ok (.aload_n 0, 1) := by decide +kernel
theorem dX8_shortest_60 : decode cX8_shortest 60 = .ok (.getfield 16, 3) := by decide +kernel
theorem dX8_shortest_63 : decode cX8_shortest 63 = .ok (.iconst 0, 1) := by decide +kernel
theorem dX8_shortest_64 : decode cX8_shortest 64 = .ok (.iaload, 1) := by decide +kernel
theorem dX8_shortest_65 : decode cX8_shortest 65 = .ok (.if_icmp .ge 56, 3) := by decide +kernel
theorem dX8_shortest_68 : decode cX8_shortest 68 = .ok (.aload_n 0, 1) := by decide +kernel
theorem dX8_shortest_69 : decode cX8_shortest 69 = .ok (.getfield 16, 3) := by decide +kernel
theorem dX8_shortest_72 : decode cX8_shortest 72 = .ok (.iload 4, 2) := by decide +kernel
theorem dX8_shortest_74 : decode cX8_shortest 74 = .ok (.iload_n 1, 1) := by decide +kernel
theorem dX8_shortest_75 : decode cX8_shortest 75 = .ok (.invokestatic 54, 3) := by decide +kernel
theorem dX8_shortest_78 : decode cX8_shortest 78 = .ok (.iaload, 1) := by decide +kernel
theorem dX8_shortest_79 : decode cX8_shortest 79 = .ok (.aload_n 0, 1) := by decide +kernel
theorem dX8_shortest_80 : decode cX8_shortest 80 = .ok (.getfield 32, 3) := by decide +kernel
theorem dX8_shortest_83 : decode cX8_shortest 83 = .ok (.iload 4, 2) := by decide +kernel
theorem dX8_shortest_85 : decode cX8_shortest 85 = .ok (.iaload, 1) := by decide +kernel
theorem dX8_shortest_86 : decode cX8_shortest 86 = .ok (.isub, 1) := by decide +kernel
theorem dX8_shortest_87 : decode cX8_shortest 87 = .ok (.istore 5, 2) := by decide +kernel
theorem dX8_shortest_89 : decode cX8_shortest 89 = .ok (.iload 5, 2) := by decide +kernel
theorem dX8_shortest_91 : decode cX8_shortest 91 = .ok (.iload_n 3, 1) := by decide +kernel
theorem dX8_shortest_92 : decode cX8_shortest 92 = .ok (.if_icmp .le 8, 3) := by decide +kernel
theorem dX8_shortest_95 : decode cX8_shortest 95 = .ok (.iload 4, 2) := by decide +kernel
theorem dX8_shortest_97 : decode cX8_shortest 97 = .ok (.goto 4, 3) := by decide +kernel
theorem dX8_shortest_100 : decode cX8_shortest 100 = .ok (.iload_n 2, 1) := by decide +kernel
theorem dX8_shortest_101 : decode cX8_shortest 101 = .ok (.istore_n 2, 1) := by decide +kernel
theorem dX8_shortest_102 : decode cX8_shortest 102 = .ok (.iload 5, 2) := by decide +kernel
theorem dX8_shortest_104 : decode cX8_shortest 104 = .ok (.iload_n 3, 1) := by decide +kernel
theorem dX8_shortest_105 : decode cX8_shortest 105 = .ok (.if_icmp .le 8, 3) := by decide +kernel
theorem dX8_shortest_108 : decode cX8_shortest 108 = .ok (.iload 5, 2) := by decide +kernel
theorem dX8_shortest_110 : decode cX8_shortest 110 = .ok (.goto 4, 3) := by decide +kernel
theorem dX8_shortest_113 : decode cX8_shortest 113 = .ok (.iload_n 3, 1) := by decide +kernel
theorem dX8_shortest_114 : decode cX8_shortest 114 = .ok (.istore_n 3, 1) := by decide +kernel
theorem dX8_shortest_115 : decode cX8_shortest 115 = .ok (.iinc 4 1, 3) := by decide +kernel
theorem dX8_shortest_118 : decode cX8_shortest 118 = .ok (.goto (-61), 3) := by decide +kernel
theorem dX8_shortest_121 : decode cX8_shortest 121 = .ok (.iload_n 2, 1) := by decide +kernel
theorem dX8_shortest_122 : decode cX8_shortest 122 = .ok (.ireturn, 1) := by decide +kernel
theorem dX8_owns_0 : decode cX8_owns 0 = .ok (.iload_n 1, 1) := by decide +kernel
theorem dX8_owns_1 : decode cX8_owns 1 = .ok (.aload_n 0, 1) := by decide +kernel
theorem dX8_owns_2 : decode cX8_owns 2 = .ok (.iconst 0, 1) := by decide +kernel
theorem dX8_owns_3 : decode cX8_owns 3 = .ok (.iaload, 1) := by decide +kernel
theorem dX8_owns_4 : decode cX8_owns 4 = .ok (.if_icmp .ge 27, 3) := by decide +kernel
theorem dX8_owns_7 : decode cX8_owns 7 = .ok (.iload_n 2, 1) := by decide +kernel
theorem dX8_owns_8 : decode cX8_owns 8 = .ok (.aload_n 0, 1) := by decide +kernel
theorem dX8_owns_9 : decode cX8_owns 9 = .ok (.iconst 1, 1) := by decide +kernel
theorem dX8_owns_10 : decode cX8_owns 10 = .ok (.iaload, 1) := by decide +kernel
theorem dX8_owns_11 : decode cX8_owns 11 = .ok (.if_icmp .ge 20, 3) := by decide +kernel
theorem dX8_owns_14 : decode cX8_owns 14 = .ok (.aload_n 0, 1) := by decide +kernel
theorem dX8_owns_15 : decode cX8_owns 15 = .ok (.iload_n 1, 1) := by decide +kernel
theorem dX8_owns_16 : decode cX8_owns 16 = .ok (.iload_n 2, 1) := by decide +kernel
theorem dX8_owns_17 : decode cX8_owns 17 = .ok (.invokestatic 54, 3) := by decide +kernel
theorem dX8_owns_20 : decode cX8_owns 20 = .ok (.iconst 2, 1) := by decide +kernel
theorem dX8_owns_21 : decode cX8_owns 21 = .ok (.iadd, 1) := by decide +kernel
theorem dX8_owns_22 : decode cX8_owns 22 = .ok (.iaload, 1) := by decide +kernel
theorem dX8_owns_23 : decode cX8_owns 23 = .ok (.iload_n 3, 1) := by decide +kernel
theorem dX8_owns_24 : decode cX8_owns 24 = .ok (.if_icmp .lt 7, 3) := by decide +kernel
theorem dX8_owns_27 : decode cX8_owns 27 = .ok (.iconst 1, 1) := by decide +kernel
theorem dX8_owns_28 : decode cX8_owns 28 = .ok (.goto 4, 3) := by decide +kernel
theorem dX8_owns_31 : decode cX8_owns 31 = .ok (.iconst 0, 1) := by decide +kernel
theorem dX8_owns_32 : decode cX8_owns 32 = .ok (.ireturn, 1) := by decide +kernel
theorem dX8_does_0 : decode cX8_does 0 = .ok (.iload_n 1, 1) := by decide +kernel
theorem dX8_does_1 : decode cX8_does 1 = .ok (.sipush 10000, 3) := by decide +kernel
theorem dX8_does_4 : decode cX8_does 4 = .ok (.idiv, 1) := by decide +kernel
theorem dX8_does_5 : decode cX8_does 5 = .ok (.istore_n 2, 1) := by decide +kernel
theorem dX8_does_6 : decode cX8_does 6 = .ok (.iload_n 1, 1) := by decide +kernel
theorem dX8_does_7 : decode cX8_does 7 = .ok (.sipush 1000, 3) := by decide +kernel
theorem dX8_does_10 : decode cX8_does 10 = .ok (.idiv, 1) := by decide +kernel
theorem dX8_does_11 : decode cX8_does 11 = .ok (.bipush 10, 2) := by decide +kernel
theorem dX8_does_13 : decode cX8_does 13 = .ok (.irem, 1) := by decide +kernel
theorem dX8_does_14 : decode cX8_does 14 = .ok (.istore_n 3, 1) := by decide +kernel
theorem dX8_does_15 : decode cX8_does 15 = .ok (.iload_n 1, 1) := by decide +kernel
theorem dX8_does_16 : decode cX8_does 16 = .ok (.bipush 100, 2) := by decide +kernel
theorem dX8_does_18 : decode cX8_does 18 = .ok (.idiv, 1) := by decide +kernel
theorem dX8_does_19 : decode cX8_does 19 = .ok (.bipush 10, 2) := by decide +kernel
theorem dX8_does_21 : decode cX8_does 21 = .ok (.irem, 1) := by decide +kernel
theorem dX8_does_22 : decode cX8_does 22 = .ok (.istore 4, 2) := by decide +kernel
theorem dX8_does_24 : decode cX8_does 24 = .ok (.iload_n 1, 1) := by decide +kernel
theorem dX8_does_25 : decode cX8_does 25 = .ok (.bipush 10, 2) := by decide +kernel
theorem dX8_does_27 : decode cX8_does 27 = .ok (.idiv, 1) := by decide +kernel
theorem dX8_does_28 : decode cX8_does 28 = .ok (.bipush 10, 2) := by decide +kernel
theorem dX8_does_30 : decode cX8_does 30 = .ok (.irem, 1) := by decide +kernel
theorem dX8_does_31 : decode cX8_does 31 = .ok (.istore 5, 2) := by decide +kernel
theorem dX8_does_33 : decode cX8_does 33 = .ok (.iload_n 1, 1) := by decide +kernel
theorem dX8_does_34 : decode cX8_does 34 = .ok (.bipush 10, 2) := by decide +kernel
theorem dX8_does_36 : decode cX8_does 36 = .ok (.irem, 1) := by decide +kernel
theorem dX8_does_37 : decode cX8_does 37 = .ok (.istore 6, 2) := by decide +kernel
theorem dX8_does_39 : decode cX8_does 39 = .ok (.iload_n 1, 1) := by decide +kernel
theorem dX8_does_40 : decode cX8_does 40 = .ok (.bipush 100, 2) := by decide +kernel
theorem dX8_does_42 : decode cX8_does 42 = .ok (.irem, 1) := by decide +kernel
theorem dX8_does_43 : decode cX8_does 43 = .ok (.istore 7, 2) := by decide +kernel
theorem dX8_does_45 : decode cX8_does 45 = .ok (.iload_n 1, 1) := by decide +kernel
theorem dX8_does_46 : decode cX8_does 46 = .ok (.sipush 1000, 3) := by decide +kernel
theorem dX8_does_49 : decode cX8_does 49 = .ok (.irem, 1) := by decide +kernel
theorem dX8_does_50 : decode cX8_does 50 = .ok (.ifCond .ne 7, 3) := by decide +kernel
theorem dX8_does_53 : decode cX8_does 53 = .ok (.iconst 1, 1) := by decide +kernel
theorem dX8_does_54 : decode cX8_does 54 = .ok (.goto 4, 3) := by decide +kernel
theorem dX8_does_57 : decode cX8_does 57 = .ok (.iconst 0, 1) := by decide +kernel
theorem dX8_does_58 : decode cX8_does 58 = .ok (.istore 8, 2) := by decide +kernel
theorem dX8_does_60 : decode cX8_does 60 = .ok (.iload_n 2, 1) := by decide +kernel
theorem dX8_does_61 : decode cX8_does 61 = .ok (.tableswitch 442 1 9 #[51, 111, 154, 193, 237, 292, 326, 397, 410], 51) := by decide +kernel
theorem dX8_does_112 : decode cX8_does 112 = .ok (.iload_n 3, 1) := by decide +kernel
theorem dX8_does_113 : decode cX8_does 113 = .ok (.aload_n 0, 1) := by decide +kernel
theorem dX8_does_114 : decode cX8_does 114 = .ok (.getfield 19, 3) := by decide +kernel
theorem dX8_does_117 : decode cX8_does 117 = .ok (.iconst 0, 1) := by decide +kernel
theorem dX8_does_118 : decode cX8_does 118 = .ok (.iaload, 1) := by decide +kernel
theorem dX8_does_119 : decode cX8_does 119 = .ok (.if_icmp .ge 36, 3) := by decide +kernel
theorem dX8_does_122 : decode cX8_does 122 = .ok (.iload 4, 2) := by decide +kernel
theorem dX8_does_124 : decode cX8_does 124 = .ok (.aload_n 0, 1) := by decide +kernel
theorem dX8_does_125 : decode cX8_does 125 = .ok (.getfield 19, 3) := by decide +kernel
theorem dX8_does_128 : decode cX8_does 128 = .ok (.iconst 1, 1) := by decide +kernel
theorem dX8_does_129 : decode cX8_does 129 = .ok (.iaload, 1) := by decide +kernel
theorem dX8_does_130 : decode cX8_does 130 = .ok (.if_icmp .ge 25, 3) := by decide +kernel
theorem dX8_does_133 : decode cX8_does 133 = .ok (.iload 7, 2) := by decide +kernel
theorem dX8_does_135 : decode cX8_does 135 = .ok (.bipush 60, 2) := by decide +kernel
theorem dX8_does_137 : decode cX8_does 137 = .ok (.if_icmp .gt 18, 3) := by decide +kernel
theorem dX8_does_140 : decode cX8_does 140 = .ok (.aload_n 0, 1) := by decide +kernel
theorem dX8_does_141 : decode cX8_does 141 = .ok (.getfield 19, 3) := by decide +kernel
theorem dX8_does_144 : decode cX8_does 144 = .ok (.iload 4, 2) := by decide +kernel
theorem dX8_does_146 : decode cX8_does 146 = .ok (.invokestatic 62, 3) := by decide +kernel
theorem dX8_does_149 : decode cX8_does 149 = .ok (.iconst 3, 1) := by decide +kernel
theorem dX8_does_150 : decode cX8_does 150 = .ok (.iadd, 1) := by decide +kernel
theorem dX8_does_151 : decode cX8_does 151 = .ok (.iaload, 1) := by decide +kernel
theorem dX8_does_152 : decode cX8_does 152 = .ok (.ifCond .eq 5, 3) := by decide +kernel
theorem dX8_does_155 : decode cX8_does 155 = .ok (.iconst 0, 1) := by decide +kernel
theorem dX8_does_156 : decode cX8_does 156 = .ok (.ireturn, 1) := by decide +kernel
theorem dX8_does_157 : decode cX8_does 157 = .ok (.aload_n 0, 1) := by decide +kernel
theorem dX8_does_158 : decode cX8_does 158 = .ok (.getfield 19, 3) := by decide +kernel
theorem dX8_does_161 : decode cX8_does 161 = .ok (.iload_n 3, 1) := by decide +kernel
theorem dX8_does_162 : decode cX8_does 162 = .ok (.iload 4, 2) := by decide +kernel
theorem dX8_does_164 : decode cX8_does 164 = .ok (.invokestatic 54, 3) := by decide +kernel
theorem dX8_does_167 : decode cX8_does 167 = .ok (.iload 7, 2) := by decide +kernel
theorem dX8_does_169 : decode cX8_does 169 = .ok (.iastore, 1) := by decide +kernel
theorem dX8_does_170 : decode cX8_does 170 = .ok (.iconst 1, 1) := by decide +kernel
theorem dX8_does_171 : decode cX8_does 171 = .ok (.ireturn, 1) := by decide +kernel
theorem dX8_does_172 : decode cX8_does 172 = .ok (.iload 8, 2) := by decide +kernel
theorem dX8_does_174 : decode cX8_does 174 = .ok (.ifCond .eq 27, 3) := by decide +kernel
theorem dX8_does_177 : decode cX8_does 177 = .ok (.iload_n 3, 1) := by decide +kernel
theorem dX8_does_178 : decode cX8_does 178 = .ok (.aload_n 0, 1) := by decide +kernel
theorem dX8_does_179 : decode cX8_does 179 = .ok (.getfield 19, 3) := by decide +kernel
theorem dX8_does_182 : decode cX8_does 182 = .ok (.iconst 1, 1) := by decide +kernel
theorem dX8_does_183 : decode cX8_does 183 = .ok (.iaload, 1) := by decide +kernel
theorem dX8_does_184 : decode cX8_does 184 = .ok (.if_icmp .ge 17, 3) := by decide +kernel
theorem dX8_does_187 : decode cX8_does 187 = .ok (.aload_n 0, 1) := by decide +kernel
theorem dX8_does_188 : decode cX8_does 188 = .ok (.getfield 19, 3) := by decide +kernel
theorem dX8_does_191 : decode cX8_does 191 = .ok (.iload_n 3, 1) := by decide +kernel
theorem dX8_does_192 : decode cX8_does 192 = .ok (.invokestatic 62, 3) := by decide +kernel
theorem dX8_does_195 : decode cX8_does 195 = .ok (.iconst 3, 1) := by decide +kernel
theorem dX8_does_196 : decode cX8_does 196 = .ok (.iadd, 1) := by decide +kernel
theorem dX8_does_197 : decode cX8_does 197 = .ok (.iaload, 1) := by decide +kernel
theorem dX8_does_198 : decode cX8_does 198 = .ok (.ifCond .eq 5, 3) := by decide +kernel
theorem dX8_does_201 : decode cX8_does 201 = .ok (.iconst 0, 1) := by decide +kernel
theorem dX8_does_202 : decode cX8_does 202 = .ok (.ireturn, 1) := by decide +kernel
theorem dX8_does_203 : decode cX8_does 203 = .ok (.aload_n 0, 1) := by decide +kernel
theorem dX8_does_204 : decode cX8_does 204 = .ok (.aload_n 0, 1) := by decide +kernel
theorem dX8_does_205 : decode cX8_does 205 = .ok (.getfield 19, 3) := by decide +kernel
theorem dX8_does_208 : decode cX8_does 208 = .ok (.iload_n 3, 1) := by decide +kernel
theorem dX8_does_209 : decode cX8_does 209 = .ok (.invokevirtual 203, 3) := by decide +kernel
theorem dX8_does_212 : decode cX8_does 212 = .ok (.pop, 1) := by decide +kernel
theorem dX8_does_213 : decode cX8_does 213 = .ok (.iconst 1, 1) := by decide +kernel
theorem dX8_does_214 : decode cX8_does 214 = .ok (.ireturn, 1) := by decide +kernel
theorem dX8_does_215 : decode cX8_does 215 = .ok (.iload 8, 2) := by decide +kernel
theorem dX8_does_217 : decode cX8_does 217 = .ok (.ifCond .eq 24, 3) := by decide +kernel
theorem dX8_does_220 : decode cX8_does 220 = .ok (.iload_n 3, 1) := by decide +kernel
theorem dX8_does_221 : decode cX8_does 221 = .ok (.aload_n 0, 1) := by decide +kernel
theorem dX8_does_222 : decode cX8_does 222 = .ok (.getfield 19, 3) := by decide +kernel
theorem dX8_does_225 : decode cX8_does 225 = .ok (.iconst 1, 1) := by decide +kernel
theorem dX8_does_226 : decode cX8_does 226 = .ok (.iaload, 1) := by decide +kernel
theorem dX8_does_227 : decode cX8_does 227 = .ok (.if_icmp .ge 14, 3) := by decide +kernel
theorem dX8_does_230 : decode cX8_does 230 = .ok (.aload_n 0, 1) := by decide +kernel
theorem dX8_does_231 : decode cX8_does 231 = .ok (.getfield 19, 3) := by decide +kernel
theorem dX8_does_234 : decode cX8_does 234 = .ok (.iload_n 3, 1) := by decide +kernel
theorem dX8_does_235 : decode cX8_does 235 = .ok (.invokestatic 206, 3) := by decide +kernel
theorem dX8_does_238 : decode cX8_does 238 = .ok (.ifCond .ne 5, 3) := by decide +kernel
theorem dX8_does_241 : decode cX8_does 241 = .ok (.iconst 0, 1) := by decide +kernel
theorem dX8_does_242 : decode cX8_does 242 = .ok (.ireturn, 1) := by decide +kernel
theorem dX8_does_243 : decode cX8_does 243 = .ok (.aload_n 0, 1) := by decide +kernel
theorem dX8_does_244 : decode cX8_does 244 = .ok (.getfield 19, 3) := by decide +kernel
theorem dX8_does_247 : decode cX8_does 247 = .ok (.iload_n 3, 1) := by decide +kernel
theorem dX8_does_248 : decode cX8_does 248 = .ok (.invokestatic 210, 3) := by decide +kernel
theorem dX8_does_251 : decode cX8_does 251 = .ok (.pop, 1) := by decide +kernel
theorem dX8_does_252 : decode cX8_does 252 = .ok (.iconst 1, 1) := by decide +kernel
theorem dX8_does_253 : decode cX8_does 253 = .ok (.ireturn, 1) := by decide +kernel
theorem dX8_does_254 : decode cX8_does 254 = .ok (.iload 7, 2) := by decide +kernel
theorem dX8_does_256 : decode cX8_does 256 = .ok (.i2l, 1) := by decide +kernel
theorem dX8_does_257 : decode cX8_does 257 = .ok (.lconst 1, 1) := by decide +kernel
theorem dX8_does_258 : decode cX8_does 258 = .ok (.ldc2_w 199, 3) := by decide +kernel
theorem dX8_does_261 : decode cX8_does 261 = .ok (.invokestatic 108, 3) := by decide +kernel
theorem dX8_does_264 : decode cX8_does 264 = .ok (.ifCond .eq 18, 3) := by decide +kernel
theorem dX8_does_267 : decode cX8_does 267 = .ok (.aload_n 0, 1) := by decide +kernel
theorem dX8_does_268 : decode cX8_does 268 = .ok (.getfield 19, 3) := by decide +kernel
theorem dX8_does_271 : decode cX8_does 271 = .ok (.iload_n 3, 1) := by decide +kernel
theorem dX8_does_272 : decode cX8_does 272 = .ok (.iload 4, 2) := by decide +kernel
theorem dX8_does_274 : decode cX8_does 274 = .ok (.iload 7, 2) := by decide +kernel
theorem dX8_does_276 : decode cX8_does 276 = .ok (.invokestatic 241, 3) := by decide +kernel
theorem dX8_does_279 : decode cX8_does 279 = .ok (.ifCond .ne 5, 3) := by decide +kernel
theorem dX8_does_282 : decode cX8_does 282 = .ok (.iconst 0, 1) := by decide +kernel
theorem dX8_does_283 : decode cX8_does 283 = .ok (.ireturn, 1) := by decide +kernel
theorem dX8_does_284 : decode cX8_does 284 = .ok (.aload_n 0, 1) := by decide +kernel
theorem dX8_does_285 : decode cX8_does 285 = .ok (.getfield 19, 3) := by decide +kernel
theorem dX8_does_288 : decode cX8_does 288 = .ok (.iload_n 3, 1) := by decide +kernel
theorem dX8_does_289 : decode cX8_does 289 = .ok (.iload 4, 2) := by decide +kernel
theorem dX8_does_291 : decode cX8_does 291 = .ok (.iload 7, 2) := by decide +kernel
theorem dX8_does_293 : decode cX8_does 293 = .ok (.invokestatic 213, 3) := by decide +kernel
theorem dX8_does_296 : decode cX8_does 296 = .ok (.iconst 1, 1) := by decide +kernel
theorem dX8_does_297 : decode cX8_does 297 = .ok (.ireturn, 1) := by decide +kernel
theorem dX8_does_298 : decode cX8_does 298 = .ok (.iload_n 3, 1) := by decide +kernel
theorem dX8_does_299 : decode cX8_does 299 = .ok (.iload 4, 2) := by decide +kernel
theorem dX8_does_301 : decode cX8_does 301 = .ok (.if_icmp .eq 34, 3) := by decide +kernel
theorem dX8_does_304 : decode cX8_does 304 = .ok (.iload 4, 2) := by decide +kernel
theorem dX8_does_306 : decode cX8_does 306 = .ok (.aload_n 0, 1) := by decide +kernel
theorem dX8_does_307 : decode cX8_does 307 = .ok (.getfield 19, 3) := by decide +kernel
theorem dX8_does_310 : decode cX8_does 310 = .ok (.iconst 0, 1) := by decide +kernel
theorem dX8_does_311 : decode cX8_does 311 = .ok (.iaload, 1) := by decide +kernel
theorem dX8_does_312 : decode cX8_does 312 = .ok (.if_icmp .ge 23, 3) := by decide +kernel
theorem dX8_does_315 : decode cX8_does 315 = .ok (.iload 6, 2) := by decide +kernel
theorem dX8_does_317 : decode cX8_does 317 = .ok (.ifCond .eq 18, 3) := by decide +kernel
theorem dX8_does_320 : decode cX8_does 320 = .ok (.aload_n 0, 1) := by decide +kernel
theorem dX8_does_321 : decode cX8_does 321 = .ok (.getfield 19, 3) := by decide +kernel
theorem dX8_does_324 : decode cX8_does 324 = .ok (.iload_n 3, 1) := by decide +kernel
theorem dX8_does_325 : decode cX8_does 325 = .ok (.iload 5, 2) := by decide +kernel
theorem dX8_does_327 : decode cX8_does 327 = .ok (.iload 6, 2) := by decide +kernel
theorem dX8_does_329 : decode cX8_does 329 = .ok (.invokestatic 241, 3) := by decide +kernel
theorem dX8_does_332 : decode cX8_does 332 = .ok (.ifCond .ne 5, 3) := by decide +kernel
theorem dX8_does_335 : decode cX8_does 335 = .ok (.iconst 0, 1) := by decide +kernel
theorem dX8_does_336 : decode cX8_does 336 = .ok (.ireturn, 1) := by decide +kernel
theorem dX8_does_337 : decode cX8_does 337 = .ok (.aload_n 0, 1) := by decide +kernel
theorem dX8_does_338 : decode cX8_does 338 = .ok (.getfield 19, 3) := by decide +kernel
theorem dX8_does_341 : decode cX8_does 341 = .ok (.iload_n 3, 1) := by decide +kernel
theorem dX8_does_342 : decode cX8_does 342 = .ok (.iload 4, 2) := by decide +kernel
theorem dX8_does_344 : decode cX8_does 344 = .ok (.iload 5, 2) := by decide +kernel
theorem dX8_does_346 : decode cX8_does 346 = .ok (.iload 6, 2) := by decide +kernel
theorem dX8_does_348 : decode cX8_does 348 = .ok (.invokestatic 217, 3) := by decide +kernel
theorem dX8_does_351 : decode cX8_does 351 = .ok (.iconst 1, 1) := by decide +kernel
theorem dX8_does_352 : decode cX8_does 352 = .ok (.ireturn, 1) := by decide +kernel
theorem dX8_does_353 : decode cX8_does 353 = .ok (.iload 7, 2) := by decide +kernel
theorem dX8_does_355 : decode cX8_does 355 = .ok (.ifCond .ne 17, 3) := by decide +kernel
theorem dX8_does_358 : decode cX8_does 358 = .ok (.aload_n 0, 1) := by decide +kernel
theorem dX8_does_359 : decode cX8_does 359 = .ok (.getfield 19, 3) := by decide +kernel
theorem dX8_does_362 : decode cX8_does 362 = .ok (.iload_n 3, 1) := by decide +kernel
theorem dX8_does_363 : decode cX8_does 363 = .ok (.iload 4, 2) := by decide +kernel
theorem dX8_does_365 : decode cX8_does 365 = .ok (.iconst 1, 1) := by decide +kernel
theorem dX8_does_366 : decode cX8_does 366 = .ok (.invokestatic 241, 3) := by decide +kernel
theorem dX8_does_369 : decode cX8_does 369 = .ok (.ifCond .ne 5, 3) := by decide +kernel
theorem dX8_does_372 : decode cX8_does 372 = .ok (.iconst 0, 1) := by decide +kernel
theorem dX8_does_373 : decode cX8_does 373 = .ok (.ireturn, 1) := by decide +kernel
theorem dX8_does_374 : decode cX8_does 374 = .ok (.aload_n 0, 1) := by decide +kernel
theorem dX8_does_375 : decode cX8_does 375 = .ok (.getfield 19, 3) := by decide +kernel
theorem dX8_does_378 : decode cX8_does 378 = .ok (.iload_n 3, 1) := by decide +kernel
theorem dX8_does_379 : decode cX8_does 379 = .ok (.iload 4, 2) := by decide +kernel
theorem dX8_does_381 : decode cX8_does 381 = .ok (.invokestatic 221, 3) := by decide +kernel
theorem dX8_does_384 : decode cX8_does 384 = .ok (.pop, 1) := by decide +kernel
theorem dX8_does_385 : decode cX8_does 385 = .ok (.iconst 1, 1) := by decide +kernel
theorem dX8_does_386 : decode cX8_does 386 = .ok (.ireturn, 1) := by decide +kernel
theorem dX8_does_387 : decode cX8_does 387 = .ok (.iload_n 3, 1) := by decide +kernel
theorem dX8_does_388 : decode cX8_does 388 = .ok (.aload_n 0, 1) := by decide +kernel
theorem dX8_does_389 : decode cX8_does 389 = .ok (.getfield 19, 3) := by decide +kernel
theorem dX8_does_392 : decode cX8_does 392 = .ok (.iconst 2, 1) := by decide +kernel
theorem dX8_does_393 : decode cX8_does 393 = .ok (.iaload, 1) := by decide +kernel
theorem dX8_does_394 : decode cX8_does 394 = .ok (.if_icmp .ge 48, 3) := by decide +kernel
theorem dX8_does_397 : decode cX8_does 397 = .ok (.iload 4, 2) := by decide +kernel
theorem dX8_does_399 : decode cX8_does 399 = .ok (.aload_n 0, 1) := by decide +kernel
theorem dX8_does_400 : decode cX8_does 400 = .ok (.getfield 19, 3) := by decide +kernel
theorem dX8_does_403 : decode cX8_does 403 = .ok (.iconst 2, 1) := by decide +kernel
theorem dX8_does_404 : decode cX8_does 404 = .ok (.iaload, 1) := by decide +kernel
theorem dX8_does_405 : decode cX8_does 405 = .ok (.if_icmp .ge 37, 3) := by decide +kernel
theorem dX8_does_408 : decode cX8_does 408 = .ok (.iload_n 3, 1) := by decide +kernel
theorem dX8_does_409 : decode cX8_does 409 = .ok (.iload 4, 2) := by decide +kernel
theorem dX8_does_411 : decode cX8_does 411 = .ok (.if_icmp .eq 31, 3) := by decide +kernel
theorem dX8_does_414 : decode cX8_does 414 = .ok (.iload 7, 2) := by decide +kernel
theorem dX8_does_416 : decode cX8_does 416 = .ok (.i2l, 1) := by decide +kernel
theorem dX8_does_417 : decode cX8_does 417 = .ok (.lconst 1, 1) := by decide +kernel
theorem dX8_does_418 : decode cX8_does 418 = .ok (.ldc2_w 201, 3) := by decide +kernel
theorem dX8_does_421 : decode cX8_does 421 = .ok (.invokestatic 108, 3) := by decide +kernel
theorem dX8_does_424 : decode cX8_does 424 = .ok (.ifCond .eq 18, 3) := by decide +kernel
theorem dX8_does_427 : decode cX8_does 427 = .ok (.aload_n 0, 1) := by decide +kernel
theorem dX8_does_428 : decode cX8_does 428 = .ok (.getfield 19, 3) := by decide +kernel
theorem dX8_does_431 : decode cX8_does 431 = .ok (.iload_n 3, 1) := by decide +kernel
theorem dX8_does_432 : decode cX8_does 432 = .ok (.iload 4, 2) := by decide +kernel
theorem dX8_does_434 : decode cX8_does 434 = .ok (.iload 7, 2) := by decide +kernel
theorem dX8_does_436 : decode cX8_does 436 = .ok (.invokestatic 224, 3) := by decide +kernel
theorem dX8_does_439 : decode cX8_does 439 = .ok (.ifCond .ne 5, 3) := by decide +kernel
theorem dX8_does_442 : decode cX8_does 442 = .ok (.iconst 0, 1) := by decide +kernel
theorem dX8_does_443 : decode cX8_does 443 = .ok (.ireturn, 1) := by decide +kernel
theorem dX8_does_444 : decode cX8_does 444 = .ok (.aload_n 0, 1) := by decide +kernel
theorem dX8_does_445 : decode cX8_does 445 = .ok (.getfield 19, 3) := by decide +kernel
theorem dX8_does_448 : decode cX8_does 448 = .ok (.iload_n 3, 1) := by decide +kernel
theorem dX8_does_449 : decode cX8_does 449 = .ok (.iload 4, 2) := by decide +kernel
theorem dX8_does_451 : decode cX8_does 451 = .ok (.iload 7, 2) := by decide +kernel
theorem dX8_does_453 : decode cX8_does 453 = .ok (.invokestatic 228, 3) := by decide +kernel
theorem dX8_does_456 : decode cX8_does 456 = .ok (.iconst 1, 1) := by decide +kernel
theorem dX8_does_457 : decode cX8_does 457 = .ok (.ireturn, 1) := by decide +kernel
theorem dX8_does_458 : decode cX8_does 458 = .ok (.aload_n 0, 1) := by decide +kernel
theorem dX8_does_459 : decode cX8_does 459 = .ok (.getfield 19, 3) := by decide +kernel
theorem dX8_does_462 : decode cX8_does 462 = .ok (.iload_n 3, 1) := by decide +kernel
theorem dX8_does_463 : decode cX8_does 463 = .ok (.iload 4, 2) := by decide +kernel
theorem dX8_does_465 : decode cX8_does 465 = .ok (.iload 7, 2) := by decide +kernel
theorem dX8_does_467 : decode cX8_does 467 = .ok (.invokestatic 241, 3) := by decide +kernel
theorem dX8_does_470 : decode cX8_does 470 = .ok (.ireturn, 1) := by decide +kernel
theorem dX8_does_471 : decode cX8_does 471 = .ok (.iload_n 3, 1) := by decide +kernel
theorem dX8_does_472 : decode cX8_does 472 = .ok (.ifCond .ne 29, 3) := by decide +kernel
theorem dX8_does_475 : decode cX8_does 475 = .ok (.iload 4, 2) := by decide +kernel
theorem dX8_does_477 : decode cX8_does 477 = .ok (.ifCond .ne 24, 3) := by decide +kernel
theorem dX8_does_480 : decode cX8_does 480 = .ok (.iload 5, 2) := by decide +kernel
theorem dX8_does_482 : decode cX8_does 482 = .ok (.ifCond .ne 19, 3) := by decide +kernel
theorem dX8_does_485 : decode cX8_does 485 = .ok (.aload_n 0, 1) := by decide +kernel
theorem dX8_does_486 : decode cX8_does 486 = .ok (.getfield 19, 3) := by decide +kernel
theorem dX8_does_489 : decode cX8_does 489 = .ok (.invokestatic 168, 3) := by decide +kernel
theorem dX8_does_492 : decode cX8_does 492 = .ok (.iload 6, 2) := by decide +kernel
theorem dX8_does_494 : decode cX8_does 494 = .ok (.if_icmp .lt 7, 3) := by decide +kernel
theorem dX8_does_497 : decode cX8_does 497 = .ok (.iconst 1, 1) := by decide +kernel
theorem dX8_does_498 : decode cX8_does 498 = .ok (.goto 4, 3) := by decide +kernel
theorem dX8_does_501 : decode cX8_does 501 = .ok (.iconst 0, 1) := by decide +kernel
theorem dX8_does_502 : decode cX8_does 502 = .ok (.ireturn, 1) := by decide +kernel
theorem dX8_does_503 : decode cX8_does 503 = .ok (.iconst 0, 1) := by decide +kernel
theorem dX8_does_504 : decode cX8_does 504 = .ok (.ireturn, 1) := by decide +kernel
theorem dX8_runScript_0 : decode cX8_runScript 0 = .ok (.iload_n 1, 1) := by decide +kernel
theorem dX8_runScript_1 : decode cX8_runScript 1 = .ok (.i2l, 1) := by decide +kernel
theorem dX8_runScript_2 : decode cX8_runScript 2 = .ok (.lconst 1, 1) := by decide +kernel
theorem dX8_runScript_3 : decode cX8_runScript 3 = .ok (.ldc2_w 177, 3) := by decide +kernel
theorem dX8_runScript_6 : decode cX8_runScript 6 = .ok (.invokestatic 108, 3) := by decide +kernel
theorem dX8_runScript_9 : decode cX8_runScript 9 = .ok (.istore 4, 2) := by decide +kernel
theorem dX8_runScript_11 : decode cX8_runScript 11 = .ok (.aload_n 0, 1) := by decide +kernel
theorem dX8_runScript_12 : decode cX8_runScript 12 = .ok (.iload 4, 2) := by decide +kernel
theorem dX8_runScript_14 : decode cX8_runScript 14 = .ok (.ifCond .eq 32, 3) := by decide +kernel
theorem dX8_runScript_17 : decode cX8_runScript 17 = .ok (.lload_n 2, 1) := by decide +kernel
theorem dX8_runScript_18 : decode cX8_runScript 18 = .ok (.lconst 0, 1) := by decide +kernel
theorem dX8_runScript_19 : decode cX8_runScript 19 = .ok (.iload 4, 2) := by decide +kernel
theorem dX8_runScript_21 : decode cX8_runScript 21 = .ok (.ifCond .eq 9, 3) := by decide +kernel
theorem dX8_runScript_24 : decode cX8_runScript 24 = .ok (.iconst 5, 1) := by decide +kernel
theorem dX8_runScript_25 : decode cX8_runScript 25 = .ok (.iload_n 1, 1) := by decide +kernel
theorem dX8_runScript_26 : decode cX8_runScript 26 = .ok (.imul, 1) := by decide +kernel
theorem dX8_runScript_27 : decode cX8_runScript 27 = .ok (.goto 4, 3) := by decide +kernel
theorem dX8_runScript_30 : decode cX8_runScript 30 = .ok (.iconst 0, 1) := by decide +kernel
theorem dX8_runScript_31 : decode cX8_runScript 31 = .ok (.invokestatic 244, 3) := by decide +kernel
theorem dX8_runScript_34 : decode cX8_runScript 34 = .ok (.lconst 1, 1) := by decide +kernel
theorem dX8_runScript_35 : decode cX8_runScript 35 = .ok (.lsub, 1) := by decide +kernel
theorem dX8_runScript_36 : decode cX8_runScript 36 = .ok (.invokestatic 108, 3) := by decide +kernel
theorem dX8_runScript_39 : decode cX8_runScript 39 = .ok (.ifCond .eq 7, 3) := by decide +kernel
theorem dX8_runScript_42 : decode cX8_runScript 42 = .ok (.iconst 0, 1) := by decide +kernel
theorem dX8_runScript_43 : decode cX8_runScript 43 = .ok (.goto 4, 3) := by decide +kernel
theorem dX8_runScript_46 : decode cX8_runScript 46 = .ok (.iconst 1, 1) := by decide +kernel
theorem dX8_runScript_47 : decode cX8_runScript 47 = .ok (.invokevirtual 115, 3) := by decide +kernel
theorem dX8_runScript_50 : decode cX8_runScript 50 = .ok (.ifCond .eq 5, 3) := by decide +kernel
theorem dX8_runScript_53 : decode cX8_runScript 53 = .ok (.iconst 0, 1) := by decide +kernel
theorem dX8_runScript_54 : decode cX8_runScript 54 = .ok (.ireturn, 1) := by decide +kernel
theorem dX8_runScript_55 : decode cX8_runScript 55 = .ok (.aload_n 0, 1) := by decide +kernel
theorem dX8_runScript_56 : decode cX8_runScript 56 = .ok (.invokevirtual 248, 3) := by decide +kernel
theorem dX8_runScript_59 : decode cX8_runScript 59 = .ok (.iconst 0, 1) := by decide +kernel
theorem dX8_runScript_60 : decode cX8_runScript 60 = .ok (.istore 5, 2) := by decide +kernel
theorem dX8_runScript_62 : decode cX8_runScript 62 = .ok (.iload 5, 2) := by decide +kernel
theorem dX8_runScript_64 : decode cX8_runScript 64 = .ok (.iload_n 1, 1) := by decide +kernel
theorem dX8_runScript_65 : decode cX8_runScript 65 = .ok (.if_icmp .ge 37, 3) := by decide +kernel
theorem dX8_runScript_68 : decode cX8_runScript 68 = .ok (.aload_n 0, 1) := by decide +kernel
theorem dX8_runScript_69 : decode cX8_runScript 69 = .ok (.lload_n 2, 1) := by decide +kernel
theorem dX8_runScript_70 : decode cX8_runScript 70 = .ok (.iconst 5, 1) := by decide +kernel
theorem dX8_runScript_71 : decode cX8_runScript 71 = .ok (.iload_n 1, 1) := by decide +kernel
theorem dX8_runScript_72 : decode cX8_runScript 72 = .ok (.iconst 1, 1) := by decide +kernel
theorem dX8_runScript_73 : decode cX8_runScript 73 = .ok (.isub, 1) := by decide +kernel
theorem dX8_runScript_74 : decode cX8_runScript 74 = .ok (.iload 5, 2) := by decide +kernel
theorem dX8_runScript_76 : decode cX8_runScript 76 = .ok (.isub, 1) := by decide +kernel
theorem dX8_runScript_77 : decode cX8_runScript 77 = .ok (.imul, 1) := by decide +kernel
theorem dX8_runScript_78 : decode cX8_runScript 78 = .ok (.invokestatic 244, 3) := by decide +kernel
theorem dX8_runScript_81 : decode cX8_runScript 81 = .ok (.ldiv, 1) := by decide +kernel
theorem dX8_runScript_82 : decode cX8_runScript 82 = .ok (.ldc2_w 251, 3) := by decide +kernel
theorem dX8_runScript_85 : decode cX8_runScript 85 = .ok (.lrem, 1) := by decide +kernel
theorem dX8_runScript_86 : decode cX8_runScript 86 = .ok (.l2i, 1) := by decide +kernel
theorem dX8_runScript_87 : decode cX8_runScript 87 = .ok (.invokevirtual 253, 3) := by decide +kernel
theorem dX8_runScript_90 : decode cX8_runScript 90 = .ok (.ifCond .ne 6, 3) := by decide +kernel
theorem dX8_runScript_93 : decode cX8_runScript 93 = .ok (.iload 5, 2) := by decide +kernel
theorem dX8_runScript_95 : decode cX8_runScript 95 = .ok (.ireturn, 1) := by decide +kernel
theorem dX8_runScript_96 : decode cX8_runScript 96 = .ok (.iinc 5 1, 3) := by decide +kernel
theorem dX8_runScript_99 : decode cX8_runScript 99 = .ok (.goto (-37), 3) := by decide +kernel
theorem dX8_runScript_102 : decode cX8_runScript 102 = .ok (.ldc 65, 2) := by decide +kernel
theorem dX8_runScript_104 : decode cX8_runScript 104 = .ok (.ireturn, 1) := by decide +kernel
theorem dX8_evening_0 : decode cX8_evening 0 = .ok (.iload_n 1, 1) := by decide +kernel
theorem dX8_evening_1 : decode cX8_evening 1 = .ok (.bipush 8, 2) := by decide +kernel
theorem dX8_evening_3 : decode cX8_evening 3 = .ok (.idiv, 1) := by decide +kernel
theorem dX8_evening_4 : decode cX8_evening 4 = .ok (.aload_n 0, 1) := by decide +kernel
theorem dX8_evening_5 : decode cX8_evening 5 = .ok (.getfield 19, 3) := by decide +kernel
theorem dX8_evening_8 : decode cX8_evening 8 = .ok (.iconst 0, 1) := by decide +kernel
theorem dX8_evening_9 : decode cX8_evening 9 = .ok (.iaload, 1) := by decide +kernel
theorem dX8_evening_10 : decode cX8_evening 10 = .ok (.irem, 1) := by decide +kernel
theorem dX8_evening_11 : decode cX8_evening 11 = .ok (.istore_n 2, 1) := by decide +kernel
theorem dX8_evening_12 : decode cX8_evening 12 = .ok (.iload_n 1, 1) := by decide +kernel
theorem dX8_evening_13 : decode cX8_evening 13 = .ok (.bipush 64, 2) := by decide +kernel
theorem dX8_evening_15 : decode cX8_evening 15 = .ok (.idiv, 1) := by decide +kernel
theorem dX8_evening_16 : decode cX8_evening 16 = .ok (.aload_n 0, 1) := by decide +kernel
theorem dX8_evening_17 : decode cX8_evening 17 = .ok (.getfield 19, 3) := by decide +kernel
theorem dX8_evening_20 : decode cX8_evening 20 = .ok (.iconst 1, 1) := by decide +kernel
theorem dX8_evening_21 : decode cX8_evening 21 = .ok (.iaload, 1) := by decide +kernel
theorem dX8_evening_22 : decode cX8_evening 22 = .ok (.irem, 1) := by decide +kernel
theorem dX8_evening_23 : decode cX8_evening 23 = .ok (.istore_n 3, 1) := by decide +kernel
theorem dX8_evening_24 : decode cX8_evening 24 = .ok (.iconst 1, 1) := by decide +kernel
theorem dX8_evening_25 : decode cX8_evening 25 = .ok (.iload_n 1, 1) := by decide +kernel
theorem dX8_evening_26 : decode cX8_evening 26 = .ok (.sipush 1024, 3) := by decide +kernel
theorem dX8_evening_29 : decode cX8_evening 29 = .ok (.idiv, 1) := by decide +kernel
theorem dX8_evening_30 : decode cX8_evening 30 = .ok (.iconst 3, 1) := by decide +kernel
theorem dX8_evening_31 : decode cX8_evening 31 = .ok (.irem, 1) := by decide +kernel
theorem dX8_evening_32 : decode cX8_evening 32 = .ok (.iadd, 1) := by decide +kernel
theorem dX8_evening_33 : decode cX8_evening 33 = .ok (.istore 4, 2) := by decide +kernel
theorem dX8_evening_35 : decode cX8_evening 35 = .ok (.iload_n 1, 1) := by decide +kernel
theorem dX8_evening_36 : decode cX8_evening 36 = .ok (.sipush 1024, 3) := by decide +kernel
theorem dX8_evening_39 : decode cX8_evening 39 = .ok (.idiv, 1) := by decide +kernel
theorem dX8_evening_40 : decode cX8_evening 40 = .ok (.aload_n 0, 1) := by decide +kernel
theorem dX8_evening_41 : decode cX8_evening 41 = .ok (.getfield 19, 3) := by decide +kernel
theorem dX8_evening_44 : decode cX8_evening 44 = .ok (.iconst 0, 1) := by decide +kernel
theorem dX8_evening_45 : decode cX8_evening 45 = .ok (.iaload, 1) := by decide +kernel
theorem dX8_evening_46 : decode cX8_evening 46 = .ok (.irem, 1) := by decide +kernel
theorem dX8_evening_47 : decode cX8_evening 47 = .ok (.istore 5, 2) := by decide +kernel
theorem dX8_evening_49 : decode cX8_evening 49 = .ok (.iload_n 1, 1) := by decide +kernel
theorem dX8_evening_50 : decode cX8_evening 50 = .ok (.bipush 8, 2) := by decide +kernel
theorem dX8_evening_52 : decode cX8_evening 52 = .ok (.irem, 1) := by decide +kernel
theorem dX8_evening_53 : decode cX8_evening 53 = .ok (.iconst 5, 1) := by decide +kernel
theorem dX8_evening_54 : decode cX8_evening 54 = .ok (.if_icmp .ge 31, 3) := by decide +kernel
theorem dX8_evening_57 : decode cX8_evening 57 = .ok (.aload_n 0, 1) := by decide +kernel
theorem dX8_evening_58 : decode cX8_evening 58 = .ok (.getfield 19, 3) := by decide +kernel
theorem dX8_evening_61 : decode cX8_evening 61 = .ok (.iload_n 2, 1) := by decide +kernel
theorem dX8_evening_62 : decode cX8_evening 62 = .ok (.iload_n 3, 1) := by decide +kernel
theorem dX8_evening_63 : decode cX8_evening 63 = .ok (.iload 4, 2) := by decide +kernel
theorem dX8_evening_65 : decode cX8_evening 65 = .ok (.invokestatic 241, 3) := by decide +kernel
theorem dX8_evening_68 : decode cX8_evening 68 = .ok (.ifCond .eq 17, 3) := by decide +kernel
theorem dX8_evening_71 : decode cX8_evening 71 = .ok (.aload_n 0, 1) := by decide +kernel
theorem dX8_evening_72 : decode cX8_evening 72 = .ok (.getfield 19, 3) := by decide +kernel
theorem dX8_evening_75 : decode cX8_evening 75 = .ok (.iload_n 2, 1) := by decide +kernel
theorem dX8_evening_76 : decode cX8_evening 76 = .ok (.iload_n 3, 1) := by decide +kernel
theorem dX8_evening_77 : decode cX8_evening 77 = .ok (.iload 4, 2) := by decide +kernel
theorem dX8_evening_79 : decode cX8_evening 79 = .ok (.invokestatic 213, 3) := by decide +kernel
theorem dX8_evening_82 : decode cX8_evening 82 = .ok (.goto 76, 3) := by decide +kernel
theorem dX8_evening_85 : decode cX8_evening 85 = .ok (.iload_n 1, 1) := by decide +kernel
theorem dX8_evening_86 : decode cX8_evening 86 = .ok (.bipush 8, 2) := by decide +kernel
theorem dX8_evening_88 : decode cX8_evening 88 = .ok (.irem, 1) := by decide +kernel
theorem dX8_evening_89 : decode cX8_evening 89 = .ok (.iconst 5, 1) := by decide +kernel
theorem dX8_evening_90 : decode cX8_evening 90 = .ok (.if_icmp .ne 29, 3) := by decide +kernel
theorem dX8_evening_93 : decode cX8_evening 93 = .ok (.aload_n 0, 1) := by decide +kernel
theorem dX8_evening_94 : decode cX8_evening 94 = .ok (.getfield 19, 3) := by decide +kernel
theorem dX8_evening_97 : decode cX8_evening 97 = .ok (.iload_n 2, 1) := by decide +kernel
theorem dX8_evening_98 : decode cX8_evening 98 = .ok (.iload_n 3, 1) := by decide +kernel
theorem dX8_evening_99 : decode cX8_evening 99 = .ok (.iconst 1, 1) := by decide +kernel
theorem dX8_evening_100 : decode cX8_evening 100 = .ok (.invokestatic 241, 3) := by decide +kernel
theorem dX8_evening_103 : decode cX8_evening 103 = .ok (.ifCond .eq 16, 3) := by decide +kernel
theorem dX8_evening_106 : decode cX8_evening 106 = .ok (.aload_n 0, 1) := by decide +kernel
theorem dX8_evening_107 : decode cX8_evening 107 = .ok (.getfield 19, 3) := by decide +kernel
theorem dX8_evening_110 : decode cX8_evening 110 = .ok (.iload_n 2, 1) := by decide +kernel
theorem dX8_evening_111 : decode cX8_evening 111 = .ok (.iload_n 3, 1) := by decide +kernel
theorem dX8_evening_112 : decode cX8_evening 112 = .ok (.invokestatic 221, 3) := by decide +kernel
theorem dX8_evening_115 : decode cX8_evening 115 = .ok (.pop, 1) := by decide +kernel
theorem dX8_evening_116 : decode cX8_evening 116 = .ok (.goto 42, 3) := by decide +kernel
theorem dX8_evening_119 : decode cX8_evening 119 = .ok (.iload_n 1, 1) := by decide +kernel
theorem dX8_evening_120 : decode cX8_evening 120 = .ok (.bipush 8, 2) := by decide +kernel
theorem dX8_evening_122 : decode cX8_evening 122 = .ok (.irem, 1) := by decide +kernel
theorem dX8_evening_123 : decode cX8_evening 123 = .ok (.iconst 5, 1) := by decide +kernel
theorem dX8_evening_124 : decode cX8_evening 124 = .ok (.if_icmp .le 34, 3) := by decide +kernel
theorem dX8_evening_127 : decode cX8_evening 127 = .ok (.iload 5, 2) := by decide +kernel
theorem dX8_evening_129 : decode cX8_evening 129 = .ok (.iload_n 2, 1) := by decide +kernel
theorem dX8_evening_130 : decode cX8_evening 130 = .ok (.if_icmp .eq 28, 3) := by decide +kernel
theorem dX8_evening_133 : decode cX8_evening 133 = .ok (.aload_n 0, 1) := by decide +kernel
theorem dX8_evening_134 : decode cX8_evening 134 = .ok (.getfield 19, 3) := by decide +kernel
theorem dX8_evening_137 : decode cX8_evening 137 = .ok (.iload_n 2, 1) := by decide +kernel
theorem dX8_evening_138 : decode cX8_evening 138 = .ok (.iload_n 3, 1) := by decide +kernel
theorem dX8_evening_139 : decode cX8_evening 139 = .ok (.iconst 1, 1) := by decide +kernel
theorem dX8_evening_140 : decode cX8_evening 140 = .ok (.invokestatic 241, 3) := by decide +kernel
theorem dX8_evening_143 : decode cX8_evening 143 = .ok (.ifCond .eq 15, 3) := by decide +kernel
theorem dX8_evening_146 : decode cX8_evening 146 = .ok (.aload_n 0, 1) := by decide +kernel
theorem dX8_evening_147 : decode cX8_evening 147 = .ok (.getfield 19, 3) := by decide +kernel
theorem dX8_evening_150 : decode cX8_evening 150 = .ok (.iload_n 2, 1) := by decide +kernel
theorem dX8_evening_151 : decode cX8_evening 151 = .ok (.iload 5, 2) := by decide +kernel
theorem dX8_evening_153 : decode cX8_evening 153 = .ok (.iload_n 3, 1) := by decide +kernel
theorem dX8_evening_154 : decode cX8_evening 154 = .ok (.iconst 1, 1) := by decide +kernel
theorem dX8_evening_155 : decode cX8_evening 155 = .ok (.invokestatic 217, 3) := by decide +kernel
theorem dX8_evening_158 : decode cX8_evening 158 = .ok (.return_, 1) := by decide +kernel
theorem dX8_simulate_0 : decode cX8_simulate 0 = .ok (.aload_n 0, 1) := by decide +kernel
theorem dX8_simulate_1 : decode cX8_simulate 1 = .ok (.iload_n 3, 1) := by decide +kernel
theorem dX8_simulate_2 : decode cX8_simulate 2 = .ok (.i2l, 1) := by decide +kernel
theorem dX8_simulate_3 : decode cX8_simulate 3 = .ok (.lconst 1, 1) := by decide +kernel
theorem dX8_simulate_4 : decode cX8_simulate 4 = .ok (.ldc2_w 197, 3) := by decide +kernel
theorem dX8_simulate_7 : decode cX8_simulate 7 = .ok (.invokestatic 108, 3) := by decide +kernel
theorem dX8_simulate_10 : decode cX8_simulate 10 = .ok (.ifCond .eq 7, 3) := by decide +kernel
theorem dX8_simulate_13 : decode cX8_simulate 13 = .ok (.iconst 0, 1) := by decide +kernel
theorem dX8_simulate_14 : decode cX8_simulate 14 = .ok (.goto 4, 3) := by decide +kernel
theorem dX8_simulate_17 : decode cX8_simulate 17 = .ok (.iconst 1, 1) := by decide +kernel
theorem dX8_simulate_18 : decode cX8_simulate 18 = .ok (.invokevirtual 115, 3) := by decide +kernel
theorem dX8_simulate_21 : decode cX8_simulate 21 = .ok (.ifCond .eq 5, 3) := by decide +kernel
theorem dX8_simulate_24 : decode cX8_simulate 24 = .ok (.iconst 0, 1) := by decide +kernel
theorem dX8_simulate_25 : decode cX8_simulate 25 = .ok (.ireturn, 1) := by decide +kernel
theorem dX8_simulate_26 : decode cX8_simulate 26 = .ok (.aload_n 0, 1) := by decide +kernel
theorem dX8_simulate_27 : decode cX8_simulate 27 = .ok (.invokevirtual 248, 3) := by decide +kernel
theorem dX8_simulate_30 : decode cX8_simulate 30 = .ok (.lload_n 1, 1) := by decide +kernel
theorem dX8_simulate_31 : decode cX8_simulate 31 = .ok (.lstore 4, 2) := by decide +kernel
theorem dX8_simulate_33 : decode cX8_simulate 33 = .ok (.iconst 0, 1) := by decide +kernel
theorem dX8_simulate_34 : decode cX8_simulate 34 = .ok (.istore 6, 2) := by decide +kernel
theorem dX8_simulate_36 : decode cX8_simulate 36 = .ok (.iload 6, 2) := by decide +kernel
theorem dX8_simulate_38 : decode cX8_simulate 38 = .ok (.iload_n 3, 1) := by decide +kernel
theorem dX8_simulate_39 : decode cX8_simulate 39 = .ok (.if_icmp .ge 49, 3) := by decide +kernel
theorem dX8_simulate_42 : decode cX8_simulate 42 = .ok (.lload 4, 2) := by decide +kernel
theorem dX8_simulate_44 : decode cX8_simulate 44 = .ok (.ldc2_w 256, 3) := by decide +kernel
theorem dX8_simulate_47 : decode cX8_simulate 47 = .ok (.lmul, 1) := by decide +kernel
theorem dX8_simulate_48 : decode cX8_simulate 48 = .ok (.ldc2_w 258, 3) := by decide +kernel
theorem dX8_simulate_51 : decode cX8_simulate 51 = .ok (.ladd, 1) := by decide +kernel
theorem dX8_simulate_52 : decode cX8_simulate 52 = .ok (.lstore 4, 2) := by decide +kernel
theorem dX8_simulate_54 : decode cX8_simulate 54 = .ok (.aload_n 0, 1) := by decide +kernel
theorem dX8_simulate_55 : decode cX8_simulate 55 = .ok (.getfield 19, 3) := by decide +kernel
theorem dX8_simulate_58 : decode cX8_simulate 58 = .ok (.iconst 0, 1) := by decide +kernel
theorem dX8_simulate_59 : decode cX8_simulate 59 = .ok (.iaload, 1) := by decide +kernel
theorem dX8_simulate_60 : decode cX8_simulate 60 = .ok (.ifCond .le 22, 3) := by decide +kernel
theorem dX8_simulate_63 : decode cX8_simulate 63 = .ok (.aload_n 0, 1) := by decide +kernel
theorem dX8_simulate_64 : decode cX8_simulate 64 = .ok (.getfield 19, 3) := by decide +kernel
theorem dX8_simulate_67 : decode cX8_simulate 67 = .ok (.iconst 1, 1) := by decide +kernel
theorem dX8_simulate_68 : decode cX8_simulate 68 = .ok (.iaload, 1) := by decide +kernel
theorem dX8_simulate_69 : decode cX8_simulate 69 = .ok (.ifCond .le 13, 3) := by decide +kernel
theorem dX8_simulate_72 : decode cX8_simulate 72 = .ok (.aload_n 0, 1) := by decide +kernel
theorem dX8_simulate_73 : decode cX8_simulate 73 = .ok (.lload 4, 2) := by decide +kernel
theorem dX8_simulate_75 : decode cX8_simulate 75 = .ok (.bipush 33, 2) := by decide +kernel
theorem dX8_simulate_77 : decode cX8_simulate 77 = .ok (.lushr, 1) := by decide +kernel
theorem dX8_simulate_78 : decode cX8_simulate 78 = .ok (.l2i, 1) := by decide +kernel
theorem dX8_simulate_79 : decode cX8_simulate 79 = .ok (.invokevirtual 260, 3) := by decide +kernel
theorem dX8_simulate_82 : decode cX8_simulate 82 = .ok (.iinc 6 1, 3) := by decide +kernel
theorem dX8_simulate_85 : decode cX8_simulate 85 = .ok (.goto (-49), 3) := by decide +kernel
theorem dX8_simulate_88 : decode cX8_simulate 88 = .ok (.sipush 1000, 3) := by decide +kernel
theorem dX8_simulate_91 : decode cX8_simulate 91 = .ok (.aload_n 0, 1) := by decide +kernel
theorem dX8_simulate_92 : decode cX8_simulate 92 = .ok (.getfield 19, 3) := by decide +kernel
theorem dX8_simulate_95 : decode cX8_simulate 95 = .ok (.invokestatic 158, 3) := by decide +kernel
theorem dX8_simulate_98 : decode cX8_simulate 98 = .ok (.imul, 1) := by decide +kernel
theorem dX8_simulate_99 : decode cX8_simulate 99 = .ok (.aload_n 0, 1) := by decide +kernel
theorem dX8_simulate_100 : decode cX8_simulate 100 = .ok (.getfield 19, 3) := by decide +kernel
theorem dX8_simulate_103 : decode cX8_simulate 103 = .ok (.invokestatic 168, 3) := by decide +kernel
theorem dX8_simulate_106 : decode cX8_simulate 106 = .ok (.iadd, 1) := by decide +kernel
theorem dX8_simulate_107 : decode cX8_simulate 107 = .ok (.ireturn, 1) := by decide +kernel
theorem dX8_save_0 : decode cX8_save 0 = .ok (.aload_n 0, 1) := by decide +kernel
theorem dX8_save_1 : decode cX8_save 1 = .ok (.iload_n 1, 1) := by decide +kernel
theorem dX8_save_2 : decode cX8_save 2 = .ok (.i2l, 1) := by decide +kernel
theorem dX8_save_3 : decode cX8_save 3 = .ok (.lconst 0, 1) := by decide +kernel
theorem dX8_save_4 : decode cX8_save 4 = .ok (.lconst 1, 1) := by decide +kernel
theorem dX8_save_5 : decode cX8_save 5 = .ok (.invokestatic 108, 3) := by decide +kernel
theorem dX8_save_8 : decode cX8_save 8 = .ok (.ifCond .eq 7, 3) := by decide +kernel
theorem dX8_save_11 : decode cX8_save 11 = .ok (.iconst 0, 1) := by decide +kernel
theorem dX8_save_12 : decode cX8_save 12 = .ok (.goto 4, 3) := by decide +kernel
theorem dX8_save_15 : decode cX8_save 15 = .ok (.iconst 1, 1) := by decide +kernel
theorem dX8_save_16 : decode cX8_save 16 = .ok (.invokevirtual 115, 3) := by decide +kernel
theorem dX8_save_19 : decode cX8_save 19 = .ok (.ifCond .eq 5, 3) := by decide +kernel
theorem dX8_save_22 : decode cX8_save 22 = .ok (.iconst 0, 1) := by decide +kernel
theorem dX8_save_23 : decode cX8_save 23 = .ok (.ireturn, 1) := by decide +kernel
theorem dX8_save_24 : decode cX8_save 24 = .ok (.aload_n 0, 1) := by decide +kernel
theorem dX8_save_25 : decode cX8_save 25 = .ok (.getfield 16, 3) := by decide +kernel
theorem dX8_save_28 : decode cX8_save 28 = .ok (.iconst 0, 1) := by decide +kernel
theorem dX8_save_29 : decode cX8_save 29 = .ok (.aload_n 0, 1) := by decide +kernel
theorem dX8_save_30 : decode cX8_save 30 = .ok (.getfield 25, 3) := by decide +kernel
theorem dX8_save_33 : decode cX8_save 33 = .ok (.sipush 189, 3) := by decide +kernel
theorem dX8_save_36 : decode cX8_save 36 = .ok (.iload_n 1, 1) := by decide +kernel
theorem dX8_save_37 : decode cX8_save 37 = .ok (.imul, 1) := by decide +kernel
theorem dX8_save_38 : decode cX8_save 38 = .ok (.sipush 189, 3) := by decide +kernel
theorem dX8_save_41 : decode cX8_save 41 = .ok (.invokestatic 50, 3) := by decide +kernel
theorem dX8_save_44 : decode cX8_save 44 = .ok (.aload_n 0, 1) := by decide +kernel
theorem dX8_save_45 : decode cX8_save 45 = .ok (.getfield 28, 3) := by decide +kernel
theorem dX8_save_48 : decode cX8_save 48 = .ok (.iload_n 1, 1) := by decide +kernel
theorem dX8_save_49 : decode cX8_save 49 = .ok (.iconst 1, 1) := by decide +kernel
theorem dX8_save_50 : decode cX8_save 50 = .ok (.bastore, 1) := by decide +kernel
theorem dX8_save_51 : decode cX8_save 51 = .ok (.aload_n 0, 1) := by decide +kernel
theorem dX8_save_52 : decode cX8_save 52 = .ok (.getfield 16, 3) := by decide +kernel
theorem dX8_save_55 : decode cX8_save 55 = .ok (.invokestatic 158, 3) := by decide +kernel
theorem dX8_save_58 : decode cX8_save 58 = .ok (.ireturn, 1) := by decide +kernel
theorem dX8_restore_0 : decode cX8_restore 0 = .ok (.aload_n 0, 1) := by decide +kernel
theorem dX8_restore_1 : decode cX8_restore 1 = .ok (.iload_n 1, 1) := by decide +kernel
theorem dX8_restore_2 : decode cX8_restore 2 = .ok (.i2l, 1) := by decide +kernel
theorem dX8_restore_3 : decode cX8_restore 3 = .ok (.lconst 0, 1) := by decide +kernel
theorem dX8_restore_4 : decode cX8_restore 4 = .ok (.lconst 1, 1) := by decide +kernel
theorem dX8_restore_5 : decode cX8_restore 5 = .ok (.invokestatic 108, 3) := by decide +kernel
theorem dX8_restore_8 : decode cX8_restore 8 = .ok (.ifCond .ne 7, 3) := by decide +kernel
theorem dX8_restore_11 : decode cX8_restore 11 = .ok (.iconst 1, 1) := by decide +kernel
theorem dX8_restore_12 : decode cX8_restore 12 = .ok (.goto 17, 3) := by decide +kernel
theorem dX8_restore_15 : decode cX8_restore 15 = .ok (.aload_n 0, 1) := by decide +kernel
theorem dX8_restore_16 : decode cX8_restore 16 = .ok (.getfield 28, 3) := by decide +kernel
theorem dX8_restore_19 : decode cX8_restore 19 = .ok (.iload_n 1, 1) := by decide +kernel
theorem dX8_restore_20 : decode cX8_restore 20 = .ok (.baload, 1) := by decide +kernel
theorem dX8_restore_21 : decode cX8_restore 21 = .ok (.ifCond .eq 7, 3) := by decide +kernel
theorem dX8_restore_24 : decode cX8_restore 24 = .ok (.iconst 0, 1) := by decide +kernel
theorem dX8_restore_25 : decode cX8_restore 25 = .ok (.goto 4, 3) := by decide +kernel
theorem dX8_restore_28 : decode cX8_restore 28 = .ok (.iconst 2, 1) := by decide +kernel
theorem dX8_restore_29 : decode cX8_restore 29 = .ok (.invokevirtual 115, 3) := by decide +kernel
theorem dX8_restore_32 : decode cX8_restore 32 = .ok (.ifCond .eq 5, 3) := by decide +kernel
theorem dX8_restore_35 : decode cX8_restore 35 = .ok (.iconst 0, 1) := by decide +kernel
theorem dX8_restore_36 : decode cX8_restore 36 = .ok (.ireturn, 1) := by decide +kernel
theorem dX8_restore_37 : decode cX8_restore 37 = .ok (.aload_n 0, 1) := by decide +kernel
theorem dX8_restore_38 : decode cX8_restore 38 = .ok (.getfield 25, 3) := by decide +kernel
theorem dX8_restore_41 : decode cX8_restore 41 = .ok (.sipush 189, 3) := by decide +kernel
theorem dX8_restore_44 : decode cX8_restore 44 = .ok (.iload_n 1, 1) := by decide +kernel
theorem dX8_restore_45 : decode cX8_restore 45 = .ok (.imul, 1) := by decide +kernel
theorem dX8_restore_46 : decode cX8_restore 46 = .ok (.aload_n 0, 1) := by decide +kernel
theorem dX8_restore_47 : decode cX8_restore 47 = .ok (.getfield 16, 3) := by decide +kernel
theorem dX8_restore_50 : decode cX8_restore 50 = .ok (.iconst 0, 1) := by decide +kernel
theorem dX8_restore_51 : decode cX8_restore 51 = .ok (.sipush 189, 3) := by decide +kernel
theorem dX8_restore_54 : decode cX8_restore 54 = .ok (.invokestatic 50, 3) := by decide +kernel
theorem dX8_restore_57 : decode cX8_restore 57 = .ok (.aload_n 0, 1) := by decide +kernel
theorem dX8_restore_58 : decode cX8_restore 58 = .ok (.iconst 0, 1) := by decide +kernel
theorem dX8_restore_59 : decode cX8_restore 59 = .ok (.putfield 47, 3) := by decide +kernel
theorem dX8_restore_62 : decode cX8_restore 62 = .ok (.aload_n 0, 1) := by decide +kernel
theorem dX8_restore_63 : decode cX8_restore 63 = .ok (.getfield 16, 3) := by decide +kernel
theorem dX8_restore_66 : decode cX8_restore 66 = .ok (.invokestatic 158, 3) := by decide +kernel
theorem dX8_restore_69 : decode cX8_restore 69 = .ok (.ireturn, 1) := by decide +kernel
theorem dL_append_0 : decode cL_append 0 = .ok (.aload_n 2, 1) := by decide +kernel
theorem dL_append_1 : decode cL_append 1 = .ok (.iconst 0, 1) := by decide +kernel
theorem dL_append_2 : decode cL_append 2 = .ok (.aload_n 0, 1) := by decide +kernel
theorem dL_append_3 : decode cL_append 3 = .ok (.iload_n 1, 1) := by decide +kernel
theorem dL_append_4 : decode cL_append 4 = .ok (.invokevirtual 7, 3) := by decide +kernel
theorem dL_append_7 : decode cL_append 7 = .ok (.i2l, 1) := by decide +kernel
theorem dL_append_8 : decode cL_append 8 = .ok (.lastore, 1) := by decide +kernel
theorem dL_append_9 : decode cL_append 9 = .ok (.goto 9, 3) := by decide +kernel
theorem dL_append_12 : decode cL_append 12 = .ok (.astore_n 3, 1) := by decide +kernel
theorem dL_append_13 : decode cL_append 13 = .ok (.iconst 1, 1) := by decide +kernel
theorem dL_append_14 : decode cL_append 14 = .ok (.ireturn, 1) := by decide +kernel
theorem dL_append_15 : decode cL_append 15 = .ok (.astore_n 3, 1) := by decide +kernel
theorem dL_append_16 : decode cL_append 16 = .ok (.iconst 2, 1) := by decide +kernel
theorem dL_append_17 : decode cL_append 17 = .ok (.ireturn, 1) := by decide +kernel
theorem dL_append_18 : decode cL_append 18 = .ok (.iconst 0, 1) := by decide +kernel
theorem dL_append_19 : decode cL_append 19 = .ok (.ireturn, 1) := by decide +kernel
theorem dL_load_0 : decode cL_load 0 = .ok (.aload_n 1, 1) := by decide +kernel
theorem dL_load_1 : decode cL_load 1 = .ok (.iconst 0, 1) := by decide +kernel
theorem dL_load_2 : decode cL_load 2 = .ok (.aload_n 0, 1) := by decide +kernel
theorem dL_load_3 : decode cL_load 3 = .ok (.invokevirtual 17, 3) := by decide +kernel
theorem dL_load_6 : decode cL_load 6 = .ok (.i2l, 1) := by decide +kernel
theorem dL_load_7 : decode cL_load 7 = .ok (.lastore, 1) := by decide +kernel
theorem dL_load_8 : decode cL_load 8 = .ok (.goto 6, 3) := by decide +kernel
theorem dL_load_11 : decode cL_load 11 = .ok (.astore_n 2, 1) := by decide +kernel
theorem dL_load_12 : decode cL_load 12 = .ok (.iconst 1, 1) := by decide +kernel
theorem dL_load_13 : decode cL_load 13 = .ok (.ireturn, 1) := by decide +kernel
theorem dL_load_14 : decode cL_load 14 = .ok (.iconst 0, 1) := by decide +kernel
theorem dL_load_15 : decode cL_load 15 = .ok (.ireturn, 1) := by decide +kernel
theorem dL_about_0 : decode cL_about 0 = .ok (.aload_n 2, 1) := by decide +kernel
theorem dL_about_1 : decode cL_about 1 = .ok (.iconst 0, 1) := by decide +kernel
theorem dL_about_2 : decode cL_about 2 = .ok (.aload_n 0, 1) := by decide +kernel
theorem dL_about_3 : decode cL_about 3 = .ok (.iload_n 1, 1) := by decide +kernel
theorem dL_about_4 : decode cL_about 4 = .ok (.invokevirtual 21, 3) := by decide +kernel
theorem dL_about_7 : decode cL_about 7 = .ok (.i2l, 1) := by decide +kernel
theorem dL_about_8 : decode cL_about 8 = .ok (.lastore, 1) := by decide +kernel
theorem dL_about_9 : decode cL_about 9 = .ok (.goto 6, 3) := by decide +kernel
theorem dL_about_12 : decode cL_about 12 = .ok (.astore_n 3, 1) := by decide +kernel
theorem dL_about_13 : decode cL_about 13 = .ok (.iconst 1, 1) := by decide +kernel
theorem dL_about_14 : decode cL_about 14 = .ok (.ireturn, 1) := by decide +kernel
theorem dL_about_15 : decode cL_about 15 = .ok (.iconst 0, 1) := by decide +kernel
theorem dL_about_16 : decode cL_about 16 = .ok (.ireturn, 1) := by decide +kernel
theorem dL_member_0 : decode cL_member 0 = .ok (.aload_n 3, 1) := by decide +kernel
theorem dL_member_1 : decode cL_member 1 = .ok (.iconst 0, 1) := by decide +kernel
theorem dL_member_2 : decode cL_member 2 = .ok (.aload_n 0, 1) := by decide +kernel
theorem dL_member_3 : decode cL_member 3 = .ok (.iload_n 1, 1) := by decide +kernel
theorem dL_member_4 : decode cL_member 4 = .ok (.iload_n 2, 1) := by decide +kernel
theorem dL_member_5 : decode cL_member 5 = .ok (.invokevirtual 24, 3) := by decide +kernel
theorem dL_member_8 : decode cL_member 8 = .ok (.i2l, 1) := by decide +kernel
theorem dL_member_9 : decode cL_member 9 = .ok (.lastore, 1) := by decide +kernel
theorem dL_member_10 : decode cL_member 10 = .ok (.goto 11, 3) := by decide +kernel
theorem dL_member_13 : decode cL_member 13 = .ok (.astore 4, 2) := by decide +kernel
theorem dL_member_15 : decode cL_member 15 = .ok (.iconst 1, 1) := by decide +kernel
theorem dL_member_16 : decode cL_member 16 = .ok (.ireturn, 1) := by decide +kernel
theorem dL_member_17 : decode cL_member 17 = .ok (.astore 4, 2) := by decide +kernel
theorem dL_member_19 : decode cL_member 19 = .ok (.iconst 2, 1) := by decide +kernel
theorem dL_member_20 : decode cL_member 20 = .ok (.ireturn, 1) := by decide +kernel
theorem dL_member_21 : decode cL_member 21 = .ok (.iconst 0, 1) := by decide +kernel
theorem dL_member_22 : decode cL_member 22 = .ok (.ireturn, 1) := by decide +kernel
theorem dL_wine_0 : decode cL_wine 0 = .ok (.aload_n 3, 1) := by decide +kernel
theorem dL_wine_1 : decode cL_wine 1 = .ok (.iconst 0, 1) := by decide +kernel
theorem dL_wine_2 : decode cL_wine 2 = .ok (.aload_n 0, 1) := by decide +kernel
theorem dL_wine_3 : decode cL_wine 3 = .ok (.iload_n 1, 1) := by decide +kernel
theorem dL_wine_4 : decode cL_wine 4 = .ok (.iload_n 2, 1) := by decide +kernel
theorem dL_wine_5 : decode cL_wine 5 = .ok (.invokevirtual 30, 3) := by decide +kernel
theorem dL_wine_8 : decode cL_wine 8 = .ok (.i2l, 1) := by decide +kernel
theorem dL_wine_9 : decode cL_wine 9 = .ok (.lastore, 1) := by decide +kernel
theorem dL_wine_10 : decode cL_wine 10 = .ok (.goto 11, 3) := by decide +kernel
theorem dL_wine_13 : decode cL_wine 13 = .ok (.astore 4, 2) := by decide +kernel
theorem dL_wine_15 : decode cL_wine 15 = .ok (.iconst 1, 1) := by decide +kernel
theorem dL_wine_16 : decode cL_wine 16 = .ok (.ireturn, 1) := by decide +kernel
theorem dL_wine_17 : decode cL_wine 17 = .ok (.astore 4, 2) := by decide +kernel
theorem dL_wine_19 : decode cL_wine 19 = .ok (.iconst 2, 1) := by decide +kernel
theorem dL_wine_20 : decode cL_wine 20 = .ok (.ireturn, 1) := by decide +kernel
theorem dL_wine_21 : decode cL_wine 21 = .ok (.iconst 0, 1) := by decide +kernel
theorem dL_wine_22 : decode cL_wine 22 = .ok (.ireturn, 1) := by decide +kernel
theorem dL_bin_0 : decode cL_bin 0 = .ok (.aload_n 3, 1) := by decide +kernel
theorem dL_bin_1 : decode cL_bin 1 = .ok (.iconst 0, 1) := by decide +kernel
theorem dL_bin_2 : decode cL_bin 2 = .ok (.aload_n 0, 1) := by decide +kernel
theorem dL_bin_3 : decode cL_bin 3 = .ok (.iload_n 1, 1) := by decide +kernel
theorem dL_bin_4 : decode cL_bin 4 = .ok (.iload_n 2, 1) := by decide +kernel
theorem dL_bin_5 : decode cL_bin 5 = .ok (.invokevirtual 33, 3) := by decide +kernel
theorem dL_bin_8 : decode cL_bin 8 = .ok (.i2l, 1) := by decide +kernel
theorem dL_bin_9 : decode cL_bin 9 = .ok (.lastore, 1) := by decide +kernel
theorem dL_bin_10 : decode cL_bin 10 = .ok (.goto 11, 3) := by decide +kernel
theorem dL_bin_13 : decode cL_bin 13 = .ok (.astore 4, 2) := by decide +kernel
theorem dL_bin_15 : decode cL_bin 15 = .ok (.iconst 1, 1) := by decide +kernel
theorem dL_bin_16 : decode cL_bin 16 = .ok (.ireturn, 1) := by decide +kernel
theorem dL_bin_17 : decode cL_bin 17 = .ok (.astore 4, 2) := by decide +kernel
theorem dL_bin_19 : decode cL_bin 19 = .ok (.iconst 2, 1) := by decide +kernel
theorem dL_bin_20 : decode cL_bin 20 = .ok (.ireturn, 1) := by decide +kernel
theorem dL_bin_21 : decode cL_bin 21 = .ok (.iconst 0, 1) := by decide +kernel
theorem dL_bin_22 : decode cL_bin 22 = .ok (.ireturn, 1) := by decide +kernel
theorem dL_has_0 : decode cL_has 0 = .ok (.aload 4, 2) := by decide +kernel
theorem dL_has_2 : decode cL_has 2 = .ok (.iconst 0, 1) := by decide +kernel
theorem dL_has_3 : decode cL_has 3 = .ok (.aload_n 0, 1) := by decide +kernel
theorem dL_has_4 : decode cL_has 4 = .ok (.iload_n 1, 1) := by decide +kernel
theorem dL_has_5 : decode cL_has 5 = .ok (.iload_n 2, 1) := by decide +kernel
theorem dL_has_6 : decode cL_has 6 = .ok (.iload_n 3, 1) := by decide +kernel
theorem dL_has_7 : decode cL_has 7 = .ok (.invokevirtual 36, 3) := by decide +kernel
theorem dL_has_10 : decode cL_has 10 = .ok (.i2l, 1) := by decide +kernel
theorem dL_has_11 : decode cL_has 11 = .ok (.lastore, 1) := by decide +kernel
theorem dL_has_12 : decode cL_has 12 = .ok (.goto 11, 3) := by decide +kernel
theorem dL_has_15 : decode cL_has 15 = .ok (.astore 5, 2) := by decide +kernel
theorem dL_has_17 : decode cL_has 17 = .ok (.iconst 1, 1) := by decide +kernel
theorem dL_has_18 : decode cL_has 18 = .ok (.ireturn, 1) := by decide +kernel
theorem dL_has_19 : decode cL_has 19 = .ok (.astore 5, 2) := by decide +kernel
theorem dL_has_21 : decode cL_has 21 = .ok (.iconst 2, 1) := by decide +kernel
theorem dL_has_22 : decode cL_has 22 = .ok (.ireturn, 1) := by decide +kernel
theorem dL_has_23 : decode cL_has 23 = .ok (.iconst 0, 1) := by decide +kernel
theorem dL_has_24 : decode cL_has 24 = .ok (.ireturn, 1) := by decide +kernel
theorem dL_addMember_0 : decode cL_addMember 0 = .ok (.aload_n 2, 1) := by decide +kernel
theorem dL_addMember_1 : decode cL_addMember 1 = .ok (.iconst 0, 1) := by decide +kernel
theorem dL_addMember_2 : decode cL_addMember 2 = .ok (.aload_n 0, 1) := by decide +kernel
theorem dL_addMember_3 : decode cL_addMember 3 = .ok (.iload_n 1, 1) := by decide +kernel
theorem dL_addMember_4 : decode cL_addMember 4 = .ok (.invokevirtual 40, 3) := by decide +kernel
theorem dL_addMember_7 : decode cL_addMember 7 = .ok (.i2l, 1) := by decide +kernel
theorem dL_addMember_8 : decode cL_addMember 8 = .ok (.lastore, 1) := by decide +kernel
theorem dL_addMember_9 : decode cL_addMember 9 = .ok (.goto 9, 3) := by decide +kernel
theorem dL_addMember_12 : decode cL_addMember 12 = .ok (.astore_n 3, 1) := by decide +kernel
theorem dL_addMember_13 : decode cL_addMember 13 = .ok (.iconst 1, 1) := by decide +kernel
theorem dL_addMember_14 : decode cL_addMember 14 = .ok (.ireturn, 1) := by decide +kernel
theorem dL_addMember_15 : decode cL_addMember 15 = .ok (.astore_n 3, 1) := by decide +kernel
theorem dL_addMember_16 : decode cL_addMember 16 = .ok (.iconst 2, 1) := by decide +kernel
theorem dL_addMember_17 : decode cL_addMember 17 = .ok (.ireturn, 1) := by decide +kernel
theorem dL_addMember_18 : decode cL_addMember 18 = .ok (.iconst 0, 1) := by decide +kernel
theorem dL_addMember_19 : decode cL_addMember 19 = .ok (.ireturn, 1) := by decide +kernel
theorem dL_addWine_0 : decode cL_addWine 0 = .ok (.aload_n 3, 1) := by decide +kernel
theorem dL_addWine_1 : decode cL_addWine 1 = .ok (.iconst 0, 1) := by decide +kernel
theorem dL_addWine_2 : decode cL_addWine 2 = .ok (.aload_n 0, 1) := by decide +kernel
theorem dL_addWine_3 : decode cL_addWine 3 = .ok (.iload_n 1, 1) := by decide +kernel
theorem dL_addWine_4 : decode cL_addWine 4 = .ok (.iload_n 2, 1) := by decide +kernel
theorem dL_addWine_5 : decode cL_addWine 5 = .ok (.invokevirtual 43, 3) := by decide +kernel
theorem dL_addWine_8 : decode cL_addWine 8 = .ok (.i2l, 1) := by decide +kernel
theorem dL_addWine_9 : decode cL_addWine 9 = .ok (.lastore, 1) := by decide +kernel
theorem dL_addWine_10 : decode cL_addWine 10 = .ok (.goto 11, 3) := by decide +kernel
theorem dL_addWine_13 : decode cL_addWine 13 = .ok (.astore 4, 2) := by decide +kernel
theorem dL_addWine_15 : decode cL_addWine 15 = .ok (.iconst 1, 1) := by decide +kernel
theorem dL_addWine_16 : decode cL_addWine 16 = .ok (.ireturn, 1) := by decide +kernel
theorem dL_addWine_17 : decode cL_addWine 17 = .ok (.astore 4, 2) := by decide +kernel
theorem dL_addWine_19 : decode cL_addWine 19 = .ok (.iconst 2, 1) := by decide +kernel
theorem dL_addWine_20 : decode cL_addWine 20 = .ok (.ireturn, 1) := by decide +kernel
theorem dL_addWine_21 : decode cL_addWine 21 = .ok (.iconst 0, 1) := by decide +kernel
theorem dL_addWine_22 : decode cL_addWine 22 = .ok (.ireturn, 1) := by decide +kernel
theorem dL_addBin_0 : decode cL_addBin 0 = .ok (.aload_n 2, 1) := by decide +kernel
theorem dL_addBin_1 : decode cL_addBin 1 = .ok (.iconst 0, 1) := by decide +kernel
theorem dL_addBin_2 : decode cL_addBin 2 = .ok (.aload_n 0, 1) := by decide +kernel
theorem dL_addBin_3 : decode cL_addBin 3 = .ok (.iload_n 1, 1) := by decide +kernel
theorem dL_addBin_4 : decode cL_addBin 4 = .ok (.invokevirtual 46, 3) := by decide +kernel
theorem dL_addBin_7 : decode cL_addBin 7 = .ok (.i2l, 1) := by decide +kernel
theorem dL_addBin_8 : decode cL_addBin 8 = .ok (.lastore, 1) := by decide +kernel
theorem dL_addBin_9 : decode cL_addBin 9 = .ok (.goto 9, 3) := by decide +kernel
theorem dL_addBin_12 : decode cL_addBin 12 = .ok (.astore_n 3, 1) := by decide +kernel
theorem dL_addBin_13 : decode cL_addBin 13 = .ok (.iconst 1, 1) := by decide +kernel
theorem dL_addBin_14 : decode cL_addBin 14 = .ok (.ireturn, 1) := by decide +kernel
theorem dL_addBin_15 : decode cL_addBin 15 = .ok (.astore_n 3, 1) := by decide +kernel
theorem dL_addBin_16 : decode cL_addBin 16 = .ok (.iconst 2, 1) := by decide +kernel
theorem dL_addBin_17 : decode cL_addBin 17 = .ok (.ireturn, 1) := by decide +kernel
theorem dL_addBin_18 : decode cL_addBin 18 = .ok (.iconst 0, 1) := by decide +kernel
theorem dL_addBin_19 : decode cL_addBin 19 = .ok (.ireturn, 1) := by decide +kernel
theorem dL_order_0 : decode cL_order 0 = .ok (.aload 4, 2) := by decide +kernel
theorem dL_order_2 : decode cL_order 2 = .ok (.iconst 0, 1) := by decide +kernel
theorem dL_order_3 : decode cL_order 3 = .ok (.aload_n 0, 1) := by decide +kernel
theorem dL_order_4 : decode cL_order 4 = .ok (.iload_n 1, 1) := by decide +kernel
theorem dL_order_5 : decode cL_order 5 = .ok (.iload_n 2, 1) := by decide +kernel
theorem dL_order_6 : decode cL_order 6 = .ok (.iload_n 3, 1) := by decide +kernel
theorem dL_order_7 : decode cL_order 7 = .ok (.invokevirtual 49, 3) := by decide +kernel
theorem dL_order_10 : decode cL_order 10 = .ok (.i2l, 1) := by decide +kernel
theorem dL_order_11 : decode cL_order 11 = .ok (.lastore, 1) := by decide +kernel
theorem dL_order_12 : decode cL_order 12 = .ok (.goto 15, 3) := by decide +kernel
theorem dL_order_15 : decode cL_order 15 = .ok (.astore 5, 2) := by decide +kernel
theorem dL_order_17 : decode cL_order 17 = .ok (.iconst 1, 1) := by decide +kernel
theorem dL_order_18 : decode cL_order 18 = .ok (.ireturn, 1) := by decide +kernel
theorem dL_order_19 : decode cL_order 19 = .ok (.astore 5, 2) := by decide +kernel
theorem dL_order_21 : decode cL_order 21 = .ok (.iconst 2, 1) := by decide +kernel
theorem dL_order_22 : decode cL_order 22 = .ok (.ireturn, 1) := by decide +kernel
theorem dL_order_23 : decode cL_order 23 = .ok (.astore 5, 2) := by decide +kernel
theorem dL_order_25 : decode cL_order 25 = .ok (.iconst 3, 1) := by decide +kernel
theorem dL_order_26 : decode cL_order 26 = .ok (.ireturn, 1) := by decide +kernel
theorem dL_order_27 : decode cL_order 27 = .ok (.iconst 0, 1) := by decide +kernel
theorem dL_order_28 : decode cL_order 28 = .ok (.ireturn, 1) := by decide +kernel
theorem dL_allocate_0 : decode cL_allocate 0 = .ok (.aload_n 2, 1) := by decide +kernel
theorem dL_allocate_1 : decode cL_allocate 1 = .ok (.iconst 0, 1) := by decide +kernel
theorem dL_allocate_2 : decode cL_allocate 2 = .ok (.aload_n 0, 1) := by decide +kernel
theorem dL_allocate_3 : decode cL_allocate 3 = .ok (.iload_n 1, 1) := by decide +kernel
theorem dL_allocate_4 : decode cL_allocate 4 = .ok (.invokevirtual 52, 3) := by decide +kernel
theorem dL_allocate_7 : decode cL_allocate 7 = .ok (.i2l, 1) := by decide +kernel
theorem dL_allocate_8 : decode cL_allocate 8 = .ok (.lastore, 1) := by decide +kernel
theorem dL_allocate_9 : decode cL_allocate 9 = .ok (.goto 9, 3) := by decide +kernel
theorem dL_allocate_12 : decode cL_allocate 12 = .ok (.astore_n 3, 1) := by decide +kernel
theorem dL_allocate_13 : decode cL_allocate 13 = .ok (.iconst 1, 1) := by decide +kernel
theorem dL_allocate_14 : decode cL_allocate 14 = .ok (.ireturn, 1) := by decide +kernel
theorem dL_allocate_15 : decode cL_allocate 15 = .ok (.astore_n 3, 1) := by decide +kernel
theorem dL_allocate_16 : decode cL_allocate 16 = .ok (.iconst 2, 1) := by decide +kernel
theorem dL_allocate_17 : decode cL_allocate 17 = .ok (.ireturn, 1) := by decide +kernel
theorem dL_allocate_18 : decode cL_allocate 18 = .ok (.iconst 0, 1) := by decide +kernel
theorem dL_allocate_19 : decode cL_allocate 19 = .ok (.ireturn, 1) := by decide +kernel
theorem dL_deliver_0 : decode cL_deliver 0 = .ok (.aload_n 2, 1) := by decide +kernel
theorem dL_deliver_1 : decode cL_deliver 1 = .ok (.iconst 0, 1) := by decide +kernel
theorem dL_deliver_2 : decode cL_deliver 2 = .ok (.aload_n 0, 1) := by decide +kernel
theorem dL_deliver_3 : decode cL_deliver 3 = .ok (.iload_n 1, 1) := by decide +kernel
theorem dL_deliver_4 : decode cL_deliver 4 = .ok (.invokevirtual 55, 3) := by decide +kernel
theorem dL_deliver_7 : decode cL_deliver 7 = .ok (.i2l, 1) := by decide +kernel
theorem dL_deliver_8 : decode cL_deliver 8 = .ok (.lastore, 1) := by decide +kernel
theorem dL_deliver_9 : decode cL_deliver 9 = .ok (.goto 9, 3) := by decide +kernel
theorem dL_deliver_12 : decode cL_deliver 12 = .ok (.astore_n 3, 1) := by decide +kernel
theorem dL_deliver_13 : decode cL_deliver 13 = .ok (.iconst 1, 1) := by decide +kernel
theorem dL_deliver_14 : decode cL_deliver 14 = .ok (.ireturn, 1) := by decide +kernel
theorem dL_deliver_15 : decode cL_deliver 15 = .ok (.astore_n 3, 1) := by decide +kernel
theorem dL_deliver_16 : decode cL_deliver 16 = .ok (.iconst 2, 1) := by decide +kernel
theorem dL_deliver_17 : decode cL_deliver 17 = .ok (.ireturn, 1) := by decide +kernel
theorem dL_deliver_18 : decode cL_deliver 18 = .ok (.iconst 0, 1) := by decide +kernel
theorem dL_deliver_19 : decode cL_deliver 19 = .ok (.ireturn, 1) := by decide +kernel
theorem dL_drink_0 : decode cL_drink 0 = .ok (.aload 4, 2) := by decide +kernel
theorem dL_drink_2 : decode cL_drink 2 = .ok (.iconst 0, 1) := by decide +kernel
theorem dL_drink_3 : decode cL_drink 3 = .ok (.aload_n 0, 1) := by decide +kernel
theorem dL_drink_4 : decode cL_drink 4 = .ok (.iload_n 1, 1) := by decide +kernel
theorem dL_drink_5 : decode cL_drink 5 = .ok (.iload_n 2, 1) := by decide +kernel
theorem dL_drink_6 : decode cL_drink 6 = .ok (.iload_n 3, 1) := by decide +kernel
theorem dL_drink_7 : decode cL_drink 7 = .ok (.invokevirtual 58, 3) := by decide +kernel
theorem dL_drink_10 : decode cL_drink 10 = .ok (.i2l, 1) := by decide +kernel
theorem dL_drink_11 : decode cL_drink 11 = .ok (.lastore, 1) := by decide +kernel
theorem dL_drink_12 : decode cL_drink 12 = .ok (.goto 15, 3) := by decide +kernel
theorem dL_drink_15 : decode cL_drink 15 = .ok (.astore 5, 2) := by decide +kernel
theorem dL_drink_17 : decode cL_drink 17 = .ok (.iconst 1, 1) := by decide +kernel
theorem dL_drink_18 : decode cL_drink 18 = .ok (.ireturn, 1) := by decide +kernel
theorem dL_drink_19 : decode cL_drink 19 = .ok (.astore 5, 2) := by decide +kernel
theorem dL_drink_21 : decode cL_drink 21 = .ok (.iconst 2, 1) := by decide +kernel
theorem dL_drink_22 : decode cL_drink 22 = .ok (.ireturn, 1) := by decide +kernel
theorem dL_drink_23 : decode cL_drink 23 = .ok (.astore 5, 2) := by decide +kernel
theorem dL_drink_25 : decode cL_drink 25 = .ok (.iconst 3, 1) := by decide +kernel
theorem dL_drink_26 : decode cL_drink 26 = .ok (.ireturn, 1) := by decide +kernel
theorem dL_drink_27 : decode cL_drink 27 = .ok (.iconst 0, 1) := by decide +kernel
theorem dL_drink_28 : decode cL_drink 28 = .ok (.ireturn, 1) := by decide +kernel
theorem dL_give_0 : decode cL_give 0 = .ok (.aload 5, 2) := by decide +kernel
theorem dL_give_2 : decode cL_give 2 = .ok (.iconst 0, 1) := by decide +kernel
theorem dL_give_3 : decode cL_give 3 = .ok (.aload_n 0, 1) := by decide +kernel
theorem dL_give_4 : decode cL_give 4 = .ok (.iload_n 1, 1) := by decide +kernel
theorem dL_give_5 : decode cL_give 5 = .ok (.iload_n 2, 1) := by decide +kernel
theorem dL_give_6 : decode cL_give 6 = .ok (.iload_n 3, 1) := by decide +kernel
theorem dL_give_7 : decode cL_give 7 = .ok (.iload 4, 2) := by decide +kernel
theorem dL_give_9 : decode cL_give 9 = .ok (.invokevirtual 61, 3) := by decide +kernel
theorem dL_give_12 : decode cL_give 12 = .ok (.i2l, 1) := by decide +kernel
theorem dL_give_13 : decode cL_give 13 = .ok (.lastore, 1) := by decide +kernel
theorem dL_give_14 : decode cL_give 14 = .ok (.goto 15, 3) := by decide +kernel
theorem dL_give_17 : decode cL_give 17 = .ok (.astore 6, 2) := by decide +kernel
theorem dL_give_19 : decode cL_give 19 = .ok (.iconst 1, 1) := by decide +kernel
theorem dL_give_20 : decode cL_give 20 = .ok (.ireturn, 1) := by decide +kernel
theorem dL_give_21 : decode cL_give 21 = .ok (.astore 6, 2) := by decide +kernel
theorem dL_give_23 : decode cL_give 23 = .ok (.iconst 2, 1) := by decide +kernel
theorem dL_give_24 : decode cL_give 24 = .ok (.ireturn, 1) := by decide +kernel
theorem dL_give_25 : decode cL_give 25 = .ok (.astore 6, 2) := by decide +kernel
theorem dL_give_27 : decode cL_give 27 = .ok (.iconst 3, 1) := by decide +kernel
theorem dL_give_28 : decode cL_give 28 = .ok (.ireturn, 1) := by decide +kernel
theorem dL_give_29 : decode cL_give 29 = .ok (.iconst 0, 1) := by decide +kernel
theorem dL_give_30 : decode cL_give 30 = .ok (.ireturn, 1) := by decide +kernel
theorem dL_cork_0 : decode cL_cork 0 = .ok (.aload_n 3, 1) := by decide +kernel
theorem dL_cork_1 : decode cL_cork 1 = .ok (.iconst 0, 1) := by decide +kernel
theorem dL_cork_2 : decode cL_cork 2 = .ok (.aload_n 0, 1) := by decide +kernel
theorem dL_cork_3 : decode cL_cork 3 = .ok (.iload_n 1, 1) := by decide +kernel
theorem dL_cork_4 : decode cL_cork 4 = .ok (.iload_n 2, 1) := by decide +kernel
theorem dL_cork_5 : decode cL_cork 5 = .ok (.invokevirtual 65, 3) := by decide +kernel
theorem dL_cork_8 : decode cL_cork 8 = .ok (.i2l, 1) := by decide +kernel
theorem dL_cork_9 : decode cL_cork 9 = .ok (.lastore, 1) := by decide +kernel
theorem dL_cork_10 : decode cL_cork 10 = .ok (.goto 11, 3) := by decide +kernel
theorem dL_cork_13 : decode cL_cork 13 = .ok (.astore 4, 2) := by decide +kernel
theorem dL_cork_15 : decode cL_cork 15 = .ok (.iconst 1, 1) := by decide +kernel
theorem dL_cork_16 : decode cL_cork 16 = .ok (.ireturn, 1) := by decide +kernel
theorem dL_cork_17 : decode cL_cork 17 = .ok (.astore 4, 2) := by decide +kernel
theorem dL_cork_19 : decode cL_cork 19 = .ok (.iconst 2, 1) := by decide +kernel
theorem dL_cork_20 : decode cL_cork 20 = .ok (.ireturn, 1) := by decide +kernel
theorem dL_cork_21 : decode cL_cork 21 = .ok (.iconst 0, 1) := by decide +kernel
theorem dL_cork_22 : decode cL_cork 22 = .ok (.ireturn, 1) := by decide +kernel
theorem dL_move_0 : decode cL_move 0 = .ok (.aload 4, 2) := by decide +kernel
theorem dL_move_2 : decode cL_move 2 = .ok (.iconst 0, 1) := by decide +kernel
theorem dL_move_3 : decode cL_move 3 = .ok (.aload_n 0, 1) := by decide +kernel
theorem dL_move_4 : decode cL_move 4 = .ok (.iload_n 1, 1) := by decide +kernel
theorem dL_move_5 : decode cL_move 5 = .ok (.iload_n 2, 1) := by decide +kernel
theorem dL_move_6 : decode cL_move 6 = .ok (.iload_n 3, 1) := by decide +kernel
theorem dL_move_7 : decode cL_move 7 = .ok (.invokevirtual 68, 3) := by decide +kernel
theorem dL_move_10 : decode cL_move 10 = .ok (.i2l, 1) := by decide +kernel
theorem dL_move_11 : decode cL_move 11 = .ok (.lastore, 1) := by decide +kernel
theorem dL_move_12 : decode cL_move 12 = .ok (.goto 15, 3) := by decide +kernel
theorem dL_move_15 : decode cL_move 15 = .ok (.astore 5, 2) := by decide +kernel
theorem dL_move_17 : decode cL_move 17 = .ok (.iconst 1, 1) := by decide +kernel
theorem dL_move_18 : decode cL_move 18 = .ok (.ireturn, 1) := by decide +kernel
theorem dL_move_19 : decode cL_move 19 = .ok (.astore 5, 2) := by decide +kernel
theorem dL_move_21 : decode cL_move 21 = .ok (.iconst 2, 1) := by decide +kernel
theorem dL_move_22 : decode cL_move 22 = .ok (.ireturn, 1) := by decide +kernel
theorem dL_move_23 : decode cL_move 23 = .ok (.astore 5, 2) := by decide +kernel
