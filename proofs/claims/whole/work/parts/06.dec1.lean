theorem dX3_init_0 : decode cX3_init 0 = .ok (.aload_n 0, 1) := by decide +kernel
theorem dX3_init_1 : decode cX3_init 1 = .ok (.invokespecial 3, 3) := by decide +kernel
theorem dX3_init_4 : decode cX3_init 4 = .ok (.aload_n 0, 1) := by decide +kernel
theorem dX3_init_5 : decode cX3_init 5 = .ok (.bipush 33, 2) := by decide +kernel
theorem dX3_init_7 : decode cX3_init 7 = .ok (.newarray .long, 2) := by decide +kernel
theorem dX3_init_9 : decode cX3_init 9 = .ok (.putfield 11, 3) := by decide +kernel
theorem dX3_init_12 : decode cX3_init 12 = .ok (.aload_n 0, 1) := by decide +kernel
theorem dX3_init_13 : decode cX3_init 13 = .ok (.bipush 33, 2) := by decide +kernel
theorem dX3_init_15 : decode cX3_init 15 = .ok (.newarray .long, 2) := by decide +kernel
theorem dX3_init_17 : decode cX3_init 17 = .ok (.putfield 15, 3) := by decide +kernel
theorem dX3_init_20 : decode cX3_init 20 = .ok (.aload_n 0, 1) := by decide +kernel
theorem dX3_init_21 : decode cX3_init 21 = .ok (.bipush 11, 2) := by decide +kernel
theorem dX3_init_23 : decode cX3_init 23 = .ok (.newarray .long, 2) := by decide +kernel
theorem dX3_init_25 : decode cX3_init 25 = .ok (.putfield 18, 3) := by decide +kernel
theorem dX3_init_28 : decode cX3_init 28 = .ok (.aload_n 0, 1) := by decide +kernel
theorem dX3_init_29 : decode cX3_init 29 = .ok (.iconst 0, 1) := by decide +kernel
theorem dX3_init_30 : decode cX3_init 30 = .ok (.putfield 21, 3) := by decide +kernel
theorem dX3_init_33 : decode cX3_init 33 = .ok (.aload_n 0, 1) := by decide +kernel
theorem dX3_init_34 : decode cX3_init 34 = .ok (.iconst 0, 1) := by decide +kernel
theorem dX3_init_35 : decode cX3_init 35 = .ok (.putfield 25, 3) := by decide +kernel
theorem dX3_init_38 : decode cX3_init 38 = .ok (.aload_n 0, 1) := by decide +kernel
theorem dX3_init_39 : decode cX3_init 39 = .ok (.iconst 0, 1) := by decide +kernel
theorem dX3_init_40 : decode cX3_init 40 = .ok (.putfield 28, 3) := by decide +kernel
theorem dX3_init_43 : decode cX3_init 43 = .ok (.aload_n 0, 1) := by decide +kernel
theorem dX3_init_44 : decode cX3_init 44 = .ok (.iconst 0, 1) := by decide +kernel
theorem dX3_init_45 : decode cX3_init 45 = .ok (.putfield 31, 3) := by decide +kernel
theorem dX3_init_48 : decode cX3_init 48 = .ok (.aload_n 0, 1) := by decide +kernel
theorem dX3_init_49 : decode cX3_init 49 = .ok (.lconst 0, 1) := by decide +kernel
theorem dX3_init_50 : decode cX3_init 50 = .ok (.putfield 34, 3) := by decide +kernel
theorem dX3_init_53 : decode cX3_init 53 = .ok (.aload_n 0, 1) := by decide +kernel
theorem dX3_init_54 : decode cX3_init 54 = .ok (.lconst 0, 1) := by decide +kernel
theorem dX3_init_55 : decode cX3_init 55 = .ok (.putfield 38, 3) := by decide +kernel
theorem dX3_init_58 : decode cX3_init 58 = .ok (.return_, 1) := by decide +kernel
theorem dX3_start_0 : decode cX3_start 0 = .ok (.aload_n 0, 1) := by decide +kernel
theorem dX3_start_1 : decode cX3_start 1 = .ok (.getfield 11, 3) := by decide +kernel
theorem dX3_start_4 : decode cX3_start 4 = .ok (.invokestatic 41, 3) := by decide +kernel
theorem dX3_start_7 : decode cX3_start 7 = .ok (.aload_n 0, 1) := by decide +kernel
theorem dX3_start_8 : decode cX3_start 8 = .ok (.getfield 18, 3) := by decide +kernel
theorem dX3_start_11 : decode cX3_start 11 = .ok (.invokestatic 41, 3) := by decide +kernel
theorem dX3_start_14 : decode cX3_start 14 = .ok (.aload_n 0, 1) := by decide +kernel
theorem dX3_start_15 : decode cX3_start 15 = .ok (.iload_n 2, 1) := by decide +kernel
theorem dX3_start_16 : decode cX3_start 16 = .ok (.putfield 21, 3) := by decide +kernel
theorem dX3_start_19 : decode cX3_start 19 = .ok (.aload_n 0, 1) := by decide +kernel
theorem dX3_start_20 : decode cX3_start 20 = .ok (.aload_n 1, 1) := by decide +kernel
theorem dX3_start_21 : decode cX3_start 21 = .ok (.getfield 45, 3) := by decide +kernel
theorem dX3_start_24 : decode cX3_start 24 = .ok (.putfield 25, 3) := by decide +kernel
theorem dX3_start_27 : decode cX3_start 27 = .ok (.aload_n 0, 1) := by decide +kernel
theorem dX3_start_28 : decode cX3_start 28 = .ok (.aload_n 1, 1) := by decide +kernel
theorem dX3_start_29 : decode cX3_start 29 = .ok (.getfield 48, 3) := by decide +kernel
theorem dX3_start_32 : decode cX3_start 32 = .ok (.putfield 28, 3) := by decide +kernel
theorem dX3_start_35 : decode cX3_start 35 = .ok (.aload_n 0, 1) := by decide +kernel
theorem dX3_start_36 : decode cX3_start 36 = .ok (.aload_n 1, 1) := by decide +kernel
theorem dX3_start_37 : decode cX3_start 37 = .ok (.invokevirtual 49, 3) := by decide +kernel
theorem dX3_start_40 : decode cX3_start 40 = .ok (.putfield 31, 3) := by decide +kernel
theorem dX3_start_43 : decode cX3_start 43 = .ok (.aload_n 0, 1) := by decide +kernel
theorem dX3_start_44 : decode cX3_start 44 = .ok (.ldc2_w 52, 3) := by decide +kernel
theorem dX3_start_47 : decode cX3_start 47 = .ok (.putfield 34, 3) := by decide +kernel
theorem dX3_start_50 : decode cX3_start 50 = .ok (.aload_n 0, 1) := by decide +kernel
theorem dX3_start_51 : decode cX3_start 51 = .ok (.lconst 0, 1) := by decide +kernel
theorem dX3_start_52 : decode cX3_start 52 = .ok (.putfield 38, 3) := by decide +kernel
theorem dX3_start_55 : decode cX3_start 55 = .ok (.aload_n 0, 1) := by decide +kernel
theorem dX3_start_56 : decode cX3_start 56 = .ok (.getfield 21, 3) := by decide +kernel
theorem dX3_start_59 : decode cX3_start 59 = .ok (.iconst 1, 1) := by decide +kernel
theorem dX3_start_60 : decode cX3_start 60 = .ok (.if_icmp .ne 25, 3) := by decide +kernel
theorem dX3_start_63 : decode cX3_start 63 = .ok (.aload_n 1, 1) := by decide +kernel
theorem dX3_start_64 : decode cX3_start 64 = .ok (.getfield 54, 3) := by decide +kernel
theorem dX3_start_67 : decode cX3_start 67 = .ok (.ifCond .ne 18, 3) := by decide +kernel
theorem dX3_start_70 : decode cX3_start 70 = .ok (.aload_n 0, 1) := by decide +kernel
theorem dX3_start_71 : decode cX3_start 71 = .ok (.iconst 0, 1) := by decide +kernel
theorem dX3_start_72 : decode cX3_start 72 = .ok (.aload_n 1, 1) := by decide +kernel
theorem dX3_start_73 : decode cX3_start 73 = .ok (.getfield 57, 3) := by decide +kernel
theorem dX3_start_76 : decode cX3_start 76 = .ok (.ldc2_w 52, 3) := by decide +kernel
theorem dX3_start_79 : decode cX3_start 79 = .ok (.invokevirtual 60, 3) := by decide +kernel
theorem dX3_start_82 : decode cX3_start 82 = .ok (.goto 51, 3) := by decide +kernel
theorem dX3_start_85 : decode cX3_start 85 = .ok (.aload_n 0, 1) := by decide +kernel
theorem dX3_start_86 : decode cX3_start 86 = .ok (.getfield 21, 3) := by decide +kernel
theorem dX3_start_89 : decode cX3_start 89 = .ok (.iconst 1, 1) := by decide +kernel
theorem dX3_start_90 : decode cX3_start 90 = .ok (.if_icmp .ne 25, 3) := by decide +kernel
theorem dX3_start_93 : decode cX3_start 93 = .ok (.aload_n 1, 1) := by decide +kernel
theorem dX3_start_94 : decode cX3_start 94 = .ok (.getfield 57, 3) := by decide +kernel
theorem dX3_start_97 : decode cX3_start 97 = .ok (.ifCond .ne 18, 3) := by decide +kernel
theorem dX3_start_100 : decode cX3_start 100 = .ok (.aload_n 0, 1) := by decide +kernel
theorem dX3_start_101 : decode cX3_start 101 = .ok (.iconst 1, 1) := by decide +kernel
theorem dX3_start_102 : decode cX3_start 102 = .ok (.aload_n 1, 1) := by decide +kernel
theorem dX3_start_103 : decode cX3_start 103 = .ok (.getfield 54, 3) := by decide +kernel
theorem dX3_start_106 : decode cX3_start 106 = .ok (.ldc2_w 52, 3) := by decide +kernel
theorem dX3_start_109 : decode cX3_start 109 = .ok (.invokevirtual 60, 3) := by decide +kernel
theorem dX3_start_112 : decode cX3_start 112 = .ok (.goto 21, 3) := by decide +kernel
theorem dX3_start_115 : decode cX3_start 115 = .ok (.aload_n 0, 1) := by decide +kernel
theorem dX3_start_116 : decode cX3_start 116 = .ok (.getfield 11, 3) := by decide +kernel
theorem dX3_start_119 : decode cX3_start 119 = .ok (.aload_n 1, 1) := by decide +kernel
theorem dX3_start_120 : decode cX3_start 120 = .ok (.getfield 54, 3) := by decide +kernel
theorem dX3_start_123 : decode cX3_start 123 = .ok (.aload_n 1, 1) := by decide +kernel
theorem dX3_start_124 : decode cX3_start 124 = .ok (.getfield 64, 3) := by decide +kernel
theorem dX3_start_127 : decode cX3_start 127 = .ok (.ldc2_w 52, 3) := by decide +kernel
theorem dX3_start_130 : decode cX3_start 130 = .ok (.invokestatic 67, 3) := by decide +kernel
theorem dX3_start_133 : decode cX3_start 133 = .ok (.return_, 1) := by decide +kernel
theorem dX3_advance_0 : decode cX3_advance 0 = .ok (.iconst 0, 1) := by decide +kernel
theorem dX3_advance_1 : decode cX3_advance 1 = .ok (.istore_n 2, 1) := by decide +kernel
theorem dX3_advance_2 : decode cX3_advance 2 = .ok (.iload_n 2, 1) := by decide +kernel
theorem dX3_advance_3 : decode cX3_advance 3 = .ok (.iload_n 1, 1) := by decide +kernel
theorem dX3_advance_4 : decode cX3_advance 4 = .ok (.if_icmp .ge 22, 3) := by decide +kernel
theorem dX3_advance_7 : decode cX3_advance 7 = .ok (.aload_n 0, 1) := by decide +kernel
theorem dX3_advance_8 : decode cX3_advance 8 = .ok (.getfield 34, 3) := by decide +kernel
theorem dX3_advance_11 : decode cX3_advance 11 = .ok (.lconst 0, 1) := by decide +kernel
theorem dX3_advance_12 : decode cX3_advance 12 = .ok (.lcmp, 1) := by decide +kernel
theorem dX3_advance_13 : decode cX3_advance 13 = .ok (.ifCond .le 13, 3) := by decide +kernel
theorem dX3_advance_16 : decode cX3_advance 16 = .ok (.aload_n 0, 1) := by decide +kernel
theorem dX3_advance_17 : decode cX3_advance 17 = .ok (.invokevirtual 71, 3) := by decide +kernel
theorem dX3_advance_20 : decode cX3_advance 20 = .ok (.iinc 2 1, 3) := by decide +kernel
theorem dX3_advance_23 : decode cX3_advance 23 = .ok (.goto (-21), 3) := by decide +kernel
theorem dX3_advance_26 : decode cX3_advance 26 = .ok (.return_, 1) := by decide +kernel
theorem dX3_reachesTillEnd_0 : decode cX3_reachesTillEnd 0 = .ok (.lconst 0, 1) := by decide +kernel
theorem dX3_reachesTillEnd_1 : decode cX3_reachesTillEnd 1 = .ok (.lstore_n 1, 1) := by decide +kernel
theorem dX3_reachesTillEnd_2 : decode cX3_reachesTillEnd 2 = .ok (.iconst 0, 1) := by decide +kernel
theorem dX3_reachesTillEnd_3 : decode cX3_reachesTillEnd 3 = .ok (.istore_n 3, 1) := by decide +kernel
theorem dX3_reachesTillEnd_4 : decode cX3_reachesTillEnd 4 = .ok (.iload_n 3, 1) := by decide +kernel
theorem dX3_reachesTillEnd_5 : decode cX3_reachesTillEnd 5 = .ok (.bipush 21, 2) := by decide +kernel
theorem dX3_reachesTillEnd_7 : decode cX3_reachesTillEnd 7 = .ok (.if_icmp .ge 29, 3) := by decide +kernel
theorem dX3_reachesTillEnd_10 : decode cX3_reachesTillEnd 10 = .ok (.aload_n 0, 1) := by decide +kernel
theorem dX3_reachesTillEnd_11 : decode cX3_reachesTillEnd 11 = .ok (.getfield 34, 3) := by decide +kernel
theorem dX3_reachesTillEnd_14 : decode cX3_reachesTillEnd 14 = .ok (.lconst 0, 1) := by decide +kernel
theorem dX3_reachesTillEnd_15 : decode cX3_reachesTillEnd 15 = .ok (.lcmp, 1) := by decide +kernel
theorem dX3_reachesTillEnd_16 : decode cX3_reachesTillEnd 16 = .ok (.ifCond .le 20, 3) := by decide +kernel
theorem dX3_reachesTillEnd_19 : decode cX3_reachesTillEnd 19 = .ok (.lload_n 1, 1) := by decide +kernel
theorem dX3_reachesTillEnd_20 : decode cX3_reachesTillEnd 20 = .ok (.aload_n 0, 1) := by decide +kernel
theorem dX3_reachesTillEnd_21 : decode cX3_reachesTillEnd 21 = .ok (.getfield 34, 3) := by decide +kernel
theorem dX3_reachesTillEnd_24 : decode cX3_reachesTillEnd 24 = .ok (.ladd, 1) := by decide +kernel
theorem dX3_reachesTillEnd_25 : decode cX3_reachesTillEnd 25 = .ok (.lstore_n 1, 1) := by decide +kernel
theorem dX3_reachesTillEnd_26 : decode cX3_reachesTillEnd 26 = .ok (.aload_n 0, 1) := by decide +kernel
theorem dX3_reachesTillEnd_27 : decode cX3_reachesTillEnd 27 = .ok (.invokevirtual 71, 3) := by decide +kernel
theorem dX3_reachesTillEnd_30 : decode cX3_reachesTillEnd 30 = .ok (.iinc 3 1, 3) := by decide +kernel
theorem dX3_reachesTillEnd_33 : decode cX3_reachesTillEnd 33 = .ok (.goto (-29), 3) := by decide +kernel
theorem dX3_reachesTillEnd_36 : decode cX3_reachesTillEnd 36 = .ok (.lload_n 1, 1) := by decide +kernel
theorem dX3_reachesTillEnd_37 : decode cX3_reachesTillEnd 37 = .ok (.lreturn, 1) := by decide +kernel
theorem dX3_keepOnly_0 : decode cX3_keepOnly 0 = .ok (.aload_n 0, 1) := by decide +kernel
theorem dX3_keepOnly_1 : decode cX3_keepOnly 1 = .ok (.lconst 0, 1) := by decide +kernel
theorem dX3_keepOnly_2 : decode cX3_keepOnly 2 = .ok (.putfield 34, 3) := by decide +kernel
theorem dX3_keepOnly_5 : decode cX3_keepOnly 5 = .ok (.iconst 0, 1) := by decide +kernel
theorem dX3_keepOnly_6 : decode cX3_keepOnly 6 = .ok (.istore_n 3, 1) := by decide +kernel
theorem dX3_keepOnly_7 : decode cX3_keepOnly 7 = .ok (.iload_n 3, 1) := by decide +kernel
theorem dX3_keepOnly_8 : decode cX3_keepOnly 8 = .ok (.bipush 10, 2) := by decide +kernel
theorem dX3_keepOnly_10 : decode cX3_keepOnly 10 = .ok (.if_icmp .gt 86, 3) := by decide +kernel
theorem dX3_keepOnly_13 : decode cX3_keepOnly 13 = .ok (.iload_n 3, 1) := by decide +kernel
theorem dX3_keepOnly_14 : decode cX3_keepOnly 14 = .ok (.iload_n 1, 1) := by decide +kernel
theorem dX3_keepOnly_15 : decode cX3_keepOnly 15 = .ok (.if_icmp .ne 17, 3) := by decide +kernel
theorem dX3_keepOnly_18 : decode cX3_keepOnly 18 = .ok (.aload_n 0, 1) := by decide +kernel
theorem dX3_keepOnly_19 : decode cX3_keepOnly 19 = .ok (.getfield 31, 3) := by decide +kernel
theorem dX3_keepOnly_22 : decode cX3_keepOnly 22 = .ok (.iload_n 3, 1) := by decide +kernel
theorem dX3_keepOnly_23 : decode cX3_keepOnly 23 = .ok (.isub, 1) := by decide +kernel
theorem dX3_keepOnly_24 : decode cX3_keepOnly 24 = .ok (.iload_n 2, 1) := by decide +kernel
theorem dX3_keepOnly_25 : decode cX3_keepOnly 25 = .ok (.if_icmp .ne 7, 3) := by decide +kernel
theorem dX3_keepOnly_28 : decode cX3_keepOnly 28 = .ok (.iconst 1, 1) := by decide +kernel
theorem dX3_keepOnly_29 : decode cX3_keepOnly 29 = .ok (.goto 4, 3) := by decide +kernel
theorem dX3_keepOnly_32 : decode cX3_keepOnly 32 = .ok (.iconst 0, 1) := by decide +kernel
theorem dX3_keepOnly_33 : decode cX3_keepOnly 33 = .ok (.istore 4, 2) := by decide +kernel
theorem dX3_keepOnly_35 : decode cX3_keepOnly 35 = .ok (.iconst 0, 1) := by decide +kernel
theorem dX3_keepOnly_36 : decode cX3_keepOnly 36 = .ok (.istore 5, 2) := by decide +kernel
theorem dX3_keepOnly_38 : decode cX3_keepOnly 38 = .ok (.iload 5, 2) := by decide +kernel
theorem dX3_keepOnly_40 : decode cX3_keepOnly 40 = .ok (.iconst 3, 1) := by decide +kernel
theorem dX3_keepOnly_41 : decode cX3_keepOnly 41 = .ok (.if_icmp .ge 49, 3) := by decide +kernel
theorem dX3_keepOnly_44 : decode cX3_keepOnly 44 = .ok (.iload_n 3, 1) := by decide +kernel
theorem dX3_keepOnly_45 : decode cX3_keepOnly 45 = .ok (.iconst 3, 1) := by decide +kernel
theorem dX3_keepOnly_46 : decode cX3_keepOnly 46 = .ok (.imul, 1) := by decide +kernel
theorem dX3_keepOnly_47 : decode cX3_keepOnly 47 = .ok (.iload 5, 2) := by decide +kernel
theorem dX3_keepOnly_49 : decode cX3_keepOnly 49 = .ok (.iadd, 1) := by decide +kernel
theorem dX3_keepOnly_50 : decode cX3_keepOnly 50 = .ok (.istore 6, 2) := by decide +kernel
theorem dX3_keepOnly_52 : decode cX3_keepOnly 52 = .ok (.iload 4, 2) := by decide +kernel
theorem dX3_keepOnly_54 : decode cX3_keepOnly 54 = .ok (.ifCond .eq 22, 3) := by decide +kernel
theorem dX3_keepOnly_57 : decode cX3_keepOnly 57 = .ok (.aload_n 0, 1) := by decide +kernel
theorem dX3_keepOnly_58 : decode cX3_keepOnly 58 = .ok (.dup, 1) := by decide +kernel
theorem dX3_keepOnly_59 : decode cX3_keepOnly 59 = .ok (.getfield 34, 3) := by decide +kernel
theorem dX3_keepOnly_62 : decode cX3_keepOnly 62 = .ok (.aload_n 0, 1) := by decide +kernel
theorem dX3_keepOnly_63 : decode cX3_keepOnly 63 = .ok (.getfield 11, 3) := by decide +kernel
theorem dX3_keepOnly_66 : decode cX3_keepOnly 66 = .ok (.iload 6, 2) := by decide +kernel
theorem dX3_keepOnly_68 : decode cX3_keepOnly 68 = .ok (.laload, 1) := by decide +kernel
theorem dX3_keepOnly_69 : decode cX3_keepOnly 69 = .ok (.ladd, 1) := by decide +kernel
theorem dX3_keepOnly_70 : decode cX3_keepOnly 70 = .ok (.putfield 34, 3) := by decide +kernel
theorem dX3_keepOnly_73 : decode cX3_keepOnly 73 = .ok (.goto 11, 3) := by decide +kernel
theorem dX3_keepOnly_76 : decode cX3_keepOnly 76 = .ok (.aload_n 0, 1) := by decide +kernel
theorem dX3_keepOnly_77 : decode cX3_keepOnly 77 = .ok (.getfield 11, 3) := by decide +kernel
theorem dX3_keepOnly_80 : decode cX3_keepOnly 80 = .ok (.iload 6, 2) := by decide +kernel
theorem dX3_keepOnly_82 : decode cX3_keepOnly 82 = .ok (.lconst 0, 1) := by decide +kernel
theorem dX3_keepOnly_83 : decode cX3_keepOnly 83 = .ok (.lastore, 1) := by decide +kernel
theorem dX3_keepOnly_84 : decode cX3_keepOnly 84 = .ok (.iinc 5 1, 3) := by decide +kernel
theorem dX3_keepOnly_87 : decode cX3_keepOnly 87 = .ok (.goto (-49), 3) := by decide +kernel
theorem dX3_keepOnly_90 : decode cX3_keepOnly 90 = .ok (.iinc 3 1, 3) := by decide +kernel
theorem dX3_keepOnly_93 : decode cX3_keepOnly 93 = .ok (.goto (-86), 3) := by decide +kernel
theorem dX3_keepOnly_96 : decode cX3_keepOnly 96 = .ok (.return_, 1) := by decide +kernel
theorem dX3_standing_0 : decode cX3_standing 0 = .ok (.aload_n 0, 1) := by decide +kernel
theorem dX3_standing_1 : decode cX3_standing 1 = .ok (.getfield 34, 3) := by decide +kernel
theorem dX3_standing_4 : decode cX3_standing 4 = .ok (.lreturn, 1) := by decide +kernel
theorem dX3_chanceOfOther_0 : decode cX3_chanceOfOther 0 = .ok (.iload_n 1, 1) := by decide +kernel
theorem dX3_chanceOfOther_1 : decode cX3_chanceOfOther 1 = .ok (.iconst 0, 1) := by decide +kernel
theorem dX3_chanceOfOther_2 : decode cX3_chanceOfOther 2 = .ok (.bipush 10, 2) := by decide +kernel
theorem dX3_chanceOfOther_4 : decode cX3_chanceOfOther 4 = .ok (.invokestatic 74, 3) := by decide +kernel
theorem dX3_chanceOfOther_7 : decode cX3_chanceOfOther 7 = .ok (.ifCond .eq 12, 3) := by decide +kernel
theorem dX3_chanceOfOther_10 : decode cX3_chanceOfOther 10 = .ok (.aload_n 0, 1) := by decide +kernel
theorem dX3_chanceOfOther_11 : decode cX3_chanceOfOther 11 = .ok (.getfield 18, 3) := by decide +kernel
theorem dX3_chanceOfOther_14 : decode cX3_chanceOfOther 14 = .ok (.iload_n 1, 1) := by decide +kernel
theorem dX3_chanceOfOther_15 : decode cX3_chanceOfOther 15 = .ok (.laload, 1) := by decide +kernel
theorem dX3_chanceOfOther_16 : decode cX3_chanceOfOther 16 = .ok (.goto 4, 3) := by decide +kernel
theorem dX3_chanceOfOther_19 : decode cX3_chanceOfOther 19 = .ok (.lconst 0, 1) := by decide +kernel
theorem dX3_chanceOfOther_20 : decode cX3_chanceOfOther 20 = .ok (.lreturn, 1) := by decide +kernel
theorem dX3_chanceOfLeftFirst_0 : decode cX3_chanceOfLeftFirst 0 = .ok (.aload_n 0, 1) := by decide +kernel
theorem dX3_chanceOfLeftFirst_1 : decode cX3_chanceOfLeftFirst 1 = .ok (.getfield 38, 3) := by decide +kernel
theorem dX3_chanceOfLeftFirst_4 : decode cX3_chanceOfLeftFirst 4 = .ok (.lreturn, 1) := by decide +kernel
theorem dX3_chanceOfLevel_0 : decode cX3_chanceOfLevel 0 = .ok (.aload_n 0, 1) := by decide +kernel
theorem dX3_chanceOfLevel_1 : decode cX3_chanceOfLevel 1 = .ok (.getfield 31, 3) := by decide +kernel
theorem dX3_chanceOfLevel_4 : decode cX3_chanceOfLevel 4 = .ok (.iconst 2, 1) := by decide +kernel
theorem dX3_chanceOfLevel_5 : decode cX3_chanceOfLevel 5 = .ok (.idiv, 1) := by decide +kernel
theorem dX3_chanceOfLevel_6 : decode cX3_chanceOfLevel 6 = .ok (.istore_n 1, 1) := by decide +kernel
theorem dX3_chanceOfLevel_7 : decode cX3_chanceOfLevel 7 = .ok (.iload_n 1, 1) := by decide +kernel
theorem dX3_chanceOfLevel_8 : decode cX3_chanceOfLevel 8 = .ok (.iload_n 1, 1) := by decide +kernel
theorem dX3_chanceOfLevel_9 : decode cX3_chanceOfLevel 9 = .ok (.iadd, 1) := by decide +kernel
theorem dX3_chanceOfLevel_10 : decode cX3_chanceOfLevel 10 = .ok (.aload_n 0, 1) := by decide +kernel
theorem dX3_chanceOfLevel_11 : decode cX3_chanceOfLevel 11 = .ok (.getfield 31, 3) := by decide +kernel
theorem dX3_chanceOfLevel_14 : decode cX3_chanceOfLevel 14 = .ok (.if_icmp .ne 13, 3) := by decide +kernel
theorem dX3_chanceOfLevel_17 : decode cX3_chanceOfLevel 17 = .ok (.iload_n 1, 1) := by decide +kernel
theorem dX3_chanceOfLevel_18 : decode cX3_chanceOfLevel 18 = .ok (.iconst 0, 1) := by decide +kernel
theorem dX3_chanceOfLevel_19 : decode cX3_chanceOfLevel 19 = .ok (.bipush 10, 2) := by decide +kernel
theorem dX3_chanceOfLevel_21 : decode cX3_chanceOfLevel 21 = .ok (.invokestatic 74, 3) := by decide +kernel
theorem dX3_chanceOfLevel_24 : decode cX3_chanceOfLevel 24 = .ok (.ifCond .ne 5, 3) := by decide +kernel
theorem dX3_chanceOfLevel_27 : decode cX3_chanceOfLevel 27 = .ok (.lconst 0, 1) := by decide +kernel
theorem dX3_chanceOfLevel_28 : decode cX3_chanceOfLevel 28 = .ok (.lreturn, 1) := by decide +kernel
theorem dX3_chanceOfLevel_29 : decode cX3_chanceOfLevel 29 = .ok (.lconst 0, 1) := by decide +kernel
theorem dX3_chanceOfLevel_30 : decode cX3_chanceOfLevel 30 = .ok (.lstore_n 2, 1) := by decide +kernel
theorem dX3_chanceOfLevel_31 : decode cX3_chanceOfLevel 31 = .ok (.iconst 0, 1) := by decide +kernel
theorem dX3_chanceOfLevel_32 : decode cX3_chanceOfLevel 32 = .ok (.istore 4, 2) := by decide +kernel
theorem dX3_chanceOfLevel_34 : decode cX3_chanceOfLevel 34 = .ok (.iload 4, 2) := by decide +kernel
theorem dX3_chanceOfLevel_36 : decode cX3_chanceOfLevel 36 = .ok (.iconst 3, 1) := by decide +kernel
theorem dX3_chanceOfLevel_37 : decode cX3_chanceOfLevel 37 = .ok (.if_icmp .ge 23, 3) := by decide +kernel
theorem dX3_chanceOfLevel_40 : decode cX3_chanceOfLevel 40 = .ok (.lload_n 2, 1) := by decide +kernel
theorem dX3_chanceOfLevel_41 : decode cX3_chanceOfLevel 41 = .ok (.aload_n 0, 1) := by decide +kernel
theorem dX3_chanceOfLevel_42 : decode cX3_chanceOfLevel 42 = .ok (.getfield 11, 3) := by decide +kernel
theorem dX3_chanceOfLevel_45 : decode cX3_chanceOfLevel 45 = .ok (.iload_n 1, 1) := by decide +kernel
theorem dX3_chanceOfLevel_46 : decode cX3_chanceOfLevel 46 = .ok (.iconst 3, 1) := by decide +kernel
theorem dX3_chanceOfLevel_47 : decode cX3_chanceOfLevel 47 = .ok (.imul, 1) := by decide +kernel
theorem dX3_chanceOfLevel_48 : decode cX3_chanceOfLevel 48 = .ok (.iload 4, 2) := by decide +kernel
theorem dX3_chanceOfLevel_50 : decode cX3_chanceOfLevel 50 = .ok (.iadd, 1) := by decide +kernel
theorem dX3_chanceOfLevel_51 : decode cX3_chanceOfLevel 51 = .ok (.laload, 1) := by decide +kernel
theorem dX3_chanceOfLevel_52 : decode cX3_chanceOfLevel 52 = .ok (.ladd, 1) := by decide +kernel
theorem dX3_chanceOfLevel_53 : decode cX3_chanceOfLevel 53 = .ok (.lstore_n 2, 1) := by decide +kernel
theorem dX3_chanceOfLevel_54 : decode cX3_chanceOfLevel 54 = .ok (.iinc 4 1, 3) := by decide +kernel
theorem dX3_chanceOfLevel_57 : decode cX3_chanceOfLevel 57 = .ok (.goto (-23), 3) := by decide +kernel
theorem dX3_chanceOfLevel_60 : decode cX3_chanceOfLevel 60 = .ok (.lload_n 2, 1) := by decide +kernel
theorem dX3_chanceOfLevel_61 : decode cX3_chanceOfLevel 61 = .ok (.lreturn, 1) := by decide +kernel
theorem dX3_advanceOnce_0 : decode cX3_advanceOnce 0 = .ok (.aload_n 0, 1) := by decide +kernel
theorem dX3_advanceOnce_1 : decode cX3_advanceOnce 1 = .ok (.getfield 15, 3) := by decide +kernel
theorem dX3_advanceOnce_4 : decode cX3_advanceOnce 4 = .ok (.invokestatic 41, 3) := by decide +kernel
theorem dX3_advanceOnce_7 : decode cX3_advanceOnce 7 = .ok (.iconst 0, 1) := by decide +kernel
theorem dX3_advanceOnce_8 : decode cX3_advanceOnce 8 = .ok (.istore_n 1, 1) := by decide +kernel
theorem dX3_advanceOnce_9 : decode cX3_advanceOnce 9 = .ok (.iload_n 1, 1) := by decide +kernel
theorem dX3_advanceOnce_10 : decode cX3_advanceOnce 10 = .ok (.bipush 10, 2) := by decide +kernel
theorem dX3_advanceOnce_12 : decode cX3_advanceOnce 12 = .ok (.if_icmp .gt 101, 3) := by decide +kernel
theorem dX3_advanceOnce_15 : decode cX3_advanceOnce 15 = .ok (.iconst 0, 1) := by decide +kernel
theorem dX3_advanceOnce_16 : decode cX3_advanceOnce 16 = .ok (.istore_n 2, 1) := by decide +kernel
theorem dX3_advanceOnce_17 : decode cX3_advanceOnce 17 = .ok (.iload_n 2, 1) := by decide +kernel
theorem dX3_advanceOnce_18 : decode cX3_advanceOnce 18 = .ok (.iconst 3, 1) := by decide +kernel
theorem dX3_advanceOnce_19 : decode cX3_advanceOnce 19 = .ok (.if_icmp .ge 88, 3) := by decide +kernel
theorem dX3_advanceOnce_22 : decode cX3_advanceOnce 22 = .ok (.aload_n 0, 1) := by decide +kernel
theorem dX3_advanceOnce_23 : decode cX3_advanceOnce 23 = .ok (.getfield 11, 3) := by decide +kernel
theorem dX3_advanceOnce_26 : decode cX3_advanceOnce 26 = .ok (.iload_n 1, 1) := by decide +kernel
theorem dX3_advanceOnce_27 : decode cX3_advanceOnce 27 = .ok (.iconst 3, 1) := by decide +kernel
theorem dX3_advanceOnce_28 : decode cX3_advanceOnce 28 = .ok (.imul, 1) := by decide +kernel
theorem dX3_advanceOnce_29 : decode cX3_advanceOnce 29 = .ok (.iload_n 2, 1) := by decide +kernel
theorem dX3_advanceOnce_30 : decode cX3_advanceOnce 30 = .ok (.iadd, 1) := by decide +kernel
theorem dX3_advanceOnce_31 : decode cX3_advanceOnce 31 = .ok (.laload, 1) := by decide +kernel
theorem dX3_advanceOnce_32 : decode cX3_advanceOnce 32 = .ok (.lstore_n 3, 1) := by decide +kernel
theorem dX3_advanceOnce_33 : decode cX3_advanceOnce 33 = .ok (.lload_n 3, 1) := by decide +kernel
theorem dX3_advanceOnce_34 : decode cX3_advanceOnce 34 = .ok (.lconst 0, 1) := by decide +kernel
theorem dX3_advanceOnce_35 : decode cX3_advanceOnce 35 = .ok (.lcmp, 1) := by decide +kernel
theorem dX3_advanceOnce_36 : decode cX3_advanceOnce 36 = .ok (.ifCond .le 65, 3) := by decide +kernel
theorem dX3_advanceOnce_39 : decode cX3_advanceOnce 39 = .ok (.aload_n 0, 1) := by decide +kernel
theorem dX3_advanceOnce_40 : decode cX3_advanceOnce 40 = .ok (.getfield 31, 3) := by decide +kernel
theorem dX3_advanceOnce_43 : decode cX3_advanceOnce 43 = .ok (.iload_n 1, 1) := by decide +kernel
theorem dX3_advanceOnce_44 : decode cX3_advanceOnce 44 = .ok (.isub, 1) := by decide +kernel
theorem dX3_advanceOnce_45 : decode cX3_advanceOnce 45 = .ok (.istore 5, 2) := by decide +kernel
theorem dX3_advanceOnce_47 : decode cX3_advanceOnce 47 = .ok (.aload_n 0, 1) := by decide +kernel
theorem dX3_advanceOnce_48 : decode cX3_advanceOnce 48 = .ok (.getfield 25, 3) := by decide +kernel
theorem dX3_advanceOnce_51 : decode cX3_advanceOnce 51 = .ok (.aload_n 0, 1) := by decide +kernel
theorem dX3_advanceOnce_52 : decode cX3_advanceOnce 52 = .ok (.getfield 28, 3) := by decide +kernel
theorem dX3_advanceOnce_55 : decode cX3_advanceOnce 55 = .ok (.iload_n 1, 1) := by decide +kernel
theorem dX3_advanceOnce_56 : decode cX3_advanceOnce 56 = .ok (.iload 5, 2) := by decide +kernel
theorem dX3_advanceOnce_58 : decode cX3_advanceOnce 58 = .ok (.iload_n 2, 1) := by decide +kernel
theorem dX3_advanceOnce_59 : decode cX3_advanceOnce 59 = .ok (.invokestatic 78, 3) := by decide +kernel
theorem dX3_advanceOnce_62 : decode cX3_advanceOnce 62 = .ok (.istore 6, 2) := by decide +kernel
theorem dX3_advanceOnce_64 : decode cX3_advanceOnce 64 = .ok (.lload_n 3, 1) := by decide +kernel
theorem dX3_advanceOnce_65 : decode cX3_advanceOnce 65 = .ok (.ldc2_w 82, 3) := by decide +kernel
theorem dX3_advanceOnce_68 : decode cX3_advanceOnce 68 = .ok (.ldiv, 1) := by decide +kernel
theorem dX3_advanceOnce_69 : decode cX3_advanceOnce 69 = .ok (.lstore 7, 2) := by decide +kernel
theorem dX3_advanceOnce_71 : decode cX3_advanceOnce 71 = .ok (.aload_n 0, 1) := by decide +kernel
theorem dX3_advanceOnce_72 : decode cX3_advanceOnce 72 = .ok (.iconst 0, 1) := by decide +kernel
theorem dX3_advanceOnce_73 : decode cX3_advanceOnce 73 = .ok (.iload_n 1, 1) := by decide +kernel
theorem dX3_advanceOnce_74 : decode cX3_advanceOnce 74 = .ok (.iload 5, 2) := by decide +kernel
theorem dX3_advanceOnce_76 : decode cX3_advanceOnce 76 = .ok (.lload 7, 2) := by decide +kernel
theorem dX3_advanceOnce_78 : decode cX3_advanceOnce 78 = .ok (.iload 6, 2) := by decide +kernel
theorem dX3_advanceOnce_80 : decode cX3_advanceOnce 80 = .ok (.i2l, 1) := by decide +kernel
theorem dX3_advanceOnce_81 : decode cX3_advanceOnce 81 = .ok (.lmul, 1) := by decide +kernel
theorem dX3_advanceOnce_82 : decode cX3_advanceOnce 82 = .ok (.invokevirtual 84, 3) := by decide +kernel
theorem dX3_advanceOnce_85 : decode cX3_advanceOnce 85 = .ok (.aload_n 0, 1) := by decide +kernel
theorem dX3_advanceOnce_86 : decode cX3_advanceOnce 86 = .ok (.iconst 1, 1) := by decide +kernel
theorem dX3_advanceOnce_87 : decode cX3_advanceOnce 87 = .ok (.iload 5, 2) := by decide +kernel
theorem dX3_advanceOnce_89 : decode cX3_advanceOnce 89 = .ok (.iload_n 1, 1) := by decide +kernel
theorem dX3_advanceOnce_90 : decode cX3_advanceOnce 90 = .ok (.lload 7, 2) := by decide +kernel
theorem dX3_advanceOnce_92 : decode cX3_advanceOnce 92 = .ok (.iconst 4, 1) := by decide +kernel
theorem dX3_advanceOnce_93 : decode cX3_advanceOnce 93 = .ok (.iload 6, 2) := by decide +kernel
theorem dX3_advanceOnce_95 : decode cX3_advanceOnce 95 = .ok (.isub, 1) := by decide +kernel
theorem dX3_advanceOnce_96 : decode cX3_advanceOnce 96 = .ok (.i2l, 1) := by decide +kernel
theorem dX3_advanceOnce_97 : decode cX3_advanceOnce 97 = .ok (.lmul, 1) := by decide +kernel
theorem dX3_advanceOnce_98 : decode cX3_advanceOnce 98 = .ok (.invokevirtual 84, 3) := by decide +kernel
theorem dX3_advanceOnce_101 : decode cX3_advanceOnce 101 = .ok (.iinc 2 1, 3) := by decide +kernel
theorem dX3_advanceOnce_104 : decode cX3_advanceOnce 104 = .ok (.goto (-87), 3) := by decide +kernel
theorem dX3_advanceOnce_107 : decode cX3_advanceOnce 107 = .ok (.iinc 1 1, 3) := by decide +kernel
theorem dX3_advanceOnce_110 : decode cX3_advanceOnce 110 = .ok (.goto (-101), 3) := by decide +kernel
theorem dX3_advanceOnce_113 : decode cX3_advanceOnce 113 = .ok (.aload_n 0, 1) := by decide +kernel
theorem dX3_advanceOnce_114 : decode cX3_advanceOnce 114 = .ok (.dup, 1) := by decide +kernel
theorem dX3_advanceOnce_115 : decode cX3_advanceOnce 115 = .ok (.getfield 31, 3) := by decide +kernel
theorem dX3_advanceOnce_118 : decode cX3_advanceOnce 118 = .ok (.iconst 1, 1) := by decide +kernel
theorem dX3_advanceOnce_119 : decode cX3_advanceOnce 119 = .ok (.isub, 1) := by decide +kernel
theorem dX3_advanceOnce_120 : decode cX3_advanceOnce 120 = .ok (.putfield 31, 3) := by decide +kernel
theorem dX3_advanceOnce_123 : decode cX3_advanceOnce 123 = .ok (.aload_n 0, 1) := by decide +kernel
theorem dX3_advanceOnce_124 : decode cX3_advanceOnce 124 = .ok (.getfield 11, 3) := by decide +kernel
theorem dX3_advanceOnce_127 : decode cX3_advanceOnce 127 = .ok (.astore_n 1, 1) := by decide +kernel
theorem dX3_advanceOnce_128 : decode cX3_advanceOnce 128 = .ok (.aload_n 0, 1) := by decide +kernel
theorem dX3_advanceOnce_129 : decode cX3_advanceOnce 129 = .ok (.aload_n 0, 1) := by decide +kernel
theorem dX3_advanceOnce_130 : decode cX3_advanceOnce 130 = .ok (.getfield 15, 3) := by decide +kernel
theorem dX3_advanceOnce_133 : decode cX3_advanceOnce 133 = .ok (.putfield 11, 3) := by decide +kernel
theorem dX3_advanceOnce_136 : decode cX3_advanceOnce 136 = .ok (.aload_n 0, 1) := by decide +kernel
theorem dX3_advanceOnce_137 : decode cX3_advanceOnce 137 = .ok (.aload_n 1, 1) := by decide +kernel
theorem dX3_advanceOnce_138 : decode cX3_advanceOnce 138 = .ok (.putfield 15, 3) := by decide +kernel
theorem dX3_advanceOnce_141 : decode cX3_advanceOnce 141 = .ok (.return_, 1) := by decide +kernel
theorem dX3_follow_0 : decode cX3_follow 0 = .ok (.aload_n 0, 1) := by decide +kernel
theorem dX3_follow_1 : decode cX3_follow 1 = .ok (.getfield 21, 3) := by decide +kernel
theorem dX3_follow_4 : decode cX3_follow 4 = .ok (.iconst 1, 1) := by decide +kernel
theorem dX3_follow_5 : decode cX3_follow 5 = .ok (.if_icmp .ne 7, 3) := by decide +kernel
theorem dX3_follow_8 : decode cX3_follow 8 = .ok (.iconst 1, 1) := by decide +kernel
theorem dX3_follow_9 : decode cX3_follow 9 = .ok (.goto 4, 3) := by decide +kernel
theorem dX3_follow_12 : decode cX3_follow 12 = .ok (.iconst 0, 1) := by decide +kernel
theorem dX3_follow_13 : decode cX3_follow 13 = .ok (.istore 6, 2) := by decide +kernel
theorem dX3_follow_15 : decode cX3_follow 15 = .ok (.iload_n 2, 1) := by decide +kernel
theorem dX3_follow_16 : decode cX3_follow 16 = .ok (.iload 6, 2) := by decide +kernel
theorem dX3_follow_18 : decode cX3_follow 18 = .ok (.if_icmp .gt 14, 3) := by decide +kernel
theorem dX3_follow_21 : decode cX3_follow 21 = .ok (.aload_n 0, 1) := by decide +kernel
theorem dX3_follow_22 : decode cX3_follow 22 = .ok (.iload_n 1, 1) := by decide +kernel
theorem dX3_follow_23 : decode cX3_follow 23 = .ok (.iload_n 3, 1) := by decide +kernel
theorem dX3_follow_24 : decode cX3_follow 24 = .ok (.lload 4, 2) := by decide +kernel
theorem dX3_follow_26 : decode cX3_follow 26 = .ok (.invokevirtual 60, 3) := by decide +kernel
theorem dX3_follow_29 : decode cX3_follow 29 = .ok (.goto 24, 3) := by decide +kernel
theorem dX3_follow_32 : decode cX3_follow 32 = .ok (.aload_n 0, 1) := by decide +kernel
theorem dX3_follow_33 : decode cX3_follow 33 = .ok (.getfield 15, 3) := by decide +kernel
theorem dX3_follow_36 : decode cX3_follow 36 = .ok (.iload_n 1, 1) := by decide +kernel
theorem dX3_follow_37 : decode cX3_follow 37 = .ok (.ifCond .ne 9, 3) := by decide +kernel
theorem dX3_follow_40 : decode cX3_follow 40 = .ok (.iload_n 2, 1) := by decide +kernel
theorem dX3_follow_41 : decode cX3_follow 41 = .ok (.iconst 1, 1) := by decide +kernel
theorem dX3_follow_42 : decode cX3_follow 42 = .ok (.isub, 1) := by decide +kernel
theorem dX3_follow_43 : decode cX3_follow 43 = .ok (.goto 4, 3) := by decide +kernel
theorem dX3_follow_46 : decode cX3_follow 46 = .ok (.iload_n 3, 1) := by decide +kernel
theorem dX3_follow_47 : decode cX3_follow 47 = .ok (.iload_n 1, 1) := by decide +kernel
theorem dX3_follow_48 : decode cX3_follow 48 = .ok (.lload 4, 2) := by decide +kernel
theorem dX3_follow_50 : decode cX3_follow 50 = .ok (.invokestatic 67, 3) := by decide +kernel
theorem dX3_follow_53 : decode cX3_follow 53 = .ok (.return_, 1) := by decide +kernel
theorem dX3_endBy_0 : decode cX3_endBy 0 = .ok (.aload_n 0, 1) := by decide +kernel
theorem dX3_endBy_1 : decode cX3_endBy 1 = .ok (.dup, 1) := by decide +kernel
theorem dX3_endBy_2 : decode cX3_endBy 2 = .ok (.getfield 34, 3) := by decide +kernel
theorem dX3_endBy_5 : decode cX3_endBy 5 = .ok (.lload_n 3, 1) := by decide +kernel
theorem dX3_endBy_6 : decode cX3_endBy 6 = .ok (.lsub, 1) := by decide +kernel
theorem dX3_endBy_7 : decode cX3_endBy 7 = .ok (.putfield 34, 3) := by decide +kernel
theorem dX3_endBy_10 : decode cX3_endBy 10 = .ok (.iload_n 1, 1) := by decide +kernel
theorem dX3_endBy_11 : decode cX3_endBy 11 = .ok (.ifCond .ne 13, 3) := by decide +kernel
theorem dX3_endBy_14 : decode cX3_endBy 14 = .ok (.aload_n 0, 1) := by decide +kernel
theorem dX3_endBy_15 : decode cX3_endBy 15 = .ok (.dup, 1) := by decide +kernel
theorem dX3_endBy_16 : decode cX3_endBy 16 = .ok (.getfield 38, 3) := by decide +kernel
theorem dX3_endBy_19 : decode cX3_endBy 19 = .ok (.lload_n 3, 1) := by decide +kernel
theorem dX3_endBy_20 : decode cX3_endBy 20 = .ok (.ladd, 1) := by decide +kernel
theorem dX3_endBy_21 : decode cX3_endBy 21 = .ok (.putfield 38, 3) := by decide +kernel
theorem dX3_endBy_24 : decode cX3_endBy 24 = .ok (.iload_n 2, 1) := by decide +kernel
theorem dX3_endBy_25 : decode cX3_endBy 25 = .ok (.ifCond .lt 22, 3) := by decide +kernel
theorem dX3_endBy_28 : decode cX3_endBy 28 = .ok (.iload_n 2, 1) := by decide +kernel
theorem dX3_endBy_29 : decode cX3_endBy 29 = .ok (.aload_n 0, 1) := by decide +kernel
theorem dX3_endBy_30 : decode cX3_endBy 30 = .ok (.getfield 18, 3) := by decide +kernel
theorem dX3_endBy_33 : decode cX3_endBy 33 = .ok (.arraylength, 1) := by decide +kernel
theorem dX3_endBy_34 : decode cX3_endBy 34 = .ok (.if_icmp .ge 13, 3) := by decide +kernel
theorem dX3_endBy_37 : decode cX3_endBy 37 = .ok (.aload_n 0, 1) := by decide +kernel
theorem dX3_endBy_38 : decode cX3_endBy 38 = .ok (.getfield 18, 3) := by decide +kernel
theorem dX3_endBy_41 : decode cX3_endBy 41 = .ok (.iload_n 2, 1) := by decide +kernel
theorem dX3_endBy_42 : decode cX3_endBy 42 = .ok (.dup2, 1) := by decide +kernel
theorem dX3_endBy_43 : decode cX3_endBy 43 = .ok (.laload, 1) := by decide +kernel
theorem dX3_endBy_44 : decode cX3_endBy 44 = .ok (.lload_n 3, 1) := by decide +kernel
theorem dX3_endBy_45 : decode cX3_endBy 45 = .ok (.ladd, 1) := by decide +kernel
theorem dX3_endBy_46 : decode cX3_endBy 46 = .ok (.lastore, 1) := by decide +kernel
theorem dX3_endBy_47 : decode cX3_endBy 47 = .ok (.return_, 1) := by decide +kernel
theorem dX3_addTo_0 : decode cX3_addTo 0 = .ok (.iload_n 1, 1) := by decide +kernel
theorem dX3_addTo_1 : decode cX3_addTo 1 = .ok (.iconst 3, 1) := by decide +kernel
theorem dX3_addTo_2 : decode cX3_addTo 2 = .ok (.imul, 1) := by decide +kernel
theorem dX3_addTo_3 : decode cX3_addTo 3 = .ok (.iload_n 2, 1) := by decide +kernel
theorem dX3_addTo_4 : decode cX3_addTo 4 = .ok (.iadd, 1) := by decide +kernel
theorem dX3_addTo_5 : decode cX3_addTo 5 = .ok (.istore 5, 2) := by decide +kernel
theorem dX3_addTo_7 : decode cX3_addTo 7 = .ok (.iload 5, 2) := by decide +kernel
theorem dX3_addTo_9 : decode cX3_addTo 9 = .ok (.ifCond .lt 18, 3) := by decide +kernel
theorem dX3_addTo_12 : decode cX3_addTo 12 = .ok (.iload 5, 2) := by decide +kernel
theorem dX3_addTo_14 : decode cX3_addTo 14 = .ok (.aload_n 0, 1) := by decide +kernel
theorem dX3_addTo_15 : decode cX3_addTo 15 = .ok (.arraylength, 1) := by decide +kernel
theorem dX3_addTo_16 : decode cX3_addTo 16 = .ok (.if_icmp .ge 11, 3) := by decide +kernel
theorem dX3_addTo_19 : decode cX3_addTo 19 = .ok (.aload_n 0, 1) := by decide +kernel
theorem dX3_addTo_20 : decode cX3_addTo 20 = .ok (.iload 5, 2) := by decide +kernel
theorem dX3_addTo_22 : decode cX3_addTo 22 = .ok (.dup2, 1) := by decide +kernel
theorem dX3_addTo_23 : decode cX3_addTo 23 = .ok (.laload, 1) := by decide +kernel
theorem dX3_addTo_24 : decode cX3_addTo 24 = .ok (.lload_n 3, 1) := by decide +kernel
theorem dX3_addTo_25 : decode cX3_addTo 25 = .ok (.ladd, 1) := by decide +kernel
theorem dX3_addTo_26 : decode cX3_addTo 26 = .ok (.lastore, 1) := by decide +kernel
theorem dX3_addTo_27 : decode cX3_addTo 27 = .ok (.return_, 1) := by decide +kernel
theorem dX3_wipeRow_0 : decode cX3_wipeRow 0 = .ok (.iconst 0, 1) := by decide +kernel
theorem dX3_wipeRow_1 : decode cX3_wipeRow 1 = .ok (.istore_n 1, 1) := by decide +kernel
theorem dX3_wipeRow_2 : decode cX3_wipeRow 2 = .ok (.iload_n 1, 1) := by decide +kernel
theorem dX3_wipeRow_3 : decode cX3_wipeRow 3 = .ok (.aload_n 0, 1) := by decide +kernel
theorem dX3_wipeRow_4 : decode cX3_wipeRow 4 = .ok (.arraylength, 1) := by decide +kernel
theorem dX3_wipeRow_5 : decode cX3_wipeRow 5 = .ok (.if_icmp .ge 13, 3) := by decide +kernel
theorem dX3_wipeRow_8 : decode cX3_wipeRow 8 = .ok (.aload_n 0, 1) := by decide +kernel
theorem dX3_wipeRow_9 : decode cX3_wipeRow 9 = .ok (.iload_n 1, 1) := by decide +kernel
theorem dX3_wipeRow_10 : decode cX3_wipeRow 10 = .ok (.lconst 0, 1) := by decide +kernel
theorem dX3_wipeRow_11 : decode cX3_wipeRow 11 = .ok (.lastore, 1) := by decide +kernel
theorem dX3_wipeRow_12 : decode cX3_wipeRow 12 = .ok (.iinc 1 1, 3) := by decide +kernel
theorem dX3_wipeRow_15 : decode cX3_wipeRow 15 = .ok (.goto (-13), 3) := by decide +kernel
theorem dX3_wipeRow_18 : decode cX3_wipeRow 18 = .ok (.return_, 1) := by decide +kernel
theorem dX4_init_0 : decode cX4_init 0 = .ok (.aload_n 0, 1) := by decide +kernel
theorem dX4_init_1 : decode cX4_init 1 = .ok (.invokespecial 1, 3) := by decide +kernel
theorem dX4_init_4 : decode cX4_init 4 = .ok (.aload_n 0, 1) := by decide +kernel
theorem dX4_init_5 : decode cX4_init 5 = .ok (.new 7, 3) := by decide +kernel
theorem dX4_init_8 : decode cX4_init 8 = .ok (.dup, 1) := by decide +kernel
theorem dX4_init_9 : decode cX4_init 9 = .ok (.invokespecial 9, 3) := by decide +kernel
theorem dX4_init_12 : decode cX4_init 12 = .ok (.putfield 10, 3) := by decide +kernel
theorem dX4_init_15 : decode cX4_init 15 = .ok (.aload_n 0, 1) := by decide +kernel
theorem dX4_init_16 : decode cX4_init 16 = .ok (.new 16, 3) := by decide +kernel
theorem dX4_init_19 : decode cX4_init 19 = .ok (.dup, 1) := by decide +kernel
theorem dX4_init_20 : decode cX4_init 20 = .ok (.invokespecial 18, 3) := by decide +kernel
theorem dX4_init_23 : decode cX4_init 23 = .ok (.putfield 19, 3) := by decide +kernel
theorem dX4_init_26 : decode cX4_init 26 = .ok (.aload_n 0, 1) := by decide +kernel
theorem dX4_init_27 : decode cX4_init 27 = .ok (.new 16, 3) := by decide +kernel
theorem dX4_init_30 : decode cX4_init 30 = .ok (.dup, 1) := by decide +kernel
theorem dX4_init_31 : decode cX4_init 31 = .ok (.invokespecial 18, 3) := by decide +kernel
theorem dX4_init_34 : decode cX4_init 34 = .ok (.putfield 23, 3) := by decide +kernel
theorem dX4_init_37 : decode cX4_init 37 = .ok (.aload_n 0, 1) := by decide +kernel
theorem dX4_init_38 : decode cX4_init 38 = .ok (.new 26, 3) := by decide +kernel
theorem dX4_init_41 : decode cX4_init 41 = .ok (.dup, 1) := by decide +kernel
theorem dX4_init_42 : decode cX4_init 42 = .ok (.bipush 8, 2) := by decide +kernel
theorem dX4_init_44 : decode cX4_init 44 = .ok (.invokespecial 28, 3) := by decide +kernel
theorem dX4_init_47 : decode cX4_init 47 = .ok (.putfield 31, 3) := by decide +kernel
theorem dX4_init_50 : decode cX4_init 50 = .ok (.aload_n 0, 1) := by decide +kernel
theorem dX4_init_51 : decode cX4_init 51 = .ok (.new 26, 3) := by decide +kernel
theorem dX4_init_54 : decode cX4_init 54 = .ok (.dup, 1) := by decide +kernel
theorem dX4_init_55 : decode cX4_init 55 = .ok (.iconst 2, 1) := by decide +kernel
theorem dX4_init_56 : decode cX4_init 56 = .ok (.invokespecial 28, 3) := by decide +kernel
theorem dX4_init_59 : decode cX4_init 59 = .ok (.putfield 35, 3) := by decide +kernel
theorem dX4_init_62 : decode cX4_init 62 = .ok (.aload_n 0, 1) := by decide +kernel
theorem dX4_init_63 : decode cX4_init 63 = .ok (.new 38, 3) := by decide +kernel
theorem dX4_init_66 : decode cX4_init 66 = .ok (.dup, 1) := by decide +kernel
theorem dX4_init_67 : decode cX4_init 67 = .ok (.invokespecial 40, 3) := by decide +kernel
theorem dX4_init_70 : decode cX4_init 70 = .ok (.putfield 41, 3) := by decide +kernel
theorem dX4_init_73 : decode cX4_init 73 = .ok (.aload_n 0, 1) := by decide +kernel
theorem dX4_init_74 : decode cX4_init 74 = .ok (.bipush 6, 2) := by decide +kernel
theorem dX4_init_76 : decode cX4_init 76 = .ok (.newarray .int, 2) := by decide +kernel
theorem dX4_init_78 : decode cX4_init 78 = .ok (.putfield 45, 3) := by decide +kernel
theorem dX4_init_81 : decode cX4_init 81 = .ok (.aload_n 0, 1) := by decide +kernel
theorem dX4_init_82 : decode cX4_init 82 = .ok (.bipush 6, 2) := by decide +kernel
theorem dX4_init_84 : decode cX4_init 84 = .ok (.newarray .int, 2) := by decide +kernel
theorem dX4_init_86 : decode cX4_init 86 = .ok (.putfield 49, 3) := by decide +kernel
theorem dX4_init_89 : decode cX4_init 89 = .ok (.aload_n 0, 1) := by decide +kernel
theorem dX4_init_90 : decode cX4_init 90 = .ok (.iconst 0, 1) := by decide +kernel
theorem dX4_init_91 : decode cX4_init 91 = .ok (.putfield 52, 3) := by decide +kernel
theorem dX4_init_94 : decode cX4_init 94 = .ok (.aload_n 0, 1) := by decide +kernel
theorem dX4_init_95 : decode cX4_init 95 = .ok (.iconst 2, 1) := by decide +kernel
theorem dX4_init_96 : decode cX4_init 96 = .ok (.putfield 56, 3) := by decide +kernel
theorem dX4_init_99 : decode cX4_init 99 = .ok (.aload_n 0, 1) := by decide +kernel
theorem dX4_init_100 : decode cX4_init 100 = .ok (.getfield 19, 3) := by decide +kernel
theorem dX4_init_103 : decode cX4_init 103 = .ok (.bipush 6, 2) := by decide +kernel
theorem dX4_init_105 : decode cX4_init 105 = .ok (.iconst 4, 1) := by decide +kernel
theorem dX4_init_106 : decode cX4_init 106 = .ok (.invokevirtual 59, 3) := by decide +kernel
theorem dX4_init_109 : decode cX4_init 109 = .ok (.aload_n 0, 1) := by decide +kernel
theorem dX4_init_110 : decode cX4_init 110 = .ok (.getfield 19, 3) := by decide +kernel
theorem dX4_init_113 : decode cX4_init 113 = .ok (.iconst 2, 1) := by decide +kernel
theorem dX4_init_114 : decode cX4_init 114 = .ok (.iconst 3, 1) := by decide +kernel
theorem dX4_init_115 : decode cX4_init 115 = .ok (.invokevirtual 63, 3) := by decide +kernel
theorem dX4_init_118 : decode cX4_init 118 = .ok (.aload_n 0, 1) := by decide +kernel
theorem dX4_init_119 : decode cX4_init 119 = .ok (.getfield 19, 3) := by decide +kernel
theorem dX4_init_122 : decode cX4_init 122 = .ok (.iconst 2, 1) := by decide +kernel
theorem dX4_init_123 : decode cX4_init 123 = .ok (.putfield 66, 3) := by decide +kernel
theorem dX4_init_126 : decode cX4_init 126 = .ok (.return_, 1) := by decide +kernel
theorem dX4_write_0 : decode cX4_write 0 = .ok (.iload_n 1, 1) := by decide +kernel
theorem dX4_write_1 : decode cX4_write 1 = .ok (.bipush 32, 2) := by decide +kernel
theorem dX4_write_3 : decode cX4_write 3 = .ok (.bipush 126, 2) := by decide +kernel
theorem dX4_write_5 : decode cX4_write 5 = .ok (.invokestatic 69, 3) := by decide +kernel
theorem dX4_write_8 : decode cX4_write 8 = .ok (.ifCond .ne 5, 3) := by decide +kernel
theorem dX4_write_11 : decode cX4_write 11 = .ok (.iconst (-1), 1) := by decide +kernel
theorem dX4_write_12 : decode cX4_write 12 = .ok (.ireturn, 1) := by decide +kernel
theorem dX4_write_13 : decode cX4_write 13 = .ok (.aload_n 0, 1) := by decide +kernel
theorem dX4_write_14 : decode cX4_write 14 = .ok (.getfield 10, 3) := by decide +kernel
theorem dX4_write_17 : decode cX4_write 17 = .ok (.iload_n 1, 1) := by decide +kernel
theorem dX4_write_18 : decode cX4_write 18 = .ok (.i2c, 1) := by decide +kernel
theorem dX4_write_19 : decode cX4_write 19 = .ok (.invokevirtual 73, 3) := by decide +kernel
theorem dX4_write_22 : decode cX4_write 22 = .ok (.ifCond .eq 13, 3) := by decide +kernel
theorem dX4_write_25 : decode cX4_write 25 = .ok (.aload_n 0, 1) := by decide +kernel
theorem dX4_write_26 : decode cX4_write 26 = .ok (.getfield 10, 3) := by decide +kernel
theorem dX4_write_29 : decode cX4_write 29 = .ok (.invokevirtual 77, 3) := by decide +kernel
theorem dX4_write_32 : decode cX4_write 32 = .ok (.goto 5, 3) := by decide +kernel
theorem dX4_write_35 : decode cX4_write 35 = .ok (.bipush (-3), 2) := by decide +kernel
theorem dX4_write_37 : decode cX4_write 37 = .ok (.ireturn, 1) := by decide +kernel
theorem dX4_wipe_0 : decode cX4_wipe 0 = .ok (.aload_n 0, 1) := by decide +kernel
theorem dX4_wipe_1 : decode cX4_wipe 1 = .ok (.getfield 10, 3) := by decide +kernel
theorem dX4_wipe_4 : decode cX4_wipe 4 = .ok (.invokevirtual 77, 3) := by decide +kernel
theorem dX4_wipe_7 : decode cX4_wipe 7 = .ok (.istore_n 1, 1) := by decide +kernel
theorem dX4_wipe_8 : decode cX4_wipe 8 = .ok (.aload_n 0, 1) := by decide +kernel
theorem dX4_wipe_9 : decode cX4_wipe 9 = .ok (.getfield 10, 3) := by decide +kernel
theorem dX4_wipe_12 : decode cX4_wipe 12 = .ok (.invokevirtual 81, 3) := by decide +kernel
theorem dX4_wipe_15 : decode cX4_wipe 15 = .ok (.iload_n 1, 1) := by decide +kernel
theorem dX4_wipe_16 : decode cX4_wipe 16 = .ok (.ireturn, 1) := by decide +kernel
theorem dX4_fault_0 : decode cX4_fault 0 = .ok (.aload_n 0, 1) := by decide +kernel
theorem dX4_fault_1 : decode cX4_fault 1 = .ok (.getfield 10, 3) := by decide +kernel
theorem dX4_fault_4 : decode cX4_fault 4 = .ok (.invokevirtual 84, 3) := by decide +kernel
theorem dX4_fault_7 : decode cX4_fault 7 = .ok (.ireturn, 1) := by decide +kernel
theorem dX4_lay_0 : decode cX4_lay 0 = .ok (.aload_n 0, 1) := by decide +kernel
theorem dX4_lay_1 : decode cX4_lay 1 = .ok (.getfield 10, 3) := by decide +kernel
theorem dX4_lay_4 : decode cX4_lay 4 = .ok (.invokevirtual 84, 3) := by decide +kernel
theorem dX4_lay_7 : decode cX4_lay 7 = .ok (.bipush (-4), 2) := by decide +kernel
theorem dX4_lay_9 : decode cX4_lay 9 = .ok (.if_icmp .eq 6, 3) := by decide +kernel
theorem dX4_lay_12 : decode cX4_lay 12 = .ok (.bipush (-2), 2) := by decide +kernel
theorem dX4_lay_14 : decode cX4_lay 14 = .ok (.ireturn, 1) := by decide +kernel
theorem dX4_lay_15 : decode cX4_lay 15 = .ok (.aload_n 0, 1) := by decide +kernel
theorem dX4_lay_16 : decode cX4_lay 16 = .ok (.getfield 19, 3) := by decide +kernel
theorem dX4_lay_19 : decode cX4_lay 19 = .ok (.aload_n 0, 1) := by decide +kernel
theorem dX4_lay_20 : decode cX4_lay 20 = .ok (.getfield 10, 3) := by decide +kernel
theorem dX4_lay_23 : decode cX4_lay 23 = .ok (.getfield 87, 3) := by decide +kernel
theorem dX4_lay_26 : decode cX4_lay 26 = .ok (.invokevirtual 90, 3) := by decide +kernel
theorem dX4_lay_29 : decode cX4_lay 29 = .ok (.aload_n 0, 1) := by decide +kernel
theorem dX4_lay_30 : decode cX4_lay 30 = .ok (.aload_n 0, 1) := by decide +kernel
theorem dX4_lay_31 : decode cX4_lay 31 = .ok (.getfield 10, 3) := by decide +kernel
theorem dX4_lay_34 : decode cX4_lay 34 = .ok (.getfield 94, 3) := by decide +kernel
theorem dX4_lay_37 : decode cX4_lay 37 = .ok (.putfield 56, 3) := by decide +kernel
theorem dX4_lay_40 : decode cX4_lay 40 = .ok (.aload_n 0, 1) := by decide +kernel
theorem dX4_lay_41 : decode cX4_lay 41 = .ok (.iconst 0, 1) := by decide +kernel
theorem dX4_lay_42 : decode cX4_lay 42 = .ok (.putfield 52, 3) := by decide +kernel
theorem dX4_lay_45 : decode cX4_lay 45 = .ok (.aload_n 0, 1) := by decide +kernel
theorem dX4_lay_46 : decode cX4_lay 46 = .ok (.getfield 31, 3) := by decide +kernel
theorem dX4_lay_49 : decode cX4_lay 49 = .ok (.invokevirtual 97, 3) := by decide +kernel
theorem dX4_lay_52 : decode cX4_lay 52 = .ok (.aload_n 0, 1) := by decide +kernel
theorem dX4_lay_53 : decode cX4_lay 53 = .ok (.getfield 35, 3) := by decide +kernel
theorem dX4_lay_56 : decode cX4_lay 56 = .ok (.invokevirtual 97, 3) := by decide +kernel
theorem dX4_lay_59 : decode cX4_lay 59 = .ok (.aload_n 0, 1) := by decide +kernel
theorem dX4_lay_60 : decode cX4_lay 60 = .ok (.getfield 19, 3) := by decide +kernel
theorem dX4_lay_63 : decode cX4_lay 63 = .ok (.invokevirtual 98, 3) := by decide +kernel
theorem dX4_lay_66 : decode cX4_lay 66 = .ok (.ireturn, 1) := by decide +kernel
theorem dX4_box_0 : decode cX4_box 0 = .ok (.iload_n 1, 1) := by decide +kernel
theorem dX4_box_1 : decode cX4_box 1 = .ok (.invokestatic 101, 3) := by decide +kernel
theorem dX4_box_4 : decode cX4_box 4 = .ok (.ifCond .eq 14, 3) := by decide +kernel
theorem dX4_box_7 : decode cX4_box 7 = .ok (.aload_n 0, 1) := by decide +kernel
theorem dX4_box_8 : decode cX4_box 8 = .ok (.getfield 19, 3) := by decide +kernel
theorem dX4_box_11 : decode cX4_box 11 = .ok (.iload_n 1, 1) := by decide +kernel
theorem dX4_box_12 : decode cX4_box 12 = .ok (.invokevirtual 105, 3) := by decide +kernel
theorem dX4_box_15 : decode cX4_box 15 = .ok (.goto 4, 3) := by decide +kernel
theorem dX4_box_18 : decode cX4_box 18 = .ok (.iconst (-1), 1) := by decide +kernel
theorem dX4_box_19 : decode cX4_box 19 = .ok (.ireturn, 1) := by decide +kernel
theorem dX4_quarters_0 : decode cX4_quarters 0 = .ok (.iload_n 1, 1) := by decide +kernel
theorem dX4_quarters_1 : decode cX4_quarters 1 = .ok (.invokestatic 101, 3) := by decide +kernel
theorem dX4_quarters_4 : decode cX4_quarters 4 = .ok (.ifCond .ne 5, 3) := by decide +kernel
theorem dX4_quarters_7 : decode cX4_quarters 7 = .ok (.iconst (-1), 1) := by decide +kernel
theorem dX4_quarters_8 : decode cX4_quarters 8 = .ok (.ireturn, 1) := by decide +kernel
theorem dX4_quarters_9 : decode cX4_quarters 9 = .ok (.aload_n 0, 1) := by decide +kernel
theorem dX4_quarters_10 : decode cX4_quarters 10 = .ok (.getfield 19, 3) := by decide +kernel
theorem dX4_quarters_13 : decode cX4_quarters 13 = .ok (.invokevirtual 109, 3) := by decide +kernel
theorem dX4_quarters_16 : decode cX4_quarters 16 = .ok (.istore_n 2, 1) := by decide +kernel
theorem dX4_quarters_17 : decode cX4_quarters 17 = .ok (.iload_n 1, 1) := by decide +kernel
theorem dX4_quarters_18 : decode cX4_quarters 18 = .ok (.ifCond .ne 7, 3) := by decide +kernel
theorem dX4_quarters_21 : decode cX4_quarters 21 = .ok (.iload_n 2, 1) := by decide +kernel
theorem dX4_quarters_22 : decode cX4_quarters 22 = .ok (.goto 6, 3) := by decide +kernel
theorem dX4_quarters_25 : decode cX4_quarters 25 = .ok (.iconst 4, 1) := by decide +kernel
theorem dX4_quarters_26 : decode cX4_quarters 26 = .ok (.iload_n 2, 1) := by decide +kernel
theorem dX4_quarters_27 : decode cX4_quarters 27 = .ok (.isub, 1) := by decide +kernel
theorem dX4_quarters_28 : decode cX4_quarters 28 = .ok (.ireturn, 1) := by decide +kernel
theorem dX4_reach_0 : decode cX4_reach 0 = .ok (.iload_n 1, 1) := by decide +kernel
theorem dX4_reach_1 : decode cX4_reach 1 = .ok (.invokestatic 101, 3) := by decide +kernel
theorem dX4_reach_4 : decode cX4_reach 4 = .ok (.ifCond .ne 5, 3) := by decide +kernel
theorem dX4_reach_7 : decode cX4_reach 7 = .ok (.iconst (-1), 1) := by decide +kernel
theorem dX4_reach_8 : decode cX4_reach 8 = .ok (.ireturn, 1) := by decide +kernel
theorem dX4_reach_9 : decode cX4_reach 9 = .ok (.aload_n 0, 1) := by decide +kernel
theorem dX4_reach_10 : decode cX4_reach 10 = .ok (.getfield 31, 3) := by decide +kernel
theorem dX4_reach_13 : decode cX4_reach 13 = .ok (.aload_n 0, 1) := by decide +kernel
theorem dX4_reach_14 : decode cX4_reach 14 = .ok (.getfield 19, 3) := by decide +kernel
theorem dX4_reach_17 : decode cX4_reach 17 = .ok (.invokevirtual 112, 3) := by decide +kernel
theorem dX4_reach_20 : decode cX4_reach 20 = .ok (.aload_n 0, 1) := by decide +kernel
theorem dX4_reach_21 : decode cX4_reach 21 = .ok (.getfield 19, 3) := by decide +kernel
theorem dX4_reach_24 : decode cX4_reach 24 = .ok (.iload_n 1, 1) := by decide +kernel
theorem dX4_reach_25 : decode cX4_reach 25 = .ok (.invokevirtual 115, 3) := by decide +kernel
theorem dX4_reach_28 : decode cX4_reach 28 = .ok (.ifCond .eq 14, 3) := by decide +kernel
theorem dX4_reach_31 : decode cX4_reach 31 = .ok (.aload_n 0, 1) := by decide +kernel
theorem dX4_reach_32 : decode cX4_reach 32 = .ok (.getfield 19, 3) := by decide +kernel
theorem dX4_reach_35 : decode cX4_reach 35 = .ok (.iload_n 1, 1) := by decide +kernel
theorem dX4_reach_36 : decode cX4_reach 36 = .ok (.invokevirtual 105, 3) := by decide +kernel
theorem dX4_reach_39 : decode cX4_reach 39 = .ok (.goto 5, 3) := by decide +kernel
theorem dX4_reach_42 : decode cX4_reach 42 = .ok (.bipush (-5), 2) := by decide +kernel
theorem dX4_reach_44 : decode cX4_reach 44 = .ok (.ireturn, 1) := by decide +kernel
theorem dX4_putOver_0 : decode cX4_putOver 0 = .ok (.iload_n 1, 1) := by decide +kernel
theorem dX4_putOver_1 : decode cX4_putOver 1 = .ok (.invokestatic 101, 3) := by decide +kernel
theorem dX4_putOver_4 : decode cX4_putOver 4 = .ok (.ifCond .eq 13, 3) := by decide +kernel
theorem dX4_putOver_7 : decode cX4_putOver 7 = .ok (.iload_n 2, 1) := by decide +kernel
theorem dX4_putOver_8 : decode cX4_putOver 8 = .ok (.iconst 1, 1) := by decide +kernel
theorem dX4_putOver_9 : decode cX4_putOver 9 = .ok (.bipush 10, 2) := by decide +kernel
theorem dX4_putOver_11 : decode cX4_putOver 11 = .ok (.invokestatic 69, 3) := by decide +kernel
theorem dX4_putOver_14 : decode cX4_putOver 14 = .ok (.ifCond .ne 5, 3) := by decide +kernel
theorem dX4_putOver_17 : decode cX4_putOver 17 = .ok (.iconst (-1), 1) := by decide +kernel
theorem dX4_putOver_18 : decode cX4_putOver 18 = .ok (.ireturn, 1) := by decide +kernel
theorem dX4_putOver_19 : decode cX4_putOver 19 = .ok (.aload_n 0, 1) := by decide +kernel
theorem dX4_putOver_20 : decode cX4_putOver 20 = .ok (.getfield 19, 3) := by decide +kernel
theorem dX4_putOver_23 : decode cX4_putOver 23 = .ok (.iload_n 1, 1) := by decide +kernel
theorem dX4_putOver_24 : decode cX4_putOver 24 = .ok (.invokevirtual 105, 3) := by decide +kernel
theorem dX4_putOver_27 : decode cX4_putOver 27 = .ok (.istore_n 3, 1) := by decide +kernel
theorem dX4_putOver_28 : decode cX4_putOver 28 = .ok (.aload_n 0, 1) := by decide +kernel
theorem dX4_putOver_29 : decode cX4_putOver 29 = .ok (.getfield 19, 3) := by decide +kernel
theorem dX4_putOver_32 : decode cX4_putOver 32 = .ok (.iload_n 1, 1) := by decide +kernel
theorem dX4_putOver_33 : decode cX4_putOver 33 = .ok (.invokestatic 118, 3) := by decide +kernel
theorem dX4_putOver_36 : decode cX4_putOver 36 = .ok (.invokevirtual 105, 3) := by decide +kernel
theorem dX4_putOver_39 : decode cX4_putOver 39 = .ok (.istore 4, 2) := by decide +kernel
theorem dX4_putOver_41 : decode cX4_putOver 41 = .ok (.iload_n 3, 1) := by decide +kernel
theorem dX4_putOver_42 : decode cX4_putOver 42 = .ok (.iload_n 2, 1) := by decide +kernel
theorem dX4_putOver_43 : decode cX4_putOver 43 = .ok (.if_icmp .ge 6, 3) := by decide +kernel
theorem dX4_putOver_46 : decode cX4_putOver 46 = .ok (.bipush (-2), 2) := by decide +kernel
theorem dX4_putOver_48 : decode cX4_putOver 48 = .ok (.ireturn, 1) := by decide +kernel
theorem dX4_putOver_49 : decode cX4_putOver 49 = .ok (.iload 4, 2) := by decide +kernel
theorem dX4_putOver_51 : decode cX4_putOver 51 = .ok (.iload_n 2, 1) := by decide +kernel
theorem dX4_putOver_52 : decode cX4_putOver 52 = .ok (.iadd, 1) := by decide +kernel
theorem dX4_putOver_53 : decode cX4_putOver 53 = .ok (.bipush 10, 2) := by decide +kernel
theorem dX4_putOver_55 : decode cX4_putOver 55 = .ok (.if_icmp .le 6, 3) := by decide +kernel
theorem dX4_putOver_58 : decode cX4_putOver 58 = .ok (.bipush (-3), 2) := by decide +kernel
theorem dX4_putOver_60 : decode cX4_putOver 60 = .ok (.ireturn, 1) := by decide +kernel
theorem dX4_putOver_61 : decode cX4_putOver 61 = .ok (.aload_n 0, 1) := by decide +kernel
theorem dX4_putOver_62 : decode cX4_putOver 62 = .ok (.getfield 31, 3) := by decide +kernel
theorem dX4_putOver_65 : decode cX4_putOver 65 = .ok (.aload_n 0, 1) := by decide +kernel
theorem dX4_putOver_66 : decode cX4_putOver 66 = .ok (.getfield 19, 3) := by decide +kernel
theorem dX4_putOver_69 : decode cX4_putOver 69 = .ok (.invokevirtual 112, 3) := by decide +kernel
theorem dX4_putOver_72 : decode cX4_putOver 72 = .ok (.aload_n 0, 1) := by decide +kernel
theorem dX4_putOver_73 : decode cX4_putOver 73 = .ok (.getfield 19, 3) := by decide +kernel
theorem dX4_putOver_76 : decode cX4_putOver 76 = .ok (.iload_n 1, 1) := by decide +kernel
theorem dX4_putOver_77 : decode cX4_putOver 77 = .ok (.iload_n 3, 1) := by decide +kernel
theorem dX4_putOver_78 : decode cX4_putOver 78 = .ok (.iload_n 2, 1) := by decide +kernel
theorem dX4_putOver_79 : decode cX4_putOver 79 = .ok (.isub, 1) := by decide +kernel
theorem dX4_putOver_80 : decode cX4_putOver 80 = .ok (.invokevirtual 121, 3) := by decide +kernel
theorem dX4_putOver_83 : decode cX4_putOver 83 = .ok (.aload_n 0, 1) := by decide +kernel
theorem dX4_putOver_84 : decode cX4_putOver 84 = .ok (.getfield 19, 3) := by decide +kernel
theorem dX4_putOver_87 : decode cX4_putOver 87 = .ok (.iload_n 1, 1) := by decide +kernel
theorem dX4_putOver_88 : decode cX4_putOver 88 = .ok (.invokestatic 118, 3) := by decide +kernel
theorem dX4_putOver_91 : decode cX4_putOver 91 = .ok (.iload 4, 2) := by decide +kernel
theorem dX4_putOver_93 : decode cX4_putOver 93 = .ok (.iload_n 2, 1) := by decide +kernel
theorem dX4_putOver_94 : decode cX4_putOver 94 = .ok (.iadd, 1) := by decide +kernel
theorem dX4_putOver_95 : decode cX4_putOver 95 = .ok (.invokevirtual 121, 3) := by decide +kernel
theorem dX4_putOver_98 : decode cX4_putOver 98 = .ok (.iload_n 3, 1) := by decide +kernel
theorem dX4_putOver_99 : decode cX4_putOver 99 = .ok (.iload_n 2, 1) := by decide +kernel
theorem dX4_putOver_100 : decode cX4_putOver 100 = .ok (.isub, 1) := by decide +kernel
theorem dX4_putOver_101 : decode cX4_putOver 101 = .ok (.ireturn, 1) := by decide +kernel
theorem dX4_buy_0 : decode cX4_buy 0 = .ok (.iload_n 1, 1) := by decide +kernel
theorem dX4_buy_1 : decode cX4_buy 1 = .ok (.invokestatic 101, 3) := by decide +kernel
theorem dX4_buy_4 : decode cX4_buy 4 = .ok (.ifCond .ne 5, 3) := by decide +kernel
theorem dX4_buy_7 : decode cX4_buy 7 = .ok (.iconst (-1), 1) := by decide +kernel
theorem dX4_buy_8 : decode cX4_buy 8 = .ok (.ireturn, 1) := by decide +kernel
theorem dX4_buy_9 : decode cX4_buy 9 = .ok (.aload_n 0, 1) := by decide +kernel
theorem dX4_buy_10 : decode cX4_buy 10 = .ok (.getfield 19, 3) := by decide +kernel
theorem dX4_buy_13 : decode cX4_buy 13 = .ok (.iload_n 1, 1) := by decide +kernel
theorem dX4_buy_14 : decode cX4_buy 14 = .ok (.invokevirtual 105, 3) := by decide +kernel
theorem dX4_buy_17 : decode cX4_buy 17 = .ok (.istore_n 2, 1) := by decide +kernel
theorem dX4_buy_18 : decode cX4_buy 18 = .ok (.aload_n 0, 1) := by decide +kernel
theorem dX4_buy_19 : decode cX4_buy 19 = .ok (.getfield 31, 3) := by decide +kernel
theorem dX4_buy_22 : decode cX4_buy 22 = .ok (.aload_n 0, 1) := by decide +kernel
theorem dX4_buy_23 : decode cX4_buy 23 = .ok (.getfield 19, 3) := by decide +kernel
theorem dX4_buy_26 : decode cX4_buy 26 = .ok (.invokevirtual 112, 3) := by decide +kernel
theorem dX4_buy_29 : decode cX4_buy 29 = .ok (.aload_n 0, 1) := by decide +kernel
theorem dX4_buy_30 : decode cX4_buy 30 = .ok (.getfield 19, 3) := by decide +kernel
theorem dX4_buy_33 : decode cX4_buy 33 = .ok (.iload_n 1, 1) := by decide +kernel
theorem dX4_buy_34 : decode cX4_buy 34 = .ok (.bipush 10, 2) := by decide +kernel
theorem dX4_buy_36 : decode cX4_buy 36 = .ok (.invokevirtual 121, 3) := by decide +kernel
theorem dX4_buy_39 : decode cX4_buy 39 = .ok (.iload_n 2, 1) := by decide +kernel
theorem dX4_buy_40 : decode cX4_buy 40 = .ok (.ireturn, 1) := by decide +kernel
theorem dX4_hand_0 : decode cX4_hand 0 = .ok (.iload_n 1, 1) := by decide +kernel
theorem dX4_hand_1 : decode cX4_hand 1 = .ok (.iload_n 2, 1) := by decide +kernel
theorem dX4_hand_2 : decode cX4_hand 2 = .ok (.invokestatic 124, 3) := by decide +kernel
theorem dX4_hand_5 : decode cX4_hand 5 = .ok (.ifCond .ne 5, 3) := by decide +kernel
theorem dX4_hand_8 : decode cX4_hand 8 = .ok (.iconst (-1), 1) := by decide +kernel
theorem dX4_hand_9 : decode cX4_hand 9 = .ok (.ireturn, 1) := by decide +kernel
theorem dX4_hand_10 : decode cX4_hand 10 = .ok (.bipush 10, 2) := by decide +kernel
theorem dX4_hand_12 : decode cX4_hand 12 = .ok (.aload_n 0, 1) := by decide +kernel
theorem dX4_hand_13 : decode cX4_hand 13 = .ok (.getfield 19, 3) := by decide +kernel
theorem dX4_hand_16 : decode cX4_hand 16 = .ok (.getfield 128, 3) := by decide +kernel
theorem dX4_hand_19 : decode cX4_hand 19 = .ok (.imul, 1) := by decide +kernel
theorem dX4_hand_20 : decode cX4_hand 20 = .ok (.aload_n 0, 1) := by decide +kernel
theorem dX4_hand_21 : decode cX4_hand 21 = .ok (.getfield 19, 3) := by decide +kernel
theorem dX4_hand_24 : decode cX4_hand 24 = .ok (.getfield 131, 3) := by decide +kernel
theorem dX4_hand_27 : decode cX4_hand 27 = .ok (.iadd, 1) := by decide +kernel
theorem dX4_hand_28 : decode cX4_hand 28 = .ok (.istore_n 3, 1) := by decide +kernel
theorem dX4_hand_29 : decode cX4_hand 29 = .ok (.aload_n 0, 1) := by decide +kernel
theorem dX4_hand_30 : decode cX4_hand 30 = .ok (.getfield 31, 3) := by decide +kernel
theorem dX4_hand_33 : decode cX4_hand 33 = .ok (.aload_n 0, 1) := by decide +kernel
theorem dX4_hand_34 : decode cX4_hand 34 = .ok (.getfield 19, 3) := by decide +kernel
theorem dX4_hand_37 : decode cX4_hand 37 = .ok (.invokevirtual 112, 3) := by decide +kernel
theorem dX4_hand_40 : decode cX4_hand 40 = .ok (.aload_n 0, 1) := by decide +kernel
theorem dX4_hand_41 : decode cX4_hand 41 = .ok (.getfield 19, 3) := by decide +kernel
theorem dX4_hand_44 : decode cX4_hand 44 = .ok (.iload_n 1, 1) := by decide +kernel
theorem dX4_hand_45 : decode cX4_hand 45 = .ok (.iload_n 2, 1) := by decide +kernel
theorem dX4_hand_46 : decode cX4_hand 46 = .ok (.invokevirtual 63, 3) := by decide +kernel
theorem dX4_hand_49 : decode cX4_hand 49 = .ok (.iload_n 3, 1) := by decide +kernel
theorem dX4_hand_50 : decode cX4_hand 50 = .ok (.ireturn, 1) := by decide +kernel
theorem dX4_undo_0 : decode cX4_undo 0 = .ok (.aload_n 0, 1) := by decide +kernel
theorem dX4_undo_1 : decode cX4_undo 1 = .ok (.getfield 31, 3) := by decide +kernel
theorem dX4_undo_4 : decode cX4_undo 4 = .ok (.aload_n 0, 1) := by decide +kernel
theorem dX4_undo_5 : decode cX4_undo 5 = .ok (.getfield 19, 3) := by decide +kernel
theorem dX4_undo_8 : decode cX4_undo 8 = .ok (.invokevirtual 134, 3) := by decide +kernel
theorem dX4_undo_11 : decode cX4_undo 11 = .ok (.ifCond .eq 13, 3) := by decide +kernel
theorem dX4_undo_14 : decode cX4_undo 14 = .ok (.aload_n 0, 1) := by decide +kernel
theorem dX4_undo_15 : decode cX4_undo 15 = .ok (.getfield 31, 3) := by decide +kernel
theorem dX4_undo_18 : decode cX4_undo 18 = .ok (.invokevirtual 138, 3) := by decide +kernel
theorem dX4_undo_21 : decode cX4_undo 21 = .ok (.goto 5, 3) := by decide +kernel
theorem dX4_undo_24 : decode cX4_undo 24 = .ok (.bipush (-2), 2) := by decide +kernel
theorem dX4_undo_26 : decode cX4_undo 26 = .ok (.ireturn, 1) := by decide +kernel
theorem dX4_left_0 : decode cX4_left 0 = .ok (.iload_n 1, 1) := by decide +kernel
theorem dX4_left_1 : decode cX4_left 1 = .ok (.invokestatic 139, 3) := by decide +kernel
theorem dX4_left_4 : decode cX4_left 4 = .ok (.ifCond .eq 13, 3) := by decide +kernel
theorem dX4_left_7 : decode cX4_left 7 = .ok (.iload_n 2, 1) := by decide +kernel
theorem dX4_left_8 : decode cX4_left 8 = .ok (.iconst 0, 1) := by decide +kernel
theorem dX4_left_9 : decode cX4_left 9 = .ok (.bipush 10, 2) := by decide +kernel
theorem dX4_left_11 : decode cX4_left 11 = .ok (.invokestatic 69, 3) := by decide +kernel
theorem dX4_left_14 : decode cX4_left 14 = .ok (.ifCond .ne 5, 3) := by decide +kernel
theorem dX4_left_17 : decode cX4_left 17 = .ok (.iconst (-1), 1) := by decide +kernel
theorem dX4_left_18 : decode cX4_left 18 = .ok (.ireturn, 1) := by decide +kernel
theorem dX4_left_19 : decode cX4_left 19 = .ok (.aload_n 0, 1) := by decide +kernel
theorem dX4_left_20 : decode cX4_left 20 = .ok (.iload_n 1, 1) := by decide +kernel
theorem dX4_left_21 : decode cX4_left 21 = .ok (.invokevirtual 142, 3) := by decide +kernel
theorem dX4_left_24 : decode cX4_left 24 = .ok (.pop2, 1) := by decide +kernel
theorem dX4_left_25 : decode cX4_left 25 = .ok (.aload_n 0, 1) := by decide +kernel
theorem dX4_left_26 : decode cX4_left 26 = .ok (.getfield 41, 3) := by decide +kernel
theorem dX4_left_29 : decode cX4_left 29 = .ok (.iload_n 2, 1) := by decide +kernel
theorem dX4_left_30 : decode cX4_left 30 = .ok (.invokevirtual 146, 3) := by decide +kernel
theorem dX4_left_33 : decode cX4_left 33 = .ok (.invokestatic 149, 3) := by decide +kernel
theorem dX4_left_36 : decode cX4_left 36 = .ok (.ireturn, 1) := by decide +kernel
theorem dX4_mean_0 : decode cX4_mean 0 = .ok (.iload_n 1, 1) := by decide +kernel
theorem dX4_mean_1 : decode cX4_mean 1 = .ok (.invokestatic 139, 3) := by decide +kernel
theorem dX4_mean_4 : decode cX4_mean 4 = .ok (.ifCond .ne 5, 3) := by decide +kernel
theorem dX4_mean_7 : decode cX4_mean 7 = .ok (.iconst (-1), 1) := by decide +kernel
theorem dX4_mean_8 : decode cX4_mean 8 = .ok (.ireturn, 1) := by decide +kernel
theorem dX4_mean_9 : decode cX4_mean 9 = .ok (.aload_n 0, 1) := by decide +kernel
theorem dX4_mean_10 : decode cX4_mean 10 = .ok (.iload_n 1, 1) := by decide +kernel
theorem dX4_mean_11 : decode cX4_mean 11 = .ok (.invokevirtual 142, 3) := by decide +kernel
theorem dX4_mean_14 : decode cX4_mean 14 = .ok (.pop2, 1) := by decide +kernel
theorem dX4_mean_15 : decode cX4_mean 15 = .ok (.lconst 0, 1) := by decide +kernel
theorem dX4_mean_16 : decode cX4_mean 16 = .ok (.lstore_n 2, 1) := by decide +kernel
theorem dX4_mean_17 : decode cX4_mean 17 = .ok (.iconst 0, 1) := by decide +kernel
theorem dX4_mean_18 : decode cX4_mean 18 = .ok (.istore 4, 2) := by decide +kernel
theorem dX4_mean_20 : decode cX4_mean 20 = .ok (.iload 4, 2) := by decide +kernel
theorem dX4_mean_22 : decode cX4_mean 22 = .ok (.bipush 10, 2) := by decide +kernel
theorem dX4_mean_24 : decode cX4_mean 24 = .ok (.if_icmp .gt 25, 3) := by decide +kernel
theorem dX4_mean_27 : decode cX4_mean 27 = .ok (.lload_n 2, 1) := by decide +kernel
theorem dX4_mean_28 : decode cX4_mean 28 = .ok (.iload 4, 2) := by decide +kernel
theorem dX4_mean_30 : decode cX4_mean 30 = .ok (.i2l, 1) := by decide +kernel
theorem dX4_mean_31 : decode cX4_mean 31 = .ok (.aload_n 0, 1) := by decide +kernel
theorem dX4_mean_32 : decode cX4_mean 32 = .ok (.getfield 41, 3) := by decide +kernel
theorem dX4_mean_35 : decode cX4_mean 35 = .ok (.iload 4, 2) := by decide +kernel
theorem dX4_mean_37 : decode cX4_mean 37 = .ok (.invokevirtual 146, 3) := by decide +kernel
theorem dX4_mean_40 : decode cX4_mean 40 = .ok (.lmul, 1) := by decide +kernel
theorem dX4_mean_41 : decode cX4_mean 41 = .ok (.ladd, 1) := by decide +kernel
theorem dX4_mean_42 : decode cX4_mean 42 = .ok (.lstore_n 2, 1) := by decide +kernel
theorem dX4_mean_43 : decode cX4_mean 43 = .ok (.iinc 4 1, 3) := by decide +kernel
theorem dX4_mean_46 : decode cX4_mean 46 = .ok (.goto (-26), 3) := by decide +kernel
theorem dX4_mean_49 : decode cX4_mean 49 = .ok (.lload_n 2, 1) := by decide +kernel
theorem dX4_mean_50 : decode cX4_mean 50 = .ok (.invokestatic 153, 3) := by decide +kernel
theorem dX4_mean_53 : decode cX4_mean 53 = .ok (.ireturn, 1) := by decide +kernel
theorem dX4_soon_0 : decode cX4_soon 0 = .ok (.iload_n 1, 1) := by decide +kernel
theorem dX4_soon_1 : decode cX4_soon 1 = .ok (.invokestatic 139, 3) := by decide +kernel
theorem dX4_soon_4 : decode cX4_soon 4 = .ok (.ifCond .eq 13, 3) := by decide +kernel
theorem dX4_soon_7 : decode cX4_soon 7 = .ok (.iload_n 2, 1) := by decide +kernel
theorem dX4_soon_8 : decode cX4_soon 8 = .ok (.iconst 0, 1) := by decide +kernel
theorem dX4_soon_9 : decode cX4_soon 9 = .ok (.bipush 21, 2) := by decide +kernel
theorem dX4_soon_11 : decode cX4_soon 11 = .ok (.invokestatic 69, 3) := by decide +kernel
theorem dX4_soon_14 : decode cX4_soon 14 = .ok (.ifCond .ne 5, 3) := by decide +kernel
theorem dX4_soon_17 : decode cX4_soon 17 = .ok (.iconst (-1), 1) := by decide +kernel
theorem dX4_soon_18 : decode cX4_soon 18 = .ok (.ireturn, 1) := by decide +kernel
theorem dX4_soon_19 : decode cX4_soon 19 = .ok (.aload_n 0, 1) := by decide +kernel
theorem dX4_soon_20 : decode cX4_soon 20 = .ok (.aload_n 0, 1) := by decide +kernel
theorem dX4_soon_21 : decode cX4_soon 21 = .ok (.getfield 19, 3) := by decide +kernel
theorem dX4_soon_24 : decode cX4_soon 24 = .ok (.getfield 156, 3) := by decide +kernel
theorem dX4_soon_27 : decode cX4_soon 27 = .ok (.aload_n 0, 1) := by decide +kernel
theorem dX4_soon_28 : decode cX4_soon 28 = .ok (.getfield 19, 3) := by decide +kernel
theorem dX4_soon_31 : decode cX4_soon 31 = .ok (.getfield 159, 3) := by decide +kernel
theorem dX4_soon_34 : decode cX4_soon 34 = .ok (.iload_n 1, 1) := by decide +kernel
theorem dX4_soon_35 : decode cX4_soon 35 = .ok (.invokevirtual 162, 3) := by decide +kernel
theorem dX4_soon_38 : decode cX4_soon 38 = .ok (.aload_n 0, 1) := by decide +kernel
theorem dX4_soon_39 : decode cX4_soon 39 = .ok (.getfield 41, 3) := by decide +kernel
theorem dX4_soon_42 : decode cX4_soon 42 = .ok (.iload_n 2, 1) := by decide +kernel
theorem dX4_soon_43 : decode cX4_soon 43 = .ok (.invokevirtual 166, 3) := by decide +kernel
theorem dX4_soon_46 : decode cX4_soon 46 = .ok (.ldc2_w 169, 3) := by decide +kernel
theorem dX4_soon_49 : decode cX4_soon 49 = .ok (.aload_n 0, 1) := by decide +kernel
theorem dX4_soon_50 : decode cX4_soon 50 = .ok (.getfield 41, 3) := by decide +kernel
theorem dX4_soon_53 : decode cX4_soon 53 = .ok (.invokevirtual 171, 3) := by decide +kernel
theorem dX4_soon_56 : decode cX4_soon 56 = .ok (.lsub, 1) := by decide +kernel
theorem dX4_soon_57 : decode cX4_soon 57 = .ok (.invokestatic 149, 3) := by decide +kernel
theorem dX4_soon_60 : decode cX4_soon 60 = .ok (.ireturn, 1) := by decide +kernel
theorem dX4_times_0 : decode cX4_times 0 = .ok (.iload_n 1, 1) := by decide +kernel
theorem dX4_times_1 : decode cX4_times 1 = .ok (.invokestatic 139, 3) := by decide +kernel
theorem dX4_times_4 : decode cX4_times 4 = .ok (.ifCond .eq 14, 3) := by decide +kernel
theorem dX4_times_7 : decode cX4_times 7 = .ok (.aload_n 0, 1) := by decide +kernel
theorem dX4_times_8 : decode cX4_times 8 = .ok (.iload_n 1, 1) := by decide +kernel
theorem dX4_times_9 : decode cX4_times 9 = .ok (.invokevirtual 142, 3) := by decide +kernel
theorem dX4_times_12 : decode cX4_times 12 = .ok (.invokestatic 153, 3) := by decide +kernel
theorem dX4_times_15 : decode cX4_times 15 = .ok (.goto 4, 3) := by decide +kernel
theorem dX4_times_18 : decode cX4_times 18 = .ok (.iconst (-1), 1) := by decide +kernel
theorem dX4_times_19 : decode cX4_times 19 = .ok (.ireturn, 1) := by decide +kernel
theorem dX4_likeliest_0 : decode cX4_likeliest 0 = .ok (.iload_n 1, 1) := by decide +kernel
theorem dX4_likeliest_1 : decode cX4_likeliest 1 = .ok (.invokestatic 139, 3) := by decide +kernel
theorem dX4_likeliest_4 : decode cX4_likeliest 4 = .ok (.ifCond .ne 5, 3) := by decide +kernel
theorem dX4_likeliest_7 : decode cX4_likeliest 7 = .ok (.iconst (-1), 1) := by decide +kernel
theorem dX4_likeliest_8 : decode cX4_likeliest 8 = .ok (.ireturn, 1) := by decide +kernel
theorem dX4_likeliest_9 : decode cX4_likeliest 9 = .ok (.aload_n 0, 1) := by decide +kernel
theorem dX4_likeliest_10 : decode cX4_likeliest 10 = .ok (.iload_n 1, 1) := by decide +kernel
theorem dX4_likeliest_11 : decode cX4_likeliest 11 = .ok (.invokevirtual 142, 3) := by decide +kernel
theorem dX4_likeliest_14 : decode cX4_likeliest 14 = .ok (.pop2, 1) := by decide +kernel
theorem dX4_likeliest_15 : decode cX4_likeliest 15 = .ok (.iconst 0, 1) := by decide +kernel
theorem dX4_likeliest_16 : decode cX4_likeliest 16 = .ok (.istore_n 2, 1) := by decide +kernel
theorem dX4_likeliest_17 : decode cX4_likeliest 17 = .ok (.iconst 1, 1) := by decide +kernel
theorem dX4_likeliest_18 : decode cX4_likeliest 18 = .ok (.istore_n 3, 1) := by decide +kernel
theorem dX4_likeliest_19 : decode cX4_likeliest 19 = .ok (.iload_n 3, 1) := by decide +kernel
theorem dX4_likeliest_20 : decode cX4_likeliest 20 = .ok (.bipush 10, 2) := by decide +kernel
theorem dX4_likeliest_22 : decode cX4_likeliest 22 = .ok (.if_icmp .gt 31, 3) := by decide +kernel
theorem dX4_likeliest_25 : decode cX4_likeliest 25 = .ok (.aload_n 0, 1) := by decide +kernel
theorem dX4_likeliest_26 : decode cX4_likeliest 26 = .ok (.getfield 41, 3) := by decide +kernel
theorem dX4_likeliest_29 : decode cX4_likeliest 29 = .ok (.iload_n 3, 1) := by decide +kernel
theorem dX4_likeliest_30 : decode cX4_likeliest 30 = .ok (.invokevirtual 146, 3) := by decide +kernel
theorem dX4_likeliest_33 : decode cX4_likeliest 33 = .ok (.aload_n 0, 1) := by decide +kernel
theorem dX4_likeliest_34 : decode cX4_likeliest 34 = .ok (.getfield 41, 3) := by decide +kernel
theorem dX4_likeliest_37 : decode cX4_likeliest 37 = .ok (.iload_n 2, 1) := by decide +kernel
theorem dX4_likeliest_38 : decode cX4_likeliest 38 = .ok (.invokevirtual 146, 3) := by decide +kernel
theorem dX4_likeliest_41 : decode cX4_likeliest 41 = .ok (.lcmp, 1) := by decide +kernel
theorem dX4_likeliest_42 : decode cX4_likeliest 42 = .ok (.ifCond .le 5, 3) := by decide +kernel
theorem dX4_likeliest_45 : decode cX4_likeliest 45 = .ok (.iload_n 3, 1) := by decide +kernel
theorem dX4_likeliest_46 : decode cX4_likeliest 46 = .ok (.istore_n 2, 1) := by decide +kernel
theorem dX4_likeliest_47 : decode cX4_likeliest 47 = .ok (.iinc 3 1, 3) := by decide +kernel
theorem dX4_likeliest_50 : decode cX4_likeliest 50 = .ok (.goto (-31), 3) := by decide +kernel
theorem dX4_likeliest_53 : decode cX4_likeliest 53 = .ok (.iload_n 2, 1) := by decide +kernel
theorem dX4_likeliest_54 : decode cX4_likeliest 54 = .ok (.ireturn, 1) := by decide +kernel
theorem dX4_level_0 : decode cX4_level 0 = .ok (.iload_n 1, 1) := by decide +kernel
theorem dX4_level_1 : decode cX4_level 1 = .ok (.iconst 0, 1) := by decide +kernel
theorem dX4_level_2 : decode cX4_level 2 = .ok (.bipush 20, 2) := by decide +kernel
theorem dX4_level_4 : decode cX4_level 4 = .ok (.invokestatic 69, 3) := by decide +kernel
theorem dX4_level_7 : decode cX4_level 7 = .ok (.ifCond .ne 5, 3) := by decide +kernel
theorem dX4_level_10 : decode cX4_level 10 = .ok (.iconst (-1), 1) := by decide +kernel
theorem dX4_level_11 : decode cX4_level 11 = .ok (.ireturn, 1) := by decide +kernel
theorem dX4_level_12 : decode cX4_level 12 = .ok (.aload_n 0, 1) := by decide +kernel
theorem dX4_level_13 : decode cX4_level 13 = .ok (.aload_n 0, 1) := by decide +kernel
theorem dX4_level_14 : decode cX4_level 14 = .ok (.getfield 19, 3) := by decide +kernel
theorem dX4_level_17 : decode cX4_level 17 = .ok (.getfield 156, 3) := by decide +kernel
theorem dX4_level_20 : decode cX4_level 20 = .ok (.aload_n 0, 1) := by decide +kernel
theorem dX4_level_21 : decode cX4_level 21 = .ok (.getfield 19, 3) := by decide +kernel
theorem dX4_level_24 : decode cX4_level 24 = .ok (.getfield 159, 3) := by decide +kernel
theorem dX4_level_27 : decode cX4_level 27 = .ok (.iconst 0, 1) := by decide +kernel
theorem dX4_level_28 : decode cX4_level 28 = .ok (.invokevirtual 162, 3) := by decide +kernel
theorem dX4_level_31 : decode cX4_level 31 = .ok (.aload_n 0, 1) := by decide +kernel
theorem dX4_level_32 : decode cX4_level 32 = .ok (.getfield 41, 3) := by decide +kernel
theorem dX4_level_35 : decode cX4_level 35 = .ok (.iload_n 1, 1) := by decide +kernel
theorem dX4_level_36 : decode cX4_level 36 = .ok (.invokevirtual 166, 3) := by decide +kernel
theorem dX4_level_39 : decode cX4_level 39 = .ok (.aload_n 0, 1) := by decide +kernel
theorem dX4_level_40 : decode cX4_level 40 = .ok (.getfield 41, 3) := by decide +kernel
theorem dX4_level_43 : decode cX4_level 43 = .ok (.invokevirtual 175, 3) := by decide +kernel
theorem dX4_level_46 : decode cX4_level 46 = .ok (.invokestatic 149, 3) := by decide +kernel
theorem dX4_level_49 : decode cX4_level 49 = .ok (.ireturn, 1) := by decide +kernel
theorem dX4_worth_0 : decode cX4_worth 0 = .ok (.iload_n 1, 1) := by decide +kernel
theorem dX4_worth_1 : decode cX4_worth 1 = .ok (.invokestatic 101, 3) := by decide +kernel
theorem dX4_worth_4 : decode cX4_worth 4 = .ok (.ifCond .ne 5, 3) := by decide +kernel
theorem dX4_worth_7 : decode cX4_worth 7 = .ok (.iconst (-1), 1) := by decide +kernel
theorem dX4_worth_8 : decode cX4_worth 8 = .ok (.ireturn, 1) := by decide +kernel
theorem dX4_worth_9 : decode cX4_worth 9 = .ok (.aload_n 0, 1) := by decide +kernel
theorem dX4_worth_10 : decode cX4_worth 10 = .ok (.getfield 19, 3) := by decide +kernel
theorem dX4_worth_13 : decode cX4_worth 13 = .ok (.iload_n 1, 1) := by decide +kernel
theorem dX4_worth_14 : decode cX4_worth 14 = .ok (.invokevirtual 105, 3) := by decide +kernel
theorem dX4_worth_17 : decode cX4_worth 17 = .ok (.bipush 10, 2) := by decide +kernel
theorem dX4_worth_19 : decode cX4_worth 19 = .ok (.if_icmp .lt 6, 3) := by decide +kernel
theorem dX4_worth_22 : decode cX4_worth 22 = .ok (.bipush (-3), 2) := by decide +kernel
theorem dX4_worth_24 : decode cX4_worth 24 = .ok (.ireturn, 1) := by decide +kernel
theorem dX4_worth_25 : decode cX4_worth 25 = .ok (.aload_n 0, 1) := by decide +kernel
theorem dX4_worth_26 : decode cX4_worth 26 = .ok (.aload_n 0, 1) := by decide +kernel
theorem dX4_worth_27 : decode cX4_worth 27 = .ok (.getfield 19, 3) := by decide +kernel
theorem dX4_worth_30 : decode cX4_worth 30 = .ok (.getfield 156, 3) := by decide +kernel
theorem dX4_worth_33 : decode cX4_worth 33 = .ok (.aload_n 0, 1) := by decide +kernel
theorem dX4_worth_34 : decode cX4_worth 34 = .ok (.getfield 19, 3) := by decide +kernel
theorem dX4_worth_37 : decode cX4_worth 37 = .ok (.getfield 159, 3) := by decide +kernel
theorem dX4_worth_40 : decode cX4_worth 40 = .ok (.invokevirtual 178, 3) := by decide +kernel
theorem dX4_worth_43 : decode cX4_worth 43 = .ok (.lstore_n 2, 1) := by decide +kernel
theorem dX4_worth_44 : decode cX4_worth 44 = .ok (.iload_n 1, 1) := by decide +kernel
theorem dX4_worth_45 : decode cX4_worth 45 = .ok (.ifCond .ne 26, 3) := by decide +kernel
theorem dX4_worth_48 : decode cX4_worth 48 = .ok (.aload_n 0, 1) := by decide +kernel
theorem dX4_worth_49 : decode cX4_worth 49 = .ok (.aload_n 0, 1) := by decide +kernel
theorem dX4_worth_50 : decode cX4_worth 50 = .ok (.getfield 19, 3) := by decide +kernel
theorem dX4_worth_53 : decode cX4_worth 53 = .ok (.getfield 156, 3) := by decide +kernel
theorem dX4_worth_56 : decode cX4_worth 56 = .ok (.iconst 1, 1) := by decide +kernel
theorem dX4_worth_57 : decode cX4_worth 57 = .ok (.iadd, 1) := by decide +kernel
theorem dX4_worth_58 : decode cX4_worth 58 = .ok (.aload_n 0, 1) := by decide +kernel
theorem dX4_worth_59 : decode cX4_worth 59 = .ok (.getfield 19, 3) := by decide +kernel
theorem dX4_worth_62 : decode cX4_worth 62 = .ok (.getfield 159, 3) := by decide +kernel
theorem dX4_worth_65 : decode cX4_worth 65 = .ok (.invokevirtual 178, 3) := by decide +kernel
theorem dX4_worth_68 : decode cX4_worth 68 = .ok (.goto 23, 3) := by decide +kernel
theorem dX4_worth_71 : decode cX4_worth 71 = .ok (.aload_n 0, 1) := by decide +kernel
theorem dX4_worth_72 : decode cX4_worth 72 = .ok (.aload_n 0, 1) := by decide +kernel
theorem dX4_worth_73 : decode cX4_worth 73 = .ok (.getfield 19, 3) := by decide +kernel
theorem dX4_worth_76 : decode cX4_worth 76 = .ok (.getfield 156, 3) := by decide +kernel
theorem dX4_worth_79 : decode cX4_worth 79 = .ok (.aload_n 0, 1) := by decide +kernel
theorem dX4_worth_80 : decode cX4_worth 80 = .ok (.getfield 19, 3) := by decide +kernel
theorem dX4_worth_83 : decode cX4_worth 83 = .ok (.getfield 159, 3) := by decide +kernel
theorem dX4_worth_86 : decode cX4_worth 86 = .ok (.iconst 1, 1) := by decide +kernel
theorem dX4_worth_87 : decode cX4_worth 87 = .ok (.iadd, 1) := by decide +kernel
theorem dX4_worth_88 : decode cX4_worth 88 = .ok (.invokevirtual 178, 3) := by decide +kernel
theorem dX4_worth_91 : decode cX4_worth 91 = .ok (.lstore 4, 2) := by decide +kernel
theorem dX4_worth_93 : decode cX4_worth 93 = .ok (.lload 4, 2) := by decide +kernel
theorem dX4_worth_95 : decode cX4_worth 95 = .ok (.lload_n 2, 1) := by decide +kernel
theorem dX4_worth_96 : decode cX4_worth 96 = .ok (.lsub, 1) := by decide +kernel
theorem dX4_worth_97 : decode cX4_worth 97 = .ok (.invokestatic 153, 3) := by decide +kernel
theorem dX4_worth_100 : decode cX4_worth 100 = .ok (.sipush 10000, 3) := by decide +kernel
theorem dX4_worth_103 : decode cX4_worth 103 = .ok (.iadd, 1) := by decide +kernel
theorem dX4_worth_104 : decode cX4_worth 104 = .ok (.ireturn, 1) := by decide +kernel
theorem dX4_begin_0 : decode cX4_begin 0 = .ok (.iload_n 1, 1) := by decide +kernel
theorem dX4_begin_1 : decode cX4_begin 1 = .ok (.iconst 0, 1) := by decide +kernel
theorem dX4_begin_2 : decode cX4_begin 2 = .ok (.bipush 20, 2) := by decide +kernel
theorem dX4_begin_4 : decode cX4_begin 4 = .ok (.invokestatic 69, 3) := by decide +kernel
theorem dX4_begin_7 : decode cX4_begin 7 = .ok (.ifCond .eq 20, 3) := by decide +kernel
theorem dX4_begin_10 : decode cX4_begin 10 = .ok (.iload_n 2, 1) := by decide +kernel
theorem dX4_begin_11 : decode cX4_begin 11 = .ok (.iconst 0, 1) := by decide +kernel
theorem dX4_begin_12 : decode cX4_begin 12 = .ok (.bipush 21, 2) := by decide +kernel
theorem dX4_begin_14 : decode cX4_begin 14 = .ok (.invokestatic 69, 3) := by decide +kernel
theorem dX4_begin_17 : decode cX4_begin 17 = .ok (.ifCond .eq 10, 3) := by decide +kernel
theorem dX4_begin_20 : decode cX4_begin 20 = .ok (.iload_n 3, 1) := by decide +kernel
theorem dX4_begin_21 : decode cX4_begin 21 = .ok (.invokestatic 182, 3) := by decide +kernel
theorem dX4_begin_24 : decode cX4_begin 24 = .ok (.ifCond .ne 5, 3) := by decide +kernel
theorem dX4_begin_27 : decode cX4_begin 27 = .ok (.iconst (-1), 1) := by decide +kernel
theorem dX4_begin_28 : decode cX4_begin 28 = .ok (.ireturn, 1) := by decide +kernel
theorem dX4_begin_29 : decode cX4_begin 29 = .ok (.iconst 0, 1) := by decide +kernel
theorem dX4_begin_30 : decode cX4_begin 30 = .ok (.istore 4, 2) := by decide +kernel
theorem dX4_begin_32 : decode cX4_begin 32 = .ok (.ldc2_w 185, 3) := by decide +kernel
theorem dX4_begin_35 : decode cX4_begin 35 = .ok (.lstore 5, 2) := by decide +kernel
theorem dX4_begin_37 : decode cX4_begin 37 = .ok (.iconst 0, 1) := by decide +kernel
theorem dX4_begin_38 : decode cX4_begin 38 = .ok (.istore 7, 2) := by decide +kernel
theorem dX4_begin_40 : decode cX4_begin 40 = .ok (.iload 7, 2) := by decide +kernel
theorem dX4_begin_42 : decode cX4_begin 42 = .ok (.bipush 10, 2) := by decide +kernel
theorem dX4_begin_44 : decode cX4_begin 44 = .ok (.if_icmp .gt 70, 3) := by decide +kernel
theorem dX4_begin_47 : decode cX4_begin 47 = .ok (.iload_n 1, 1) := by decide +kernel
theorem dX4_begin_48 : decode cX4_begin 48 = .ok (.iload 7, 2) := by decide +kernel
theorem dX4_begin_50 : decode cX4_begin 50 = .ok (.isub, 1) := by decide +kernel
theorem dX4_begin_51 : decode cX4_begin 51 = .ok (.iconst 0, 1) := by decide +kernel
theorem dX4_begin_52 : decode cX4_begin 52 = .ok (.bipush 10, 2) := by decide +kernel
theorem dX4_begin_54 : decode cX4_begin 54 = .ok (.invokestatic 69, 3) := by decide +kernel
theorem dX4_begin_57 : decode cX4_begin 57 = .ok (.ifCond .ne 6, 3) := by decide +kernel
theorem dX4_begin_60 : decode cX4_begin 60 = .ok (.goto 48, 3) := by decide +kernel
theorem dX4_begin_63 : decode cX4_begin 63 = .ok (.aload_n 0, 1) := by decide +kernel
theorem dX4_begin_64 : decode cX4_begin 64 = .ok (.iload 7, 2) := by decide +kernel
theorem dX4_begin_66 : decode cX4_begin 66 = .ok (.iload_n 1, 1) := by decide +kernel
theorem dX4_begin_67 : decode cX4_begin 67 = .ok (.iload 7, 2) := by decide +kernel
theorem dX4_begin_69 : decode cX4_begin 69 = .ok (.isub, 1) := by decide +kernel
theorem dX4_begin_70 : decode cX4_begin 70 = .ok (.iconst 0, 1) := by decide +kernel
theorem dX4_begin_71 : decode cX4_begin 71 = .ok (.invokevirtual 162, 3) := by decide +kernel
theorem dX4_begin_74 : decode cX4_begin 74 = .ok (.aload_n 0, 1) := by decide +kernel
theorem dX4_begin_75 : decode cX4_begin 75 = .ok (.getfield 41, 3) := by decide +kernel
theorem dX4_begin_78 : decode cX4_begin 78 = .ok (.iload_n 2, 1) := by decide +kernel
theorem dX4_begin_79 : decode cX4_begin 79 = .ok (.invokevirtual 166, 3) := by decide +kernel
theorem dX4_begin_82 : decode cX4_begin 82 = .ok (.aload_n 0, 1) := by decide +kernel
theorem dX4_begin_83 : decode cX4_begin 83 = .ok (.getfield 41, 3) := by decide +kernel
theorem dX4_begin_86 : decode cX4_begin 86 = .ok (.invokevirtual 171, 3) := by decide +kernel
theorem dX4_begin_89 : decode cX4_begin 89 = .ok (.lload 5, 2) := by decide +kernel
theorem dX4_begin_91 : decode cX4_begin 91 = .ok (.lcmp, 1) := by decide +kernel
theorem dX4_begin_92 : decode cX4_begin 92 = .ok (.ifCond .le 16, 3) := by decide +kernel
theorem dX4_begin_95 : decode cX4_begin 95 = .ok (.iload 7, 2) := by decide +kernel
theorem dX4_begin_97 : decode cX4_begin 97 = .ok (.istore 4, 2) := by decide +kernel
theorem dX4_begin_99 : decode cX4_begin 99 = .ok (.aload_n 0, 1) := by decide +kernel
theorem dX4_begin_100 : decode cX4_begin 100 = .ok (.getfield 41, 3) := by decide +kernel
theorem dX4_begin_103 : decode cX4_begin 103 = .ok (.invokevirtual 171, 3) := by decide +kernel
theorem dX4_begin_106 : decode cX4_begin 106 = .ok (.lstore 5, 2) := by decide +kernel
theorem dX4_begin_108 : decode cX4_begin 108 = .ok (.iinc 7 1, 3) := by decide +kernel
theorem dX4_begin_111 : decode cX4_begin 111 = .ok (.goto (-71), 3) := by decide +kernel
theorem dX4_begin_114 : decode cX4_begin 114 = .ok (.iload_n 3, 1) := by decide +kernel
theorem dX4_begin_115 : decode cX4_begin 115 = .ok (.ifCond .ne 8, 3) := by decide +kernel
theorem dX4_begin_118 : decode cX4_begin 118 = .ok (.iload 4, 2) := by decide +kernel
theorem dX4_begin_120 : decode cX4_begin 120 = .ok (.goto 8, 3) := by decide +kernel
theorem dX4_begin_123 : decode cX4_begin 123 = .ok (.lload 5, 2) := by decide +kernel
theorem dX4_begin_125 : decode cX4_begin 125 = .ok (.invokestatic 149, 3) := by decide +kernel
theorem dX4_begin_128 : decode cX4_begin 128 = .ok (.ireturn, 1) := by decide +kernel
theorem dX4_over_0 : decode cX4_over 0 = .ok (.iload_n 1, 1) := by decide +kernel
theorem dX4_over_1 : decode cX4_over 1 = .ok (.invokestatic 182, 3) := by decide +kernel
theorem dX4_over_4 : decode cX4_over 4 = .ok (.ifCond .ne 5, 3) := by decide +kernel
theorem dX4_over_7 : decode cX4_over 7 = .ok (.iconst (-1), 1) := by decide +kernel
theorem dX4_over_8 : decode cX4_over 8 = .ok (.ireturn, 1) := by decide +kernel
theorem dX4_over_9 : decode cX4_over 9 = .ok (.iconst 0, 1) := by decide +kernel
theorem dX4_over_10 : decode cX4_over 10 = .ok (.istore_n 2, 1) := by decide +kernel
theorem dX4_over_11 : decode cX4_over 11 = .ok (.aload_n 0, 1) := by decide +kernel
theorem dX4_over_12 : decode cX4_over 12 = .ok (.aload_n 0, 1) := by decide +kernel
theorem dX4_over_13 : decode cX4_over 13 = .ok (.getfield 19, 3) := by decide +kernel
theorem dX4_over_16 : decode cX4_over 16 = .ok (.getfield 156, 3) := by decide +kernel
theorem dX4_over_19 : decode cX4_over 19 = .ok (.aload_n 0, 1) := by decide +kernel
theorem dX4_over_20 : decode cX4_over 20 = .ok (.getfield 19, 3) := by decide +kernel
theorem dX4_over_23 : decode cX4_over 23 = .ok (.getfield 159, 3) := by decide +kernel
theorem dX4_over_26 : decode cX4_over 26 = .ok (.invokevirtual 178, 3) := by decide +kernel
theorem dX4_over_29 : decode cX4_over 29 = .ok (.lstore_n 3, 1) := by decide +kernel
theorem dX4_over_30 : decode cX4_over 30 = .ok (.iconst 1, 1) := by decide +kernel
theorem dX4_over_31 : decode cX4_over 31 = .ok (.istore 5, 2) := by decide +kernel
theorem dX4_over_33 : decode cX4_over 33 = .ok (.iload 5, 2) := by decide +kernel
theorem dX4_over_35 : decode cX4_over 35 = .ok (.bipush 10, 2) := by decide +kernel
theorem dX4_over_37 : decode cX4_over 37 = .ok (.if_icmp .gt 88, 3) := by decide +kernel
theorem dX4_over_40 : decode cX4_over 40 = .ok (.aload_n 0, 1) := by decide +kernel
theorem dX4_over_41 : decode cX4_over 41 = .ok (.aload_n 0, 1) := by decide +kernel
theorem dX4_over_42 : decode cX4_over 42 = .ok (.getfield 19, 3) := by decide +kernel
theorem dX4_over_45 : decode cX4_over 45 = .ok (.getfield 156, 3) := by decide +kernel
theorem dX4_over_48 : decode cX4_over 48 = .ok (.iload 5, 2) := by decide +kernel
theorem dX4_over_50 : decode cX4_over 50 = .ok (.isub, 1) := by decide +kernel
theorem dX4_over_51 : decode cX4_over 51 = .ok (.aload_n 0, 1) := by decide +kernel
theorem dX4_over_52 : decode cX4_over 52 = .ok (.getfield 19, 3) := by decide +kernel
theorem dX4_over_55 : decode cX4_over 55 = .ok (.getfield 159, 3) := by decide +kernel
theorem dX4_over_58 : decode cX4_over 58 = .ok (.iload 5, 2) := by decide +kernel
theorem dX4_over_60 : decode cX4_over 60 = .ok (.iadd, 1) := by decide +kernel
theorem dX4_over_61 : decode cX4_over 61 = .ok (.invokevirtual 178, 3) := by decide +kernel
theorem dX4_over_64 : decode cX4_over 64 = .ok (.lstore 6, 2) := by decide +kernel
theorem dX4_over_66 : decode cX4_over 66 = .ok (.lload 6, 2) := by decide +kernel
theorem dX4_over_68 : decode cX4_over 68 = .ok (.lload_n 3, 1) := by decide +kernel
theorem dX4_over_69 : decode cX4_over 69 = .ok (.lcmp, 1) := by decide +kernel
theorem dX4_over_70 : decode cX4_over 70 = .ok (.ifCond .le 9, 3) := by decide +kernel
theorem dX4_over_73 : decode cX4_over 73 = .ok (.iload 5, 2) := by decide +kernel
theorem dX4_over_75 : decode cX4_over 75 = .ok (.istore_n 2, 1) := by decide +kernel
theorem dX4_over_76 : decode cX4_over 76 = .ok (.lload 6, 2) := by decide +kernel
theorem dX4_over_78 : decode cX4_over 78 = .ok (.lstore_n 3, 1) := by decide +kernel
theorem dX4_over_79 : decode cX4_over 79 = .ok (.aload_n 0, 1) := by decide +kernel
theorem dX4_over_80 : decode cX4_over 80 = .ok (.aload_n 0, 1) := by decide +kernel
theorem dX4_over_81 : decode cX4_over 81 = .ok (.getfield 19, 3) := by decide +kernel
theorem dX4_over_84 : decode cX4_over 84 = .ok (.getfield 156, 3) := by decide +kernel
theorem dX4_over_87 : decode cX4_over 87 = .ok (.iload 5, 2) := by decide +kernel
theorem dX4_over_89 : decode cX4_over 89 = .ok (.iadd, 1) := by decide +kernel
theorem dX4_over_90 : decode cX4_over 90 = .ok (.aload_n 0, 1) := by decide +kernel
theorem dX4_over_91 : decode cX4_over 91 = .ok (.getfield 19, 3) := by decide +kernel
theorem dX4_over_94 : decode cX4_over 94 = .ok (.getfield 159, 3) := by decide +kernel
theorem dX4_over_97 : decode cX4_over 97 = .ok (.iload 5, 2) := by decide +kernel
theorem dX4_over_99 : decode cX4_over 99 = .ok (.isub, 1) := by decide +kernel
theorem dX4_over_100 : decode cX4_over 100 = .ok (.invokevirtual 178, 3) := by decide +kernel
theorem dX4_over_103 : decode cX4_over 103 = .ok (.lstore 8, 2) := by decide +kernel
theorem dX4_over_105 : decode cX4_over 105 = .ok (.lload 8, 2) := by decide +kernel
theorem dX4_over_107 : decode cX4_over 107 = .ok (.lload_n 3, 1) := by decide +kernel
theorem dX4_over_108 : decode cX4_over 108 = .ok (.lcmp, 1) := by decide +kernel
theorem dX4_over_109 : decode cX4_over 109 = .ok (.ifCond .le 10, 3) := by decide +kernel
theorem dX4_over_112 : decode cX4_over 112 = .ok (.iload 5, 2) := by decide +kernel
theorem dX4_over_114 : decode cX4_over 114 = .ok (.ineg, 1) := by decide +kernel
theorem dX4_over_115 : decode cX4_over 115 = .ok (.istore_n 2, 1) := by decide +kernel
theorem dX4_over_116 : decode cX4_over 116 = .ok (.lload 8, 2) := by decide +kernel
theorem dX4_over_118 : decode cX4_over 118 = .ok (.lstore_n 3, 1) := by decide +kernel
theorem dX4_over_119 : decode cX4_over 119 = .ok (.iinc 5 1, 3) := by decide +kernel
theorem dX4_over_122 : decode cX4_over 122 = .ok (.goto (-89), 3) := by decide +kernel
theorem dX4_over_125 : decode cX4_over 125 = .ok (.iload_n 1, 1) := by decide +kernel
theorem dX4_over_126 : decode cX4_over 126 = .ok (.ifCond .ne 10, 3) := by decide +kernel
theorem dX4_over_129 : decode cX4_over 129 = .ok (.iload_n 2, 1) := by decide +kernel
theorem dX4_over_130 : decode cX4_over 130 = .ok (.bipush 10, 2) := by decide +kernel
theorem dX4_over_132 : decode cX4_over 132 = .ok (.iadd, 1) := by decide +kernel
theorem dX4_over_133 : decode cX4_over 133 = .ok (.goto 7, 3) := by decide +kernel
theorem dX4_over_136 : decode cX4_over 136 = .ok (.lload_n 3, 1) := by decide +kernel
theorem dX4_over_137 : decode cX4_over 137 = .ok (.invokestatic 153, 3) := by decide +kernel
theorem dX4_over_140 : decode cX4_over 140 = .ok (.ireturn, 1) := by decide +kernel
theorem dX4_seen_0 : decode cX4_seen 0 = .ok (.iload_n 1, 1) := by decide +kernel
theorem dX4_seen_1 : decode cX4_seen 1 = .ok (.iconst 0, 1) := by decide +kernel
theorem dX4_seen_2 : decode cX4_seen 2 = .ok (.bipush 10, 2) := by decide +kernel
theorem dX4_seen_4 : decode cX4_seen 4 = .ok (.invokestatic 69, 3) := by decide +kernel
theorem dX4_seen_7 : decode cX4_seen 7 = .ok (.ifCond .eq 13, 3) := by decide +kernel
theorem dX4_seen_10 : decode cX4_seen 10 = .ok (.iload_n 2, 1) := by decide +kernel
theorem dX4_seen_11 : decode cX4_seen 11 = .ok (.iconst 0, 1) := by decide +kernel
theorem dX4_seen_12 : decode cX4_seen 12 = .ok (.bipush 10, 2) := by decide +kernel
theorem dX4_seen_14 : decode cX4_seen 14 = .ok (.invokestatic 69, 3) := by decide +kernel
theorem dX4_seen_17 : decode cX4_seen 17 = .ok (.ifCond .ne 5, 3) := by decide +kernel
theorem dX4_seen_20 : decode cX4_seen 20 = .ok (.iconst (-1), 1) := by decide +kernel
theorem dX4_seen_21 : decode cX4_seen 21 = .ok (.ireturn, 1) := by decide +kernel
theorem dX4_seen_22 : decode cX4_seen 22 = .ok (.aload_n 0, 1) := by decide +kernel
theorem dX4_seen_23 : decode cX4_seen 23 = .ok (.getfield 52, 3) := by decide +kernel
theorem dX4_seen_26 : decode cX4_seen 26 = .ok (.iconst 0, 1) := by decide +kernel
theorem dX4_seen_27 : decode cX4_seen 27 = .ok (.iconst 5, 1) := by decide +kernel
theorem dX4_seen_28 : decode cX4_seen 28 = .ok (.invokestatic 69, 3) := by decide +kernel
theorem dX4_seen_31 : decode cX4_seen 31 = .ok (.ifCond .ne 6, 3) := by decide +kernel
theorem dX4_seen_34 : decode cX4_seen 34 = .ok (.bipush (-3), 2) := by decide +kernel
theorem dX4_seen_36 : decode cX4_seen 36 = .ok (.ireturn, 1) := by decide +kernel
theorem dX4_seen_37 : decode cX4_seen 37 = .ok (.aload_n 0, 1) := by decide +kernel
theorem dX4_seen_38 : decode cX4_seen 38 = .ok (.getfield 45, 3) := by decide +kernel
theorem dX4_seen_41 : decode cX4_seen 41 = .ok (.aload_n 0, 1) := by decide +kernel
theorem dX4_seen_42 : decode cX4_seen 42 = .ok (.getfield 52, 3) := by decide +kernel
theorem dX4_seen_45 : decode cX4_seen 45 = .ok (.iload_n 1, 1) := by decide +kernel
theorem dX4_seen_46 : decode cX4_seen 46 = .ok (.iastore, 1) := by decide +kernel
theorem dX4_seen_47 : decode cX4_seen 47 = .ok (.aload_n 0, 1) := by decide +kernel
theorem dX4_seen_48 : decode cX4_seen 48 = .ok (.getfield 49, 3) := by decide +kernel
theorem dX4_seen_51 : decode cX4_seen 51 = .ok (.aload_n 0, 1) := by decide +kernel
theorem dX4_seen_52 : decode cX4_seen 52 = .ok (.getfield 52, 3) := by decide +kernel
theorem dX4_seen_55 : decode cX4_seen 55 = .ok (.iload_n 2, 1) := by decide +kernel
theorem dX4_seen_56 : decode cX4_seen 56 = .ok (.iastore, 1) := by decide +kernel
theorem dX4_seen_57 : decode cX4_seen 57 = .ok (.aload_n 0, 1) := by decide +kernel
theorem dX4_seen_58 : decode cX4_seen 58 = .ok (.dup, 1) := by decide +kernel
theorem dX4_seen_59 : decode cX4_seen 59 = .ok (.getfield 52, 3) := by decide +kernel
theorem dX4_seen_62 : decode cX4_seen 62 = .ok (.iconst 1, 1) := by decide +kernel
theorem dX4_seen_63 : decode cX4_seen 63 = .ok (.iadd, 1) := by decide +kernel
theorem dX4_seen_64 : decode cX4_seen 64 = .ok (.putfield 52, 3) := by decide +kernel
theorem dX4_seen_67 : decode cX4_seen 67 = .ok (.aload_n 0, 1) := by decide +kernel
theorem dX4_seen_68 : decode cX4_seen 68 = .ok (.getfield 52, 3) := by decide +kernel
theorem dX4_seen_71 : decode cX4_seen 71 = .ok (.ireturn, 1) := by decide +kernel
theorem dX4_forget_0 : decode cX4_forget 0 = .ok (.aload_n 0, 1) := by decide +kernel
theorem dX4_forget_1 : decode cX4_forget 1 = .ok (.getfield 52, 3) := by decide +kernel
theorem dX4_forget_4 : decode cX4_forget 4 = .ok (.istore_n 1, 1) := by decide +kernel
theorem dX4_forget_5 : decode cX4_forget 5 = .ok (.aload_n 0, 1) := by decide +kernel
theorem dX4_forget_6 : decode cX4_forget 6 = .ok (.iconst 0, 1) := by decide +kernel
theorem dX4_forget_7 : decode cX4_forget 7 = .ok (.putfield 52, 3) := by decide +kernel
theorem dX4_forget_10 : decode cX4_forget 10 = .ok (.iload_n 1, 1) := by decide +kernel
theorem dX4_forget_11 : decode cX4_forget 11 = .ok (.ireturn, 1) := by decide +kernel
theorem dX4_fits_0 : decode cX4_fits 0 = .ok (.iconst 0, 1) := by decide +kernel
theorem dX4_fits_1 : decode cX4_fits 1 = .ok (.istore_n 1, 1) := by decide +kernel
theorem dX4_fits_2 : decode cX4_fits 2 = .ok (.iconst 0, 1) := by decide +kernel
theorem dX4_fits_3 : decode cX4_fits 3 = .ok (.istore_n 2, 1) := by decide +kernel
theorem dX4_fits_4 : decode cX4_fits 4 = .ok (.iload_n 2, 1) := by decide +kernel
theorem dX4_fits_5 : decode cX4_fits 5 = .ok (.iconst 3, 1) := by decide +kernel
theorem dX4_fits_6 : decode cX4_fits 6 = .ok (.if_icmp .gt 23, 3) := by decide +kernel
theorem dX4_fits_9 : decode cX4_fits 9 = .ok (.aload_n 0, 1) := by decide +kernel
theorem dX4_fits_10 : decode cX4_fits 10 = .ok (.iload_n 2, 1) := by decide +kernel
theorem dX4_fits_11 : decode cX4_fits 11 = .ok (.invokevirtual 187, 3) := by decide +kernel
theorem dX4_fits_14 : decode cX4_fits 14 = .ok (.ifCond .lt 9, 3) := by decide +kernel
theorem dX4_fits_17 : decode cX4_fits 17 = .ok (.iload_n 1, 1) := by decide +kernel
theorem dX4_fits_18 : decode cX4_fits 18 = .ok (.iconst 1, 1) := by decide +kernel
theorem dX4_fits_19 : decode cX4_fits 19 = .ok (.iload_n 2, 1) := by decide +kernel
theorem dX4_fits_20 : decode cX4_fits 20 = .ok (.ishl, 1) := by decide +kernel
theorem dX4_fits_21 : decode cX4_fits 21 = .ok (.ior, 1) := by decide +kernel
theorem dX4_fits_22 : decode cX4_fits 22 = .ok (.istore_n 1, 1) := by decide +kernel
theorem dX4_fits_23 : decode cX4_fits 23 = .ok (.iinc 2 1, 3) := by decide +kernel
theorem dX4_fits_26 : decode cX4_fits 26 = .ok (.goto (-22), 3) := by decide +kernel
theorem dX4_fits_29 : decode cX4_fits 29 = .ok (.iload_n 1, 1) := by decide +kernel
theorem dX4_fits_30 : decode cX4_fits 30 = .ok (.ireturn, 1) := by decide +kernel
theorem dX4_asLikely_0 : decode cX4_asLikely 0 = .ok (.iload_n 1, 1) := by decide +kernel
theorem dX4_asLikely_1 : decode cX4_asLikely 1 = .ok (.invokestatic 190, 3) := by decide +kernel
theorem dX4_asLikely_4 : decode cX4_asLikely 4 = .ok (.ifCond .eq 10, 3) := by decide +kernel
theorem dX4_asLikely_7 : decode cX4_asLikely 7 = .ok (.iload_n 2, 1) := by decide +kernel
theorem dX4_asLikely_8 : decode cX4_asLikely 8 = .ok (.invokestatic 182, 3) := by decide +kernel
theorem dX4_asLikely_11 : decode cX4_asLikely 11 = .ok (.ifCond .ne 5, 3) := by decide +kernel
theorem dX4_asLikely_14 : decode cX4_asLikely 14 = .ok (.iconst (-1), 1) := by decide +kernel
theorem dX4_asLikely_15 : decode cX4_asLikely 15 = .ok (.ireturn, 1) := by decide +kernel
theorem dX4_asLikely_16 : decode cX4_asLikely 16 = .ok (.aload_n 0, 1) := by decide +kernel
theorem dX4_asLikely_17 : decode cX4_asLikely 17 = .ok (.iload_n 1, 1) := by decide +kernel
theorem dX4_asLikely_18 : decode cX4_asLikely 18 = .ok (.invokevirtual 187, 3) := by decide +kernel
theorem dX4_asLikely_21 : decode cX4_asLikely 21 = .ok (.istore_n 3, 1) := by decide +kernel
theorem dX4_asLikely_22 : decode cX4_asLikely 22 = .ok (.iload_n 3, 1) := by decide +kernel
theorem dX4_asLikely_23 : decode cX4_asLikely 23 = .ok (.ifCond .ge 6, 3) := by decide +kernel
theorem dX4_asLikely_26 : decode cX4_asLikely 26 = .ok (.bipush (-4), 2) := by decide +kernel
theorem dX4_asLikely_28 : decode cX4_asLikely 28 = .ok (.ireturn, 1) := by decide +kernel
theorem dX4_asLikely_29 : decode cX4_asLikely 29 = .ok (.iload_n 2, 1) := by decide +kernel
theorem dX4_asLikely_30 : decode cX4_asLikely 30 = .ok (.ifCond .ne 7, 3) := by decide +kernel
theorem dX4_asLikely_33 : decode cX4_asLikely 33 = .ok (.iload_n 3, 1) := by decide +kernel
theorem dX4_asLikely_34 : decode cX4_asLikely 34 = .ok (.goto 12, 3) := by decide +kernel
theorem dX4_asLikely_37 : decode cX4_asLikely 37 = .ok (.aload_n 0, 1) := by decide +kernel
theorem dX4_asLikely_38 : decode cX4_asLikely 38 = .ok (.iload_n 1, 1) := by decide +kernel
theorem dX4_asLikely_39 : decode cX4_asLikely 39 = .ok (.iload_n 3, 1) := by decide +kernel
theorem dX4_asLikely_40 : decode cX4_asLikely 40 = .ok (.invokevirtual 193, 3) := by decide +kernel
theorem dX4_asLikely_43 : decode cX4_asLikely 43 = .ok (.invokestatic 149, 3) := by decide +kernel
theorem dX4_asLikely_46 : decode cX4_asLikely 46 = .ok (.ireturn, 1) := by decide +kernel
theorem dX4_evenings_0 : decode cX4_evenings 0 = .ok (.iload_n 1, 1) := by decide +kernel
theorem dX4_evenings_1 : decode cX4_evenings 1 = .ok (.iconst 1, 1) := by decide +kernel
theorem dX4_evenings_2 : decode cX4_evenings 2 = .ok (.sipush 9999, 3) := by decide +kernel
theorem dX4_evenings_5 : decode cX4_evenings 5 = .ok (.invokestatic 69, 3) := by decide +kernel
theorem dX4_evenings_8 : decode cX4_evenings 8 = .ok (.ifCond .ne 5, 3) := by decide +kernel
theorem dX4_evenings_11 : decode cX4_evenings 11 = .ok (.iconst (-1), 1) := by decide +kernel
theorem dX4_evenings_12 : decode cX4_evenings 12 = .ok (.ireturn, 1) := by decide +kernel
theorem dX4_evenings_13 : decode cX4_evenings 13 = .ok (.aload_n 0, 1) := by decide +kernel
theorem dX4_evenings_14 : decode cX4_evenings 14 = .ok (.aload_n 0, 1) := by decide +kernel
theorem dX4_evenings_15 : decode cX4_evenings 15 = .ok (.getfield 19, 3) := by decide +kernel
theorem dX4_evenings_18 : decode cX4_evenings 18 = .ok (.getfield 156, 3) := by decide +kernel
theorem dX4_evenings_21 : decode cX4_evenings 21 = .ok (.aload_n 0, 1) := by decide +kernel
theorem dX4_evenings_22 : decode cX4_evenings 22 = .ok (.getfield 19, 3) := by decide +kernel
theorem dX4_evenings_25 : decode cX4_evenings 25 = .ok (.getfield 159, 3) := by decide +kernel
theorem dX4_evenings_28 : decode cX4_evenings 28 = .ok (.iconst 0, 1) := by decide +kernel
theorem dX4_evenings_29 : decode cX4_evenings 29 = .ok (.invokevirtual 162, 3) := by decide +kernel
theorem dX4_evenings_32 : decode cX4_evenings 32 = .ok (.iconst 0, 1) := by decide +kernel
theorem dX4_evenings_33 : decode cX4_evenings 33 = .ok (.istore_n 2, 1) := by decide +kernel
theorem dX4_evenings_34 : decode cX4_evenings 34 = .ok (.iconst 1, 1) := by decide +kernel
theorem dX4_evenings_35 : decode cX4_evenings 35 = .ok (.istore_n 3, 1) := by decide +kernel
theorem dX4_evenings_36 : decode cX4_evenings 36 = .ok (.iload_n 3, 1) := by decide +kernel
theorem dX4_evenings_37 : decode cX4_evenings 37 = .ok (.bipush 7, 2) := by decide +kernel
theorem dX4_evenings_39 : decode cX4_evenings 39 = .ok (.if_icmp .gt 43, 3) := by decide +kernel
theorem dX4_evenings_42 : decode cX4_evenings 42 = .ok (.aload_n 0, 1) := by decide +kernel
theorem dX4_evenings_43 : decode cX4_evenings 43 = .ok (.getfield 41, 3) := by decide +kernel
theorem dX4_evenings_46 : decode cX4_evenings 46 = .ok (.aload_n 0, 1) := by decide +kernel
theorem dX4_evenings_47 : decode cX4_evenings 47 = .ok (.getfield 56, 3) := by decide +kernel
theorem dX4_evenings_50 : decode cX4_evenings 50 = .ok (.invokevirtual 166, 3) := by decide +kernel
theorem dX4_evenings_53 : decode cX4_evenings 53 = .ok (.aload_n 0, 1) := by decide +kernel
theorem dX4_evenings_54 : decode cX4_evenings 54 = .ok (.getfield 41, 3) := by decide +kernel
theorem dX4_evenings_57 : decode cX4_evenings 57 = .ok (.invokevirtual 171, 3) := by decide +kernel
theorem dX4_evenings_60 : decode cX4_evenings 60 = .ok (.ldc2_w 196, 3) := by decide +kernel
theorem dX4_evenings_63 : decode cX4_evenings 63 = .ok (.lmul, 1) := by decide +kernel
theorem dX4_evenings_64 : decode cX4_evenings 64 = .ok (.iload_n 1, 1) := by decide +kernel
theorem dX4_evenings_65 : decode cX4_evenings 65 = .ok (.i2l, 1) := by decide +kernel
theorem dX4_evenings_66 : decode cX4_evenings 66 = .ok (.ldc2_w 169, 3) := by decide +kernel
theorem dX4_evenings_69 : decode cX4_evenings 69 = .ok (.lmul, 1) := by decide +kernel
theorem dX4_evenings_70 : decode cX4_evenings 70 = .ok (.lcmp, 1) := by decide +kernel
theorem dX4_evenings_71 : decode cX4_evenings 71 = .ok (.ifCond .le 5, 3) := by decide +kernel
theorem dX4_evenings_74 : decode cX4_evenings 74 = .ok (.iload_n 3, 1) := by decide +kernel
theorem dX4_evenings_75 : decode cX4_evenings 75 = .ok (.istore_n 2, 1) := by decide +kernel
theorem dX4_evenings_76 : decode cX4_evenings 76 = .ok (.iinc 3 1, 3) := by decide +kernel
theorem dX4_evenings_79 : decode cX4_evenings 79 = .ok (.goto (-43), 3) := by decide +kernel
theorem dX4_evenings_82 : decode cX4_evenings 82 = .ok (.iload_n 2, 1) := by decide +kernel
theorem dX4_evenings_83 : decode cX4_evenings 83 = .ok (.ireturn, 1) := by decide +kernel
theorem dX4_which_0 : decode cX4_which 0 = .ok (.aload_n 0, 1) := by decide +kernel
theorem dX4_which_1 : decode cX4_which 1 = .ok (.iconst 0, 1) := by decide +kernel
theorem dX4_which_2 : decode cX4_which 2 = .ok (.invokevirtual 142, 3) := by decide +kernel
theorem dX4_which_5 : decode cX4_which 5 = .ok (.pop2, 1) := by decide +kernel
theorem dX4_which_6 : decode cX4_which 6 = .ok (.aload_n 0, 1) := by decide +kernel
theorem dX4_which_7 : decode cX4_which 7 = .ok (.getfield 41, 3) := by decide +kernel
theorem dX4_which_10 : decode cX4_which 10 = .ok (.invokevirtual 198, 3) := by decide +kernel
theorem dX4_which_13 : decode cX4_which 13 = .ok (.invokestatic 149, 3) := by decide +kernel
theorem dX4_which_16 : decode cX4_which 16 = .ok (.ireturn, 1) := by decide +kernel
theorem dX4_better_0 : decode cX4_better 0 = .ok (.iload_n 1, 1) := by decide +kernel
theorem dX4_better_1 : decode cX4_better 1 = .ok (.iload_n 2, 1) := by decide +kernel
theorem dX4_better_2 : decode cX4_better 2 = .ok (.invokestatic 124, 3) := by decide +kernel
theorem dX4_better_5 : decode cX4_better 5 = .ok (.ifCond .eq 12, 3) := by decide +kernel
theorem dX4_better_8 : decode cX4_better 8 = .ok (.iload_n 3, 1) := by decide +kernel
theorem dX4_better_9 : decode cX4_better 9 = .ok (.iload 4, 2) := by decide +kernel
theorem dX4_better_11 : decode cX4_better 11 = .ok (.invokestatic 124, 3) := by decide +kernel
theorem dX4_better_14 : decode cX4_better 14 = .ok (.ifCond .ne 5, 3) := by decide +kernel
theorem dX4_better_17 : decode cX4_better 17 = .ok (.iconst (-1), 1) := by decide +kernel
theorem dX4_better_18 : decode cX4_better 18 = .ok (.ireturn, 1) := by decide +kernel
theorem dX4_better_19 : decode cX4_better 19 = .ok (.aload_n 0, 1) := by decide +kernel
theorem dX4_better_20 : decode cX4_better 20 = .ok (.iload_n 1, 1) := by decide +kernel
theorem dX4_better_21 : decode cX4_better 21 = .ok (.iload_n 2, 1) := by decide +kernel
theorem dX4_better_22 : decode cX4_better 22 = .ok (.invokevirtual 201, 3) := by decide +kernel
theorem dX4_better_25 : decode cX4_better 25 = .ok (.lstore 5, 2) := by decide +kernel
theorem dX4_better_27 : decode cX4_better 27 = .ok (.aload_n 0, 1) := by decide +kernel
theorem dX4_better_28 : decode cX4_better 28 = .ok (.iload_n 3, 1) := by decide +kernel
theorem dX4_better_29 : decode cX4_better 29 = .ok (.iload 4, 2) := by decide +kernel
theorem dX4_better_31 : decode cX4_better 31 = .ok (.invokevirtual 201, 3) := by decide +kernel
theorem dX4_better_34 : decode cX4_better 34 = .ok (.lstore 7, 2) := by decide +kernel
theorem dX4_better_36 : decode cX4_better 36 = .ok (.lload 5, 2) := by decide +kernel
theorem dX4_better_38 : decode cX4_better 38 = .ok (.lload 7, 2) := by decide +kernel
theorem dX4_better_40 : decode cX4_better 40 = .ok (.lcmp, 1) := by decide +kernel
theorem dX4_better_41 : decode cX4_better 41 = .ok (.ifCond .ne 5, 3) := by decide +kernel
theorem dX4_better_44 : decode cX4_better 44 = .ok (.iconst 0, 1) := by decide +kernel
theorem dX4_better_45 : decode cX4_better 45 = .ok (.ireturn, 1) := by decide +kernel
theorem dX4_better_46 : decode cX4_better 46 = .ok (.lload 5, 2) := by decide +kernel
theorem dX4_better_48 : decode cX4_better 48 = .ok (.lload 7, 2) := by decide +kernel
theorem dX4_better_50 : decode cX4_better 50 = .ok (.lcmp, 1) := by decide +kernel
theorem dX4_better_51 : decode cX4_better 51 = .ok (.ifCond .le 7, 3) := by decide +kernel
theorem dX4_better_54 : decode cX4_better 54 = .ok (.iconst 1, 1) := by decide +kernel
theorem dX4_better_55 : decode cX4_better 55 = .ok (.goto 4, 3) := by decide +kernel
theorem dX4_better_58 : decode cX4_better 58 = .ok (.iconst 2, 1) := by decide +kernel
theorem dX4_better_59 : decode cX4_better 59 = .ok (.ireturn, 1) := by decide +kernel
theorem dX4_coat_0 : decode cX4_coat 0 = .ok (.iload_n 1, 1) := by decide +kernel
theorem dX4_coat_1 : decode cX4_coat 1 = .ok (.iconst 0, 1) := by decide +kernel
theorem dX4_coat_2 : decode cX4_coat 2 = .ok (.sipush 9999, 3) := by decide +kernel
theorem dX4_coat_5 : decode cX4_coat 5 = .ok (.invokestatic 69, 3) := by decide +kernel
theorem dX4_coat_8 : decode cX4_coat 8 = .ok (.ifCond .eq 20, 3) := by decide +kernel
theorem dX4_coat_11 : decode cX4_coat 11 = .ok (.iload_n 2, 1) := by decide +kernel
theorem dX4_coat_12 : decode cX4_coat 12 = .ok (.iconst 1, 1) := by decide +kernel
theorem dX4_coat_13 : decode cX4_coat 13 = .ok (.bipush 60, 2) := by decide +kernel
theorem dX4_coat_15 : decode cX4_coat 15 = .ok (.invokestatic 69, 3) := by decide +kernel
theorem dX4_coat_18 : decode cX4_coat 18 = .ok (.ifCond .eq 10, 3) := by decide +kernel
theorem dX4_coat_21 : decode cX4_coat 21 = .ok (.iload_n 3, 1) := by decide +kernel
theorem dX4_coat_22 : decode cX4_coat 22 = .ok (.invokestatic 182, 3) := by decide +kernel
theorem dX4_coat_25 : decode cX4_coat 25 = .ok (.ifCond .ne 5, 3) := by decide +kernel
theorem dX4_coat_28 : decode cX4_coat 28 = .ok (.iconst (-1), 1) := by decide +kernel
theorem dX4_coat_29 : decode cX4_coat 29 = .ok (.ireturn, 1) := by decide +kernel
theorem dX4_coat_30 : decode cX4_coat 30 = .ok (.aload_n 0, 1) := by decide +kernel
theorem dX4_coat_31 : decode cX4_coat 31 = .ok (.getfield 23, 3) := by decide +kernel
theorem dX4_coat_34 : decode cX4_coat 34 = .ok (.aload_n 0, 1) := by decide +kernel
theorem dX4_coat_35 : decode cX4_coat 35 = .ok (.getfield 19, 3) := by decide +kernel
theorem dX4_coat_38 : decode cX4_coat 38 = .ok (.invokevirtual 90, 3) := by decide +kernel
theorem dX4_coat_41 : decode cX4_coat 41 = .ok (.iconst 0, 1) := by decide +kernel
theorem dX4_coat_42 : decode cX4_coat 42 = .ok (.istore 4, 2) := by decide +kernel
theorem dX4_coat_44 : decode cX4_coat 44 = .ok (.iconst 0, 1) := by decide +kernel
theorem dX4_coat_45 : decode cX4_coat 45 = .ok (.istore 5, 2) := by decide +kernel
theorem dX4_coat_47 : decode cX4_coat 47 = .ok (.iload 5, 2) := by decide +kernel
theorem dX4_coat_49 : decode cX4_coat 49 = .ok (.iload_n 2, 1) := by decide +kernel
theorem dX4_coat_50 : decode cX4_coat 50 = .ok (.if_icmp .ge 60, 3) := by decide +kernel
theorem dX4_coat_53 : decode cX4_coat 53 = .ok (.iload_n 1, 1) := by decide +kernel
theorem dX4_coat_54 : decode cX4_coat 54 = .ok (.iload 5, 2) := by decide +kernel
theorem dX4_coat_56 : decode cX4_coat 56 = .ok (.invokestatic 204, 3) := by decide +kernel
theorem dX4_coat_59 : decode cX4_coat 59 = .ok (.iconst 4, 1) := by decide +kernel
theorem dX4_coat_60 : decode cX4_coat 60 = .ok (.irem, 1) := by decide +kernel
theorem dX4_coat_61 : decode cX4_coat 61 = .ok (.aload_n 0, 1) := by decide +kernel
theorem dX4_coat_62 : decode cX4_coat 62 = .ok (.getfield 23, 3) := by decide +kernel
theorem dX4_coat_65 : decode cX4_coat 65 = .ok (.invokevirtual 109, 3) := by decide +kernel
theorem dX4_coat_68 : decode cX4_coat 68 = .ok (.if_icmp .ge 7, 3) := by decide +kernel
theorem dX4_coat_71 : decode cX4_coat 71 = .ok (.iconst 0, 1) := by decide +kernel
theorem dX4_coat_72 : decode cX4_coat 72 = .ok (.goto 4, 3) := by decide +kernel
theorem dX4_coat_75 : decode cX4_coat 75 = .ok (.iconst 1, 1) := by decide +kernel
theorem dX4_coat_76 : decode cX4_coat 76 = .ok (.istore 6, 2) := by decide +kernel
theorem dX4_coat_78 : decode cX4_coat 78 = .ok (.aload_n 0, 1) := by decide +kernel
theorem dX4_coat_79 : decode cX4_coat 79 = .ok (.getfield 23, 3) := by decide +kernel
theorem dX4_coat_82 : decode cX4_coat 82 = .ok (.iload 6, 2) := by decide +kernel
theorem dX4_coat_84 : decode cX4_coat 84 = .ok (.invokevirtual 115, 3) := by decide +kernel
theorem dX4_coat_87 : decode cX4_coat 87 = .ok (.ifCond .ne 17, 3) := by decide +kernel
theorem dX4_coat_90 : decode cX4_coat 90 = .ok (.aload_n 0, 1) := by decide +kernel
theorem dX4_coat_91 : decode cX4_coat 91 = .ok (.getfield 23, 3) := by decide +kernel
theorem dX4_coat_94 : decode cX4_coat 94 = .ok (.iload 6, 2) := by decide +kernel
theorem dX4_coat_96 : decode cX4_coat 96 = .ok (.bipush 10, 2) := by decide +kernel
theorem dX4_coat_98 : decode cX4_coat 98 = .ok (.invokevirtual 121, 3) := by decide +kernel
theorem dX4_coat_101 : decode cX4_coat 101 = .ok (.iinc 4 1, 3) := by decide +kernel
theorem dX4_coat_104 : decode cX4_coat 104 = .ok (.iinc 5 1, 3) := by decide +kernel
theorem dX4_coat_107 : decode cX4_coat 107 = .ok (.goto (-60), 3) := by decide +kernel
theorem dX4_coat_110 : decode cX4_coat 110 = .ok (.iload_n 3, 1) := by decide +kernel
theorem dX4_coat_111 : decode cX4_coat 111 = .ok (.ifCond .ne 8, 3) := by decide +kernel
theorem dX4_coat_114 : decode cX4_coat 114 = .ok (.iload 4, 2) := by decide +kernel
theorem dX4_coat_116 : decode cX4_coat 116 = .ok (.goto 10, 3) := by decide +kernel
theorem dX4_coat_119 : decode cX4_coat 119 = .ok (.aload_n 0, 1) := by decide +kernel
theorem dX4_coat_120 : decode cX4_coat 120 = .ok (.getfield 23, 3) := by decide +kernel
theorem dX4_coat_123 : decode cX4_coat 123 = .ok (.invokevirtual 98, 3) := by decide +kernel
theorem dX4_coat_126 : decode cX4_coat 126 = .ok (.ireturn, 1) := by decide +kernel
theorem dX4_keep_0 : decode cX4_keep 0 = .ok (.aload_n 0, 1) := by decide +kernel
theorem dX4_keep_1 : decode cX4_keep 1 = .ok (.getfield 35, 3) := by decide +kernel
theorem dX4_keep_4 : decode cX4_keep 4 = .ok (.invokevirtual 208, 3) := by decide +kernel
theorem dX4_keep_7 : decode cX4_keep 7 = .ok (.ifCond .eq 6, 3) := by decide +kernel
theorem dX4_keep_10 : decode cX4_keep 10 = .ok (.bipush (-3), 2) := by decide +kernel
theorem dX4_keep_12 : decode cX4_keep 12 = .ok (.ireturn, 1) := by decide +kernel
theorem dX4_keep_13 : decode cX4_keep 13 = .ok (.aload_n 0, 1) := by decide +kernel
theorem dX4_keep_14 : decode cX4_keep 14 = .ok (.getfield 35, 3) := by decide +kernel
theorem dX4_keep_17 : decode cX4_keep 17 = .ok (.aload_n 0, 1) := by decide +kernel
theorem dX4_keep_18 : decode cX4_keep 18 = .ok (.getfield 19, 3) := by decide +kernel
theorem dX4_keep_21 : decode cX4_keep 21 = .ok (.invokevirtual 112, 3) := by decide +kernel
theorem dX4_keep_24 : decode cX4_keep 24 = .ok (.aload_n 0, 1) := by decide +kernel
theorem dX4_keep_25 : decode cX4_keep 25 = .ok (.getfield 35, 3) := by decide +kernel
theorem dX4_keep_28 : decode cX4_keep 28 = .ok (.invokevirtual 138, 3) := by decide +kernel
theorem dX4_keep_31 : decode cX4_keep 31 = .ok (.ireturn, 1) := by decide +kernel
theorem dX4_back_0 : decode cX4_back 0 = .ok (.aload_n 0, 1) := by decide +kernel
theorem dX4_back_1 : decode cX4_back 1 = .ok (.getfield 35, 3) := by decide +kernel
theorem dX4_back_4 : decode cX4_back 4 = .ok (.aload_n 0, 1) := by decide +kernel
theorem dX4_back_5 : decode cX4_back 5 = .ok (.getfield 19, 3) := by decide +kernel
theorem dX4_back_8 : decode cX4_back 8 = .ok (.invokevirtual 134, 3) := by decide +kernel
theorem dX4_back_11 : decode cX4_back 11 = .ok (.ifCond .ne 6, 3) := by decide +kernel
theorem dX4_back_14 : decode cX4_back 14 = .ok (.bipush (-2), 2) := by decide +kernel
theorem dX4_back_16 : decode cX4_back 16 = .ok (.ireturn, 1) := by decide +kernel
theorem dX4_back_17 : decode cX4_back 17 = .ok (.aload_n 0, 1) := by decide +kernel
theorem dX4_back_18 : decode cX4_back 18 = .ok (.getfield 31, 3) := by decide +kernel
theorem dX4_back_21 : decode cX4_back 21 = .ok (.invokevirtual 97, 3) := by decide +kernel
theorem dX4_back_24 : decode cX4_back 24 = .ok (.aload_n 0, 1) := by decide +kernel
theorem dX4_back_25 : decode cX4_back 25 = .ok (.getfield 35, 3) := by decide +kernel
theorem dX4_back_28 : decode cX4_back 28 = .ok (.invokevirtual 138, 3) := by decide +kernel
theorem dX4_back_31 : decode cX4_back 31 = .ok (.ireturn, 1) := by decide +kernel
theorem dX4_count_0 : decode cX4_count 0 = .ok (.iload_n 1, 1) := by decide +kernel
theorem dX4_count_1 : decode cX4_count 1 = .ok (.tableswitch 117 0 8 #[51, 59, 67, 75, 80, 88, 93, 101, 109], 51) := by decide +kernel
theorem dX4_count_52 : decode cX4_count 52 = .ok (.aload_n 0, 1) := by decide +kernel
theorem dX4_count_53 : decode cX4_count 53 = .ok (.getfield 19, 3) := by decide +kernel
theorem dX4_count_56 : decode cX4_count 56 = .ok (.invokevirtual 98, 3) := by decide +kernel
theorem dX4_count_59 : decode cX4_count 59 = .ok (.ireturn, 1) := by decide +kernel
theorem dX4_count_60 : decode cX4_count 60 = .ok (.aload_n 0, 1) := by decide +kernel
theorem dX4_count_61 : decode cX4_count 61 = .ok (.getfield 19, 3) := by decide +kernel
theorem dX4_count_64 : decode cX4_count 64 = .ok (.getfield 128, 3) := by decide +kernel
theorem dX4_count_67 : decode cX4_count 67 = .ok (.ireturn, 1) := by decide +kernel
theorem dX4_count_68 : decode cX4_count 68 = .ok (.aload_n 0, 1) := by decide +kernel
theorem dX4_count_69 : decode cX4_count 69 = .ok (.getfield 19, 3) := by decide +kernel
theorem dX4_count_72 : decode cX4_count 72 = .ok (.getfield 131, 3) := by decide +kernel
theorem dX4_count_75 : decode cX4_count 75 = .ok (.ireturn, 1) := by decide +kernel
theorem dX4_count_76 : decode cX4_count 76 = .ok (.aload_n 0, 1) := by decide +kernel
theorem dX4_count_77 : decode cX4_count 77 = .ok (.getfield 56, 3) := by decide +kernel
theorem dX4_count_80 : decode cX4_count 80 = .ok (.ireturn, 1) := by decide +kernel
theorem dX4_count_81 : decode cX4_count 81 = .ok (.aload_n 0, 1) := by decide +kernel
theorem dX4_count_82 : decode cX4_count 82 = .ok (.getfield 19, 3) := by decide +kernel
theorem dX4_count_85 : decode cX4_count 85 = .ok (.getfield 66, 3) := by decide +kernel
theorem dX4_count_88 : decode cX4_count 88 = .ok (.ireturn, 1) := by decide +kernel
theorem dX4_count_89 : decode cX4_count 89 = .ok (.aload_n 0, 1) := by decide +kernel
theorem dX4_count_90 : decode cX4_count 90 = .ok (.getfield 52, 3) := by decide +kernel
theorem dX4_count_93 : decode cX4_count 93 = .ok (.ireturn, 1) := by decide +kernel
theorem dX4_count_94 : decode cX4_count 94 = .ok (.aload_n 0, 1) := by decide +kernel
theorem dX4_count_95 : decode cX4_count 95 = .ok (.getfield 31, 3) := by decide +kernel
theorem dX4_count_98 : decode cX4_count 98 = .ok (.invokevirtual 138, 3) := by decide +kernel
theorem dX4_count_101 : decode cX4_count 101 = .ok (.ireturn, 1) := by decide +kernel
theorem dX4_count_102 : decode cX4_count 102 = .ok (.aload_n 0, 1) := by decide +kernel
theorem dX4_count_103 : decode cX4_count 103 = .ok (.getfield 35, 3) := by decide +kernel
theorem dX4_count_106 : decode cX4_count 106 = .ok (.invokevirtual 138, 3) := by decide +kernel
theorem dX4_count_109 : decode cX4_count 109 = .ok (.ireturn, 1) := by decide +kernel
theorem dX4_count_110 : decode cX4_count 110 = .ok (.aload_n 0, 1) := by decide +kernel
theorem dX4_count_111 : decode cX4_count 111 = .ok (.getfield 10, 3) := by decide +kernel
theorem dX4_count_114 : decode cX4_count 114 = .ok (.invokevirtual 77, 3) := by decide +kernel
theorem dX4_count_117 : decode cX4_count 117 = .ok (.ireturn, 1) := by decide +kernel
theorem dX4_count_118 : decode cX4_count 118 = .ok (.iconst (-1), 1) := by decide +kernel
theorem dX4_count_119 : decode cX4_count 119 = .ok (.ireturn, 1) := by decide +kernel
theorem dX4_startFrom_0 : decode cX4_startFrom 0 = .ok (.aload_n 0, 1) := by decide +kernel
theorem dX4_startFrom_1 : decode cX4_startFrom 1 = .ok (.getfield 23, 3) := by decide +kernel
theorem dX4_startFrom_4 : decode cX4_startFrom 4 = .ok (.aload_n 0, 1) := by decide +kernel
theorem dX4_startFrom_5 : decode cX4_startFrom 5 = .ok (.getfield 19, 3) := by decide +kernel
theorem dX4_startFrom_8 : decode cX4_startFrom 8 = .ok (.invokevirtual 90, 3) := by decide +kernel
theorem dX4_startFrom_11 : decode cX4_startFrom 11 = .ok (.aload_n 0, 1) := by decide +kernel
theorem dX4_startFrom_12 : decode cX4_startFrom 12 = .ok (.getfield 23, 3) := by decide +kernel
theorem dX4_startFrom_15 : decode cX4_startFrom 15 = .ok (.iload_n 1, 1) := by decide +kernel
theorem dX4_startFrom_16 : decode cX4_startFrom 16 = .ok (.iload_n 2, 1) := by decide +kernel
theorem dX4_startFrom_17 : decode cX4_startFrom 17 = .ok (.invokevirtual 59, 3) := by decide +kernel
theorem dX4_startFrom_20 : decode cX4_startFrom 20 = .ok (.aload_n 0, 1) := by decide +kernel
theorem dX4_startFrom_21 : decode cX4_startFrom 21 = .ok (.getfield 41, 3) := by decide +kernel
theorem dX4_startFrom_24 : decode cX4_startFrom 24 = .ok (.aload_n 0, 1) := by decide +kernel
theorem dX4_startFrom_25 : decode cX4_startFrom 25 = .ok (.getfield 23, 3) := by decide +kernel
theorem dX4_startFrom_28 : decode cX4_startFrom 28 = .ok (.iload_n 3, 1) := by decide +kernel
theorem dX4_startFrom_29 : decode cX4_startFrom 29 = .ok (.invokevirtual 212, 3) := by decide +kernel
theorem dX4_startFrom_32 : decode cX4_startFrom 32 = .ok (.return_, 1) := by decide +kernel
theorem dX4_walkToEnd_0 : decode cX4_walkToEnd 0 = .ok (.aload_n 0, 1) := by decide +kernel
theorem dX4_walkToEnd_1 : decode cX4_walkToEnd 1 = .ok (.aload_n 0, 1) := by decide +kernel
theorem dX4_walkToEnd_2 : decode cX4_walkToEnd 2 = .ok (.getfield 19, 3) := by decide +kernel
theorem dX4_walkToEnd_5 : decode cX4_walkToEnd 5 = .ok (.getfield 156, 3) := by decide +kernel
theorem dX4_walkToEnd_8 : decode cX4_walkToEnd 8 = .ok (.aload_n 0, 1) := by decide +kernel
theorem dX4_walkToEnd_9 : decode cX4_walkToEnd 9 = .ok (.getfield 19, 3) := by decide +kernel
theorem dX4_walkToEnd_12 : decode cX4_walkToEnd 12 = .ok (.getfield 159, 3) := by decide +kernel
theorem dX4_walkToEnd_15 : decode cX4_walkToEnd 15 = .ok (.iload_n 1, 1) := by decide +kernel
theorem dX4_walkToEnd_16 : decode cX4_walkToEnd 16 = .ok (.invokevirtual 162, 3) := by decide +kernel
theorem dX4_walkToEnd_19 : decode cX4_walkToEnd 19 = .ok (.aload_n 0, 1) := by decide +kernel
theorem dX4_walkToEnd_20 : decode cX4_walkToEnd 20 = .ok (.getfield 41, 3) := by decide +kernel
theorem dX4_walkToEnd_23 : decode cX4_walkToEnd 23 = .ok (.invokevirtual 216, 3) := by decide +kernel
theorem dX4_walkToEnd_26 : decode cX4_walkToEnd 26 = .ok (.lreturn, 1) := by decide +kernel
theorem dX4_reachesWith_0 : decode cX4_reachesWith 0 = .ok (.iload_n 1, 1) := by decide +kernel
theorem dX4_reachesWith_1 : decode cX4_reachesWith 1 = .ok (.iconst 0, 1) := by decide +kernel
theorem dX4_reachesWith_2 : decode cX4_reachesWith 2 = .ok (.bipush 10, 2) := by decide +kernel
theorem dX4_reachesWith_4 : decode cX4_reachesWith 4 = .ok (.invokestatic 69, 3) := by decide +kernel
theorem dX4_reachesWith_7 : decode cX4_reachesWith 7 = .ok (.ifCond .eq 13, 3) := by decide +kernel
theorem dX4_reachesWith_10 : decode cX4_reachesWith 10 = .ok (.iload_n 2, 1) := by decide +kernel
theorem dX4_reachesWith_11 : decode cX4_reachesWith 11 = .ok (.iconst 0, 1) := by decide +kernel
theorem dX4_reachesWith_12 : decode cX4_reachesWith 12 = .ok (.bipush 10, 2) := by decide +kernel
theorem dX4_reachesWith_14 : decode cX4_reachesWith 14 = .ok (.invokestatic 69, 3) := by decide +kernel
theorem dX4_reachesWith_17 : decode cX4_reachesWith 17 = .ok (.ifCond .ne 7, 3) := by decide +kernel
theorem dX4_reachesWith_20 : decode cX4_reachesWith 20 = .ok (.ldc2_w 185, 3) := by decide +kernel
theorem dX4_reachesWith_23 : decode cX4_reachesWith 23 = .ok (.lreturn, 1) := by decide +kernel
theorem dX4_reachesWith_24 : decode cX4_reachesWith 24 = .ok (.aload_n 0, 1) := by decide +kernel
theorem dX4_reachesWith_25 : decode cX4_reachesWith 25 = .ok (.iload_n 1, 1) := by decide +kernel
theorem dX4_reachesWith_26 : decode cX4_reachesWith 26 = .ok (.iload_n 2, 1) := by decide +kernel
theorem dX4_reachesWith_27 : decode cX4_reachesWith 27 = .ok (.iconst 0, 1) := by decide +kernel
theorem dX4_reachesWith_28 : decode cX4_reachesWith 28 = .ok (.invokevirtual 162, 3) := by decide +kernel
theorem dX4_reachesWith_31 : decode cX4_reachesWith 31 = .ok (.aload_n 0, 1) := by decide +kernel
theorem dX4_reachesWith_32 : decode cX4_reachesWith 32 = .ok (.getfield 41, 3) := by decide +kernel
theorem dX4_reachesWith_35 : decode cX4_reachesWith 35 = .ok (.invokevirtual 216, 3) := by decide +kernel
theorem dX4_reachesWith_38 : decode cX4_reachesWith 38 = .ok (.lreturn, 1) := by decide +kernel
theorem dX4_startByHand_0 : decode cX4_startByHand 0 = .ok (.aload_n 0, 1) := by decide +kernel
theorem dX4_startByHand_1 : decode cX4_startByHand 1 = .ok (.getfield 23, 3) := by decide +kernel
theorem dX4_startByHand_4 : decode cX4_startByHand 4 = .ok (.aload_n 0, 1) := by decide +kernel
theorem dX4_startByHand_5 : decode cX4_startByHand 5 = .ok (.getfield 19, 3) := by decide +kernel
theorem dX4_startByHand_8 : decode cX4_startByHand 8 = .ok (.invokevirtual 90, 3) := by decide +kernel
theorem dX4_startByHand_11 : decode cX4_startByHand 11 = .ok (.aload_n 0, 1) := by decide +kernel
theorem dX4_startByHand_12 : decode cX4_startByHand 12 = .ok (.getfield 23, 3) := by decide +kernel
theorem dX4_startByHand_15 : decode cX4_startByHand 15 = .ok (.iload_n 1, 1) := by decide +kernel
theorem dX4_startByHand_16 : decode cX4_startByHand 16 = .ok (.iload_n 2, 1) := by decide +kernel
theorem dX4_startByHand_17 : decode cX4_startByHand 17 = .ok (.invokevirtual 63, 3) := by decide +kernel
theorem dX4_startByHand_20 : decode cX4_startByHand 20 = .ok (.aload_n 0, 1) := by decide +kernel
theorem dX4_startByHand_21 : decode cX4_startByHand 21 = .ok (.getfield 41, 3) := by decide +kernel
theorem dX4_startByHand_24 : decode cX4_startByHand 24 = .ok (.aload_n 0, 1) := by decide +kernel
theorem dX4_startByHand_25 : decode cX4_startByHand 25 = .ok (.getfield 23, 3) := by decide +kernel
theorem dX4_startByHand_28 : decode cX4_startByHand 28 = .ok (.iconst 0, 1) := by decide +kernel
theorem dX4_startByHand_29 : decode cX4_startByHand 29 = .ok (.invokevirtual 212, 3) := by decide +kernel
theorem dX4_startByHand_32 : decode cX4_startByHand 32 = .ok (.return_, 1) := by decide +kernel
theorem dX4_reachesByHand_0 : decode cX4_reachesByHand 0 = .ok (.aload_n 0, 1) := by decide +kernel
theorem dX4_reachesByHand_1 : decode cX4_reachesByHand 1 = .ok (.iload_n 1, 1) := by decide +kernel
theorem dX4_reachesByHand_2 : decode cX4_reachesByHand 2 = .ok (.iload_n 2, 1) := by decide +kernel
theorem dX4_reachesByHand_3 : decode cX4_reachesByHand 3 = .ok (.invokevirtual 219, 3) := by decide +kernel
theorem dX4_reachesByHand_6 : decode cX4_reachesByHand 6 = .ok (.aload_n 0, 1) := by decide +kernel
theorem dX4_reachesByHand_7 : decode cX4_reachesByHand 7 = .ok (.getfield 41, 3) := by decide +kernel
theorem dX4_reachesByHand_10 : decode cX4_reachesByHand 10 = .ok (.invokevirtual 216, 3) := by decide +kernel
theorem dX4_reachesByHand_13 : decode cX4_reachesByHand 13 = .ok (.lreturn, 1) := by decide +kernel
theorem dX4_likeliestQuarters_0 : decode cX4_likeliestQuarters 0 = .ok (.iconst (-1), 1) := by decide +kernel
theorem dX4_likeliestQuarters_1 : decode cX4_likeliestQuarters 1 = .ok (.istore_n 2, 1) := by decide +kernel
theorem dX4_likeliestQuarters_2 : decode cX4_likeliestQuarters 2 = .ok (.lconst 0, 1) := by decide +kernel
theorem dX4_likeliestQuarters_3 : decode cX4_likeliestQuarters 3 = .ok (.lstore_n 3, 1) := by decide +kernel
theorem dX4_likeliestQuarters_4 : decode cX4_likeliestQuarters 4 = .ok (.iconst 0, 1) := by decide +kernel
theorem dX4_likeliestQuarters_5 : decode cX4_likeliestQuarters 5 = .ok (.istore 5, 2) := by decide +kernel
theorem dX4_likeliestQuarters_7 : decode cX4_likeliestQuarters 7 = .ok (.iload 5, 2) := by decide +kernel
theorem dX4_likeliestQuarters_9 : decode cX4_likeliestQuarters 9 = .ok (.iconst 4, 1) := by decide +kernel
theorem dX4_likeliestQuarters_10 : decode cX4_likeliestQuarters 10 = .ok (.if_icmp .gt 31, 3) := by decide +kernel
theorem dX4_likeliestQuarters_13 : decode cX4_likeliestQuarters 13 = .ok (.aload_n 0, 1) := by decide +kernel
theorem dX4_likeliestQuarters_14 : decode cX4_likeliestQuarters 14 = .ok (.iload_n 1, 1) := by decide +kernel
theorem dX4_likeliestQuarters_15 : decode cX4_likeliestQuarters 15 = .ok (.iload 5, 2) := by decide +kernel
theorem dX4_likeliestQuarters_17 : decode cX4_likeliestQuarters 17 = .ok (.invokevirtual 193, 3) := by decide +kernel
theorem dX4_likeliestQuarters_20 : decode cX4_likeliestQuarters 20 = .ok (.lstore 6, 2) := by decide +kernel
theorem dX4_likeliestQuarters_22 : decode cX4_likeliestQuarters 22 = .ok (.lload 6, 2) := by decide +kernel
theorem dX4_likeliestQuarters_24 : decode cX4_likeliestQuarters 24 = .ok (.lload_n 3, 1) := by decide +kernel
theorem dX4_likeliestQuarters_25 : decode cX4_likeliestQuarters 25 = .ok (.lcmp, 1) := by decide +kernel
theorem dX4_likeliestQuarters_26 : decode cX4_likeliestQuarters 26 = .ok (.ifCond .le 9, 3) := by decide +kernel
theorem dX4_likeliestQuarters_29 : decode cX4_likeliestQuarters 29 = .ok (.iload 5, 2) := by decide +kernel
theorem dX4_likeliestQuarters_31 : decode cX4_likeliestQuarters 31 = .ok (.istore_n 2, 1) := by decide +kernel
theorem dX4_likeliestQuarters_32 : decode cX4_likeliestQuarters 32 = .ok (.lload 6, 2) := by decide +kernel
theorem dX4_likeliestQuarters_34 : decode cX4_likeliestQuarters 34 = .ok (.lstore_n 3, 1) := by decide +kernel
theorem dX4_likeliestQuarters_35 : decode cX4_likeliestQuarters 35 = .ok (.iinc 5 1, 3) := by decide +kernel
theorem dX4_likeliestQuarters_38 : decode cX4_likeliestQuarters 38 = .ok (.goto (-31), 3) := by decide +kernel
theorem dX4_likeliestQuarters_41 : decode cX4_likeliestQuarters 41 = .ok (.iload_n 2, 1) := by decide +kernel
theorem dX4_likeliestQuarters_42 : decode cX4_likeliestQuarters 42 = .ok (.ireturn, 1) := by decide +kernel
theorem dX4_chanceOfSeen_0 : decode cX4_chanceOfSeen 0 = .ok (.aload_n 0, 1) := by decide +kernel
theorem dX4_chanceOfSeen_1 : decode cX4_chanceOfSeen 1 = .ok (.iload_n 1, 1) := by decide +kernel
theorem dX4_chanceOfSeen_2 : decode cX4_chanceOfSeen 2 = .ok (.iload_n 2, 1) := by decide +kernel
theorem dX4_chanceOfSeen_3 : decode cX4_chanceOfSeen 3 = .ok (.invokevirtual 219, 3) := by decide +kernel
theorem dX4_chanceOfSeen_6 : decode cX4_chanceOfSeen 6 = .ok (.iconst 0, 1) := by decide +kernel
theorem dX4_chanceOfSeen_7 : decode cX4_chanceOfSeen 7 = .ok (.istore_n 3, 1) := by decide +kernel
theorem dX4_chanceOfSeen_8 : decode cX4_chanceOfSeen 8 = .ok (.iload_n 3, 1) := by decide +kernel
theorem dX4_chanceOfSeen_9 : decode cX4_chanceOfSeen 9 = .ok (.aload_n 0, 1) := by decide +kernel
theorem dX4_chanceOfSeen_10 : decode cX4_chanceOfSeen 10 = .ok (.getfield 52, 3) := by decide +kernel
theorem dX4_chanceOfSeen_13 : decode cX4_chanceOfSeen 13 = .ok (.if_icmp .ge 57, 3) := by decide +kernel
theorem dX4_chanceOfSeen_16 : decode cX4_chanceOfSeen 16 = .ok (.iload_n 3, 1) := by decide +kernel
theorem dX4_chanceOfSeen_17 : decode cX4_chanceOfSeen 17 = .ok (.bipush 6, 2) := by decide +kernel
theorem dX4_chanceOfSeen_19 : decode cX4_chanceOfSeen 19 = .ok (.if_icmp .ge 51, 3) := by decide +kernel
theorem dX4_chanceOfSeen_22 : decode cX4_chanceOfSeen 22 = .ok (.aload_n 0, 1) := by decide +kernel
theorem dX4_chanceOfSeen_23 : decode cX4_chanceOfSeen 23 = .ok (.getfield 41, 3) := by decide +kernel
theorem dX4_chanceOfSeen_26 : decode cX4_chanceOfSeen 26 = .ok (.invokevirtual 171, 3) := by decide +kernel
theorem dX4_chanceOfSeen_29 : decode cX4_chanceOfSeen 29 = .ok (.lconst 0, 1) := by decide +kernel
theorem dX4_chanceOfSeen_30 : decode cX4_chanceOfSeen 30 = .ok (.lcmp, 1) := by decide +kernel
theorem dX4_chanceOfSeen_31 : decode cX4_chanceOfSeen 31 = .ok (.ifCond .le 39, 3) := by decide +kernel
theorem dX4_chanceOfSeen_34 : decode cX4_chanceOfSeen 34 = .ok (.aload_n 0, 1) := by decide +kernel
theorem dX4_chanceOfSeen_35 : decode cX4_chanceOfSeen 35 = .ok (.getfield 41, 3) := by decide +kernel
theorem dX4_chanceOfSeen_38 : decode cX4_chanceOfSeen 38 = .ok (.aload_n 0, 1) := by decide +kernel
theorem dX4_chanceOfSeen_39 : decode cX4_chanceOfSeen 39 = .ok (.getfield 56, 3) := by decide +kernel
theorem dX4_chanceOfSeen_42 : decode cX4_chanceOfSeen 42 = .ok (.invokevirtual 166, 3) := by decide +kernel
theorem dX4_chanceOfSeen_45 : decode cX4_chanceOfSeen 45 = .ok (.aload_n 0, 1) := by decide +kernel
theorem dX4_chanceOfSeen_46 : decode cX4_chanceOfSeen 46 = .ok (.getfield 41, 3) := by decide +kernel
theorem dX4_chanceOfSeen_49 : decode cX4_chanceOfSeen 49 = .ok (.aload_n 0, 1) := by decide +kernel
theorem dX4_chanceOfSeen_50 : decode cX4_chanceOfSeen 50 = .ok (.getfield 45, 3) := by decide +kernel
theorem dX4_chanceOfSeen_53 : decode cX4_chanceOfSeen 53 = .ok (.iload_n 3, 1) := by decide +kernel
theorem dX4_chanceOfSeen_54 : decode cX4_chanceOfSeen 54 = .ok (.iaload, 1) := by decide +kernel
theorem dX4_chanceOfSeen_55 : decode cX4_chanceOfSeen 55 = .ok (.aload_n 0, 1) := by decide +kernel
theorem dX4_chanceOfSeen_56 : decode cX4_chanceOfSeen 56 = .ok (.getfield 49, 3) := by decide +kernel
theorem dX4_chanceOfSeen_59 : decode cX4_chanceOfSeen 59 = .ok (.iload_n 3, 1) := by decide +kernel
theorem dX4_chanceOfSeen_60 : decode cX4_chanceOfSeen 60 = .ok (.iaload, 1) := by decide +kernel
theorem dX4_chanceOfSeen_61 : decode cX4_chanceOfSeen 61 = .ok (.invokevirtual 222, 3) := by decide +kernel
theorem dX4_chanceOfSeen_64 : decode cX4_chanceOfSeen 64 = .ok (.iinc 3 1, 3) := by decide +kernel
theorem dX4_chanceOfSeen_67 : decode cX4_chanceOfSeen 67 = .ok (.goto (-59), 3) := by decide +kernel
theorem dX4_chanceOfSeen_70 : decode cX4_chanceOfSeen 70 = .ok (.aload_n 0, 1) := by decide +kernel
theorem dX4_chanceOfSeen_71 : decode cX4_chanceOfSeen 71 = .ok (.getfield 41, 3) := by decide +kernel
theorem dX4_chanceOfSeen_74 : decode cX4_chanceOfSeen 74 = .ok (.invokevirtual 171, 3) := by decide +kernel
theorem dX4_chanceOfSeen_77 : decode cX4_chanceOfSeen 77 = .ok (.lreturn, 1) := by decide +kernel
theorem dX4_drawOf_0 : decode cX4_drawOf 0 = .ok (.ldc2_w 225, 3) := by decide +kernel
theorem dX4_drawOf_3 : decode cX4_drawOf 3 = .ok (.iload_n 0, 1) := by decide +kernel
theorem dX4_drawOf_4 : decode cX4_drawOf 4 = .ok (.i2l, 1) := by decide +kernel
theorem dX4_drawOf_5 : decode cX4_drawOf 5 = .ok (.lmul, 1) := by decide +kernel
theorem dX4_drawOf_6 : decode cX4_drawOf 6 = .ok (.ldc2_w 227, 3) := by decide +kernel
theorem dX4_drawOf_9 : decode cX4_drawOf 9 = .ok (.iload_n 1, 1) := by decide +kernel
theorem dX4_drawOf_10 : decode cX4_drawOf 10 = .ok (.i2l, 1) := by decide +kernel
theorem dX4_drawOf_11 : decode cX4_drawOf 11 = .ok (.lmul, 1) := by decide +kernel
theorem dX4_drawOf_12 : decode cX4_drawOf 12 = .ok (.ladd, 1) := by decide +kernel
theorem dX4_drawOf_13 : decode cX4_drawOf 13 = .ok (.lconst 1, 1) := by decide +kernel
theorem dX4_drawOf_14 : decode cX4_drawOf 14 = .ok (.ladd, 1) := by decide +kernel
theorem dX4_drawOf_15 : decode cX4_drawOf 15 = .ok (.lstore_n 2, 1) := by decide +kernel
theorem dX4_drawOf_16 : decode cX4_drawOf 16 = .ok (.lload_n 2, 1) := by decide +kernel
theorem dX4_drawOf_17 : decode cX4_drawOf 17 = .ok (.lload_n 2, 1) := by decide +kernel
theorem dX4_drawOf_18 : decode cX4_drawOf 18 = .ok (.lmul, 1) := by decide +kernel
theorem dX4_drawOf_19 : decode cX4_drawOf 19 = .ok (.ldc2_w 229, 3) := by decide +kernel
theorem dX4_drawOf_22 : decode cX4_drawOf 22 = .ok (.lrem, 1) := by decide +kernel
theorem dX4_drawOf_23 : decode cX4_drawOf 23 = .ok (.ldc2_w 231, 3) := by decide +kernel
theorem dX4_drawOf_26 : decode cX4_drawOf 26 = .ok (.ldiv, 1) := by decide +kernel
theorem dX4_drawOf_27 : decode cX4_drawOf 27 = .ok (.l2i, 1) := by decide +kernel
theorem dX4_drawOf_28 : decode cX4_drawOf 28 = .ok (.ireturn, 1) := by decide +kernel
theorem dX4_tenThousandths_0 : decode cX4_tenThousandths 0 = .ok (.lload_n 0, 1) := by decide +kernel
theorem dX4_tenThousandths_1 : decode cX4_tenThousandths 1 = .ok (.ldc2_w 196, 3) := by decide +kernel
theorem dX4_tenThousandths_4 : decode cX4_tenThousandths 4 = .ok (.lmul, 1) := by decide +kernel
theorem dX4_tenThousandths_5 : decode cX4_tenThousandths 5 = .ok (.ldc2_w 169, 3) := by decide +kernel
theorem dX4_tenThousandths_8 : decode cX4_tenThousandths 8 = .ok (.ldiv, 1) := by decide +kernel
theorem dX4_tenThousandths_9 : decode cX4_tenThousandths 9 = .ok (.l2i, 1) := by decide +kernel
theorem dX4_tenThousandths_10 : decode cX4_tenThousandths 10 = .ok (.ireturn, 1) := by decide +kernel
theorem dX4_hundredfold_0 : decode cX4_hundredfold 0 = .ok (.lload_n 0, 1) := by decide +kernel
theorem dX4_hundredfold_1 : decode cX4_hundredfold 1 = .ok (.ldc2_w 233, 3) := by decide +kernel
theorem dX4_hundredfold_4 : decode cX4_hundredfold 4 = .ok (.lmul, 1) := by decide +kernel
theorem dX4_hundredfold_5 : decode cX4_hundredfold 5 = .ok (.ldc2_w 169, 3) := by decide +kernel
theorem dX4_hundredfold_8 : decode cX4_hundredfold 8 = .ok (.ldiv, 1) := by decide +kernel
theorem dX4_hundredfold_9 : decode cX4_hundredfold 9 = .ok (.l2i, 1) := by decide +kernel
theorem dX4_hundredfold_10 : decode cX4_hundredfold 10 = .ok (.ireturn, 1) := by decide +kernel
theorem dX4_handToLeft_0 : decode cX4_handToLeft 0 = .ok (.iload_n 0, 1) := by decide +kernel
theorem dX4_handToLeft_1 : decode cX4_handToLeft 1 = .ok (.tableswitch 103 1 3 #[27, 53, 78], 27) := by decide +kernel
theorem dX4_handToLeft_28 : decode cX4_handToLeft 28 = .ok (.iload_n 1, 1) := by decide +kernel
theorem dX4_handToLeft_29 : decode cX4_handToLeft 29 = .ok (.iload 4, 2) := by decide +kernel
theorem dX4_handToLeft_31 : decode cX4_handToLeft 31 = .ok (.ifCond .ne 7, 3) := by decide +kernel
theorem dX4_handToLeft_34 : decode cX4_handToLeft 34 = .ok (.iconst 1, 1) := by decide +kernel
theorem dX4_handToLeft_35 : decode cX4_handToLeft 35 = .ok (.goto 4, 3) := by decide +kernel
theorem dX4_handToLeft_38 : decode cX4_handToLeft 38 = .ok (.iconst 0, 1) := by decide +kernel
theorem dX4_handToLeft_39 : decode cX4_handToLeft 39 = .ok (.iload 4, 2) := by decide +kernel
theorem dX4_handToLeft_41 : decode cX4_handToLeft 41 = .ok (.iconst 1, 1) := by decide +kernel
theorem dX4_handToLeft_42 : decode cX4_handToLeft 42 = .ok (.if_icmp .ne 7, 3) := by decide +kernel
theorem dX4_handToLeft_45 : decode cX4_handToLeft 45 = .ok (.iconst 1, 1) := by decide +kernel
theorem dX4_handToLeft_46 : decode cX4_handToLeft 46 = .ok (.goto 4, 3) := by decide +kernel
theorem dX4_handToLeft_49 : decode cX4_handToLeft 49 = .ok (.iconst 0, 1) := by decide +kernel
theorem dX4_handToLeft_50 : decode cX4_handToLeft 50 = .ok (.invokestatic 235, 3) := by decide +kernel
theorem dX4_handToLeft_53 : decode cX4_handToLeft 53 = .ok (.ireturn, 1) := by decide +kernel
theorem dX4_handToLeft_54 : decode cX4_handToLeft 54 = .ok (.iload_n 1, 1) := by decide +kernel
theorem dX4_handToLeft_55 : decode cX4_handToLeft 55 = .ok (.iload_n 2, 1) := by decide +kernel
theorem dX4_handToLeft_56 : decode cX4_handToLeft 56 = .ok (.iload_n 3, 1) := by decide +kernel
theorem dX4_handToLeft_57 : decode cX4_handToLeft 57 = .ok (.if_icmp .le 7, 3) := by decide +kernel
theorem dX4_handToLeft_60 : decode cX4_handToLeft 60 = .ok (.iconst 1, 1) := by decide +kernel
theorem dX4_handToLeft_61 : decode cX4_handToLeft 61 = .ok (.goto 4, 3) := by decide +kernel
theorem dX4_handToLeft_64 : decode cX4_handToLeft 64 = .ok (.iconst 0, 1) := by decide +kernel
theorem dX4_handToLeft_65 : decode cX4_handToLeft 65 = .ok (.iload_n 2, 1) := by decide +kernel
theorem dX4_handToLeft_66 : decode cX4_handToLeft 66 = .ok (.iload_n 3, 1) := by decide +kernel
theorem dX4_handToLeft_67 : decode cX4_handToLeft 67 = .ok (.if_icmp .ge 7, 3) := by decide +kernel
theorem dX4_handToLeft_70 : decode cX4_handToLeft 70 = .ok (.iconst 1, 1) := by decide +kernel
theorem dX4_handToLeft_71 : decode cX4_handToLeft 71 = .ok (.goto 4, 3) := by decide +kernel
theorem dX4_handToLeft_74 : decode cX4_handToLeft 74 = .ok (.iconst 0, 1) := by decide +kernel
theorem dX4_handToLeft_75 : decode cX4_handToLeft 75 = .ok (.invokestatic 235, 3) := by decide +kernel
theorem dX4_handToLeft_78 : decode cX4_handToLeft 78 = .ok (.ireturn, 1) := by decide +kernel
theorem dX4_handToLeft_79 : decode cX4_handToLeft 79 = .ok (.iload_n 1, 1) := by decide +kernel
theorem dX4_handToLeft_80 : decode cX4_handToLeft 80 = .ok (.iload_n 2, 1) := by decide +kernel
theorem dX4_handToLeft_81 : decode cX4_handToLeft 81 = .ok (.iload_n 3, 1) := by decide +kernel
theorem dX4_handToLeft_82 : decode cX4_handToLeft 82 = .ok (.if_icmp .ge 7, 3) := by decide +kernel
theorem dX4_handToLeft_85 : decode cX4_handToLeft 85 = .ok (.iconst 1, 1) := by decide +kernel
theorem dX4_handToLeft_86 : decode cX4_handToLeft 86 = .ok (.goto 4, 3) := by decide +kernel
theorem dX4_handToLeft_89 : decode cX4_handToLeft 89 = .ok (.iconst 0, 1) := by decide +kernel
theorem dX4_handToLeft_90 : decode cX4_handToLeft 90 = .ok (.iload_n 2, 1) := by decide +kernel
theorem dX4_handToLeft_91 : decode cX4_handToLeft 91 = .ok (.iload_n 3, 1) := by decide +kernel
theorem dX4_handToLeft_92 : decode cX4_handToLeft 92 = .ok (.if_icmp .le 7, 3) := by decide +kernel
theorem dX4_handToLeft_95 : decode cX4_handToLeft 95 = .ok (.iconst 1, 1) := by decide +kernel
theorem dX4_handToLeft_96 : decode cX4_handToLeft 96 = .ok (.goto 4, 3) := by decide +kernel
theorem dX4_handToLeft_99 : decode cX4_handToLeft 99 = .ok (.iconst 0, 1) := by decide +kernel
theorem dX4_handToLeft_100 : decode cX4_handToLeft 100 = .ok (.invokestatic 235, 3) := by decide +kernel
theorem dX4_handToLeft_103 : decode cX4_handToLeft 103 = .ok (.ireturn, 1) := by decide +kernel
theorem dX4_handToLeft_104 : decode cX4_handToLeft 104 = .ok (.iload_n 1, 1) := by decide +kernel
theorem dX4_handToLeft_105 : decode cX4_handToLeft 105 = .ok (.ireturn, 1) := by decide +kernel
theorem dX4_leaning_0 : decode cX4_leaning 0 = .ok (.iload_n 1, 1) := by decide +kernel
theorem dX4_leaning_1 : decode cX4_leaning 1 = .ok (.ifCond .eq 5, 3) := by decide +kernel
theorem dX4_leaning_4 : decode cX4_leaning 4 = .ok (.iload_n 0, 1) := by decide +kernel
theorem dX4_leaning_5 : decode cX4_leaning 5 = .ok (.ireturn, 1) := by decide +kernel
theorem dX4_leaning_6 : decode cX4_leaning 6 = .ok (.iload_n 2, 1) := by decide +kernel
theorem dX4_leaning_7 : decode cX4_leaning 7 = .ok (.ifCond .eq 9, 3) := by decide +kernel
theorem dX4_leaning_10 : decode cX4_leaning 10 = .ok (.iconst 4, 1) := by decide +kernel
theorem dX4_leaning_11 : decode cX4_leaning 11 = .ok (.iload_n 0, 1) := by decide +kernel
theorem dX4_leaning_12 : decode cX4_leaning 12 = .ok (.isub, 1) := by decide +kernel
theorem dX4_leaning_13 : decode cX4_leaning 13 = .ok (.goto 4, 3) := by decide +kernel
theorem dX4_leaning_16 : decode cX4_leaning 16 = .ok (.iconst 2, 1) := by decide +kernel
theorem dX4_leaning_17 : decode cX4_leaning 17 = .ok (.ireturn, 1) := by decide +kernel
theorem dX4_otherSide_0 : decode cX4_otherSide 0 = .ok (.iload_n 0, 1) := by decide +kernel
theorem dX4_otherSide_1 : decode cX4_otherSide 1 = .ok (.ifCond .ne 7, 3) := by decide +kernel
theorem dX4_otherSide_4 : decode cX4_otherSide 4 = .ok (.iconst 1, 1) := by decide +kernel
theorem dX4_otherSide_5 : decode cX4_otherSide 5 = .ok (.goto 4, 3) := by decide +kernel
theorem dX4_otherSide_8 : decode cX4_otherSide 8 = .ok (.iconst 0, 1) := by decide +kernel
theorem dX4_otherSide_9 : decode cX4_otherSide 9 = .ok (.ireturn, 1) := by decide +kernel
theorem dX4_within_0 : decode cX4_within 0 = .ok (.iload_n 0, 1) := by decide +kernel
theorem dX4_within_1 : decode cX4_within 1 = .ok (.iload_n 1, 1) := by decide +kernel
theorem dX4_within_2 : decode cX4_within 2 = .ok (.if_icmp .lt 12, 3) := by decide +kernel
theorem dX4_within_5 : decode cX4_within 5 = .ok (.iload_n 0, 1) := by decide +kernel
theorem dX4_within_6 : decode cX4_within 6 = .ok (.iload_n 2, 1) := by decide +kernel
theorem dX4_within_7 : decode cX4_within 7 = .ok (.if_icmp .gt 7, 3) := by decide +kernel
theorem dX4_within_10 : decode cX4_within 10 = .ok (.iconst 1, 1) := by decide +kernel
theorem dX4_within_11 : decode cX4_within 11 = .ok (.goto 4, 3) := by decide +kernel
theorem dX4_within_14 : decode cX4_within 14 = .ok (.iconst 0, 1) := by decide +kernel
theorem dX4_within_15 : decode cX4_within 15 = .ok (.ireturn, 1) := by decide +kernel
theorem dX4_isSide_0 : decode cX4_isSide 0 = .ok (.iload_n 0, 1) := by decide +kernel
theorem dX4_isSide_1 : decode cX4_isSide 1 = .ok (.iconst 0, 1) := by decide +kernel
theorem dX4_isSide_2 : decode cX4_isSide 2 = .ok (.iconst 1, 1) := by decide +kernel
theorem dX4_isSide_3 : decode cX4_isSide 3 = .ok (.invokestatic 69, 3) := by decide +kernel
theorem dX4_isSide_6 : decode cX4_isSide 6 = .ok (.ireturn, 1) := by decide +kernel
theorem dX4_isEnd_0 : decode cX4_isEnd 0 = .ok (.iload_n 0, 1) := by decide +kernel
theorem dX4_isEnd_1 : decode cX4_isEnd 1 = .ok (.iconst 0, 1) := by decide +kernel
theorem dX4_isEnd_2 : decode cX4_isEnd 2 = .ok (.iconst 1, 1) := by decide +kernel
theorem dX4_isEnd_3 : decode cX4_isEnd 3 = .ok (.invokestatic 69, 3) := by decide +kernel
theorem dX4_isEnd_6 : decode cX4_isEnd 6 = .ok (.ireturn, 1) := by decide +kernel
theorem dX4_isPart_0 : decode cX4_isPart 0 = .ok (.iload_n 0, 1) := by decide +kernel
theorem dX4_isPart_1 : decode cX4_isPart 1 = .ok (.iconst 0, 1) := by decide +kernel
theorem dX4_isPart_2 : decode cX4_isPart 2 = .ok (.iconst 1, 1) := by decide +kernel
theorem dX4_isPart_3 : decode cX4_isPart 3 = .ok (.invokestatic 69, 3) := by decide +kernel
theorem dX4_isPart_6 : decode cX4_isPart 6 = .ok (.ireturn, 1) := by decide +kernel
theorem dX4_isKind_0 : decode cX4_isKind 0 = .ok (.iload_n 0, 1) := by decide +kernel
theorem dX4_isKind_1 : decode cX4_isKind 1 = .ok (.iconst 0, 1) := by decide +kernel
theorem dX4_isKind_2 : decode cX4_isKind 2 = .ok (.iconst 3, 1) := by decide +kernel
theorem dX4_isKind_3 : decode cX4_isKind 3 = .ok (.invokestatic 69, 3) := by decide +kernel
theorem dX4_isKind_6 : decode cX4_isKind 6 = .ok (.ireturn, 1) := by decide +kernel
theorem dX4_isHand_0 : decode cX4_isHand 0 = .ok (.iload_n 0, 1) := by decide +kernel
theorem dX4_isHand_1 : decode cX4_isHand 1 = .ok (.invokestatic 190, 3) := by decide +kernel
theorem dX4_isHand_4 : decode cX4_isHand 4 = .ok (.ifCond .eq 16, 3) := by decide +kernel
theorem dX4_isHand_7 : decode cX4_isHand 7 = .ok (.iload_n 1, 1) := by decide +kernel
theorem dX4_isHand_8 : decode cX4_isHand 8 = .ok (.iconst 0, 1) := by decide +kernel
theorem dX4_isHand_9 : decode cX4_isHand 9 = .ok (.iconst 4, 1) := by decide +kernel
theorem dX4_isHand_10 : decode cX4_isHand 10 = .ok (.invokestatic 69, 3) := by decide +kernel
theorem dX4_isHand_13 : decode cX4_isHand 13 = .ok (.ifCond .eq 7, 3) := by decide +kernel
theorem dX4_isHand_16 : decode cX4_isHand 16 = .ok (.iconst 1, 1) := by decide +kernel
theorem dX4_isHand_17 : decode cX4_isHand 17 = .ok (.goto 4, 3) := by decide +kernel
theorem dX4_isHand_20 : decode cX4_isHand 20 = .ok (.iconst 0, 1) := by decide +kernel
theorem dX4_isHand_21 : decode cX4_isHand 21 = .ok (.ireturn, 1) := by decide +kernel
