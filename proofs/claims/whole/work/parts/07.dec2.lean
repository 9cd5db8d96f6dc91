theorem dX5_init_0 : decode cX5_init 0 = .ok (.aload_n 0, 1) := by decide +kernel
theorem dX5_init_1 : decode cX5_init 1 = .ok (.invokespecial 1, 3) := by decide +kernel
theorem dX5_init_4 : decode cX5_init 4 = .ok (.aload_n 0, 1) := by decide +kernel
theorem dX5_init_5 : decode cX5_init 5 = .ok (.sipush 200, 3) := by decide +kernel
theorem dX5_init_8 : decode cX5_init 8 = .ok (.newarray .int, 2) := by decide +kernel
theorem dX5_init_10 : decode cX5_init 10 = .ok (.putfield 7, 3) := by decide +kernel
theorem dX5_init_13 : decode cX5_init 13 = .ok (.aload_n 0, 1) := by decide +kernel
theorem dX5_init_14 : decode cX5_init 14 = .ok (.bipush 6, 2) := by decide +kernel
theorem dX5_init_16 : decode cX5_init 16 = .ok (.newarray .int, 2) := by decide +kernel
theorem dX5_init_18 : decode cX5_init 18 = .ok (.putfield 13, 3) := by decide +kernel
theorem dX5_init_21 : decode cX5_init 21 = .ok (.aload_n 0, 1) := by decide +kernel
theorem dX5_init_22 : decode cX5_init 22 = .ok (.iconst 5, 1) := by decide +kernel
theorem dX5_init_23 : decode cX5_init 23 = .ok (.newarray .int, 2) := by decide +kernel
theorem dX5_init_25 : decode cX5_init 25 = .ok (.putfield 16, 3) := by decide +kernel
theorem dX5_init_28 : decode cX5_init 28 = .ok (.aload_n 0, 1) := by decide +kernel
theorem dX5_init_29 : decode cX5_init 29 = .ok (.bipush 40, 2) := by decide +kernel
theorem dX5_init_31 : decode cX5_init 31 = .ok (.newarray .int, 2) := by decide +kernel
theorem dX5_init_33 : decode cX5_init 33 = .ok (.putfield 19, 3) := by decide +kernel
theorem dX5_init_36 : decode cX5_init 36 = .ok (.aload_n 0, 1) := by decide +kernel
theorem dX5_init_37 : decode cX5_init 37 = .ok (.bipush 10, 2) := by decide +kernel
theorem dX5_init_39 : decode cX5_init 39 = .ok (.newarray .int, 2) := by decide +kernel
theorem dX5_init_41 : decode cX5_init 41 = .ok (.putfield 22, 3) := by decide +kernel
theorem dX5_init_44 : decode cX5_init 44 = .ok (.aload_n 0, 1) := by decide +kernel
theorem dX5_init_45 : decode cX5_init 45 = .ok (.bipush 6, 2) := by decide +kernel
theorem dX5_init_47 : decode cX5_init 47 = .ok (.newarray .int, 2) := by decide +kernel
theorem dX5_init_49 : decode cX5_init 49 = .ok (.putfield 25, 3) := by decide +kernel
theorem dX5_init_52 : decode cX5_init 52 = .ok (.aload_n 0, 1) := by decide +kernel
theorem dX5_init_53 : decode cX5_init 53 = .ok (.sipush 363, 3) := by decide +kernel
theorem dX5_init_56 : decode cX5_init 56 = .ok (.newarray .long, 2) := by decide +kernel
theorem dX5_init_58 : decode cX5_init 58 = .ok (.putfield 28, 3) := by decide +kernel
theorem dX5_init_61 : decode cX5_init 61 = .ok (.aload_n 0, 1) := by decide +kernel
theorem dX5_init_62 : decode cX5_init 62 = .ok (.sipush 363, 3) := by decide +kernel
theorem dX5_init_65 : decode cX5_init 65 = .ok (.newarray .long, 2) := by decide +kernel
theorem dX5_init_67 : decode cX5_init 67 = .ok (.putfield 32, 3) := by decide +kernel
theorem dX5_init_70 : decode cX5_init 70 = .ok (.aload_n 0, 1) := by decide +kernel
theorem dX5_init_71 : decode cX5_init 71 = .ok (.bipush 11, 2) := by decide +kernel
theorem dX5_init_73 : decode cX5_init 73 = .ok (.newarray .long, 2) := by decide +kernel
theorem dX5_init_75 : decode cX5_init 75 = .ok (.putfield 35, 3) := by decide +kernel
theorem dX5_init_78 : decode cX5_init 78 = .ok (.aload_n 0, 1) := by decide +kernel
theorem dX5_init_79 : decode cX5_init 79 = .ok (.bipush 22, 2) := by decide +kernel
theorem dX5_init_81 : decode cX5_init 81 = .ok (.newarray .long, 2) := by decide +kernel
theorem dX5_init_83 : decode cX5_init 83 = .ok (.putfield 38, 3) := by decide +kernel
theorem dX5_init_86 : decode cX5_init 86 = .ok (.aload_n 0, 1) := by decide +kernel
theorem dX5_init_87 : decode cX5_init 87 = .ok (.invokevirtual 41, 3) := by decide +kernel
theorem dX5_init_90 : decode cX5_init 90 = .ok (.aload_n 0, 1) := by decide +kernel
theorem dX5_init_91 : decode cX5_init 91 = .ok (.getfield 13, 3) := by decide +kernel
theorem dX5_init_94 : decode cX5_init 94 = .ok (.iconst 0, 1) := by decide +kernel
theorem dX5_init_95 : decode cX5_init 95 = .ok (.bipush 6, 2) := by decide +kernel
theorem dX5_init_97 : decode cX5_init 97 = .ok (.iastore, 1) := by decide +kernel
theorem dX5_init_98 : decode cX5_init 98 = .ok (.aload_n 0, 1) := by decide +kernel
theorem dX5_init_99 : decode cX5_init 99 = .ok (.getfield 13, 3) := by decide +kernel
theorem dX5_init_102 : decode cX5_init 102 = .ok (.iconst 1, 1) := by decide +kernel
theorem dX5_init_103 : decode cX5_init 103 = .ok (.iconst 4, 1) := by decide +kernel
theorem dX5_init_104 : decode cX5_init 104 = .ok (.iastore, 1) := by decide +kernel
theorem dX5_init_105 : decode cX5_init 105 = .ok (.aload_n 0, 1) := by decide +kernel
theorem dX5_init_106 : decode cX5_init 106 = .ok (.getfield 13, 3) := by decide +kernel
theorem dX5_init_109 : decode cX5_init 109 = .ok (.iconst 3, 1) := by decide +kernel
theorem dX5_init_110 : decode cX5_init 110 = .ok (.iconst 2, 1) := by decide +kernel
theorem dX5_init_111 : decode cX5_init 111 = .ok (.iastore, 1) := by decide +kernel
theorem dX5_init_112 : decode cX5_init 112 = .ok (.aload_n 0, 1) := by decide +kernel
theorem dX5_init_113 : decode cX5_init 113 = .ok (.getfield 13, 3) := by decide +kernel
theorem dX5_init_116 : decode cX5_init 116 = .ok (.iconst 4, 1) := by decide +kernel
theorem dX5_init_117 : decode cX5_init 117 = .ok (.iconst 3, 1) := by decide +kernel
theorem dX5_init_118 : decode cX5_init 118 = .ok (.iastore, 1) := by decide +kernel
theorem dX5_init_119 : decode cX5_init 119 = .ok (.aload_n 0, 1) := by decide +kernel
theorem dX5_init_120 : decode cX5_init 120 = .ok (.getfield 13, 3) := by decide +kernel
theorem dX5_init_123 : decode cX5_init 123 = .ok (.iconst 5, 1) := by decide +kernel
theorem dX5_init_124 : decode cX5_init 124 = .ok (.iconst 2, 1) := by decide +kernel
theorem dX5_init_125 : decode cX5_init 125 = .ok (.iastore, 1) := by decide +kernel
theorem dX5_init_126 : decode cX5_init 126 = .ok (.aload_n 0, 1) := by decide +kernel
theorem dX5_init_127 : decode cX5_init 127 = .ok (.invokevirtual 44, 3) := by decide +kernel
theorem dX5_init_130 : decode cX5_init 130 = .ok (.return_, 1) := by decide +kernel
theorem dX5_in_0 : decode cX5_in 0 = .ok (.iload_n 0, 1) := by decide +kernel
theorem dX5_in_1 : decode cX5_in 1 = .ok (.iload_n 1, 1) := by decide +kernel
theorem dX5_in_2 : decode cX5_in 2 = .ok (.if_icmp .lt 12, 3) := by decide +kernel
theorem dX5_in_5 : decode cX5_in 5 = .ok (.iload_n 0, 1) := by decide +kernel
theorem dX5_in_6 : decode cX5_in 6 = .ok (.iload_n 2, 1) := by decide +kernel
theorem dX5_in_7 : decode cX5_in 7 = .ok (.if_icmp .gt 7, 3) := by decide +kernel
theorem dX5_in_10 : decode cX5_in 10 = .ok (.iconst 1, 1) := by decide +kernel
theorem dX5_in_11 : decode cX5_in 11 = .ok (.goto 4, 3) := by decide +kernel
theorem dX5_in_14 : decode cX5_in 14 = .ok (.iconst 0, 1) := by decide +kernel
theorem dX5_in_15 : decode cX5_in 15 = .ok (.ireturn, 1) := by decide +kernel
theorem dX5_write_0 : decode cX5_write 0 = .ok (.iload_n 1, 1) := by decide +kernel
theorem dX5_write_1 : decode cX5_write 1 = .ok (.bipush 32, 2) := by decide +kernel
theorem dX5_write_3 : decode cX5_write 3 = .ok (.bipush 126, 2) := by decide +kernel
theorem dX5_write_5 : decode cX5_write 5 = .ok (.invokestatic 47, 3) := by decide +kernel
theorem dX5_write_8 : decode cX5_write 8 = .ok (.ifCond .ne 5, 3) := by decide +kernel
theorem dX5_write_11 : decode cX5_write 11 = .ok (.iconst (-1), 1) := by decide +kernel
theorem dX5_write_12 : decode cX5_write 12 = .ok (.ireturn, 1) := by decide +kernel
theorem dX5_write_13 : decode cX5_write 13 = .ok (.aload_n 0, 1) := by decide +kernel
theorem dX5_write_14 : decode cX5_write 14 = .ok (.getfield 51, 3) := by decide +kernel
theorem dX5_write_17 : decode cX5_write 17 = .ok (.sipush 200, 3) := by decide +kernel
theorem dX5_write_20 : decode cX5_write 20 = .ok (.if_icmp .ne 6, 3) := by decide +kernel
theorem dX5_write_23 : decode cX5_write 23 = .ok (.bipush (-3), 2) := by decide +kernel
theorem dX5_write_25 : decode cX5_write 25 = .ok (.ireturn, 1) := by decide +kernel
theorem dX5_write_26 : decode cX5_write 26 = .ok (.aload_n 0, 1) := by decide +kernel
theorem dX5_write_27 : decode cX5_write 27 = .ok (.getfield 7, 3) := by decide +kernel
theorem dX5_write_30 : decode cX5_write 30 = .ok (.aload_n 0, 1) := by decide +kernel
theorem dX5_write_31 : decode cX5_write 31 = .ok (.getfield 51, 3) := by decide +kernel
theorem dX5_write_34 : decode cX5_write 34 = .ok (.iload_n 1, 1) := by decide +kernel
theorem dX5_write_35 : decode cX5_write 35 = .ok (.iastore, 1) := by decide +kernel
theorem dX5_write_36 : decode cX5_write 36 = .ok (.aload_n 0, 1) := by decide +kernel
theorem dX5_write_37 : decode cX5_write 37 = .ok (.dup, 1) := by decide +kernel
theorem dX5_write_38 : decode cX5_write 38 = .ok (.getfield 51, 3) := by decide +kernel
theorem dX5_write_41 : decode cX5_write 41 = .ok (.iconst 1, 1) := by decide +kernel
theorem dX5_write_42 : decode cX5_write 42 = .ok (.iadd, 1) := by decide +kernel
theorem dX5_write_43 : decode cX5_write 43 = .ok (.putfield 51, 3) := by decide +kernel
theorem dX5_write_46 : decode cX5_write 46 = .ok (.aload_n 0, 1) := by decide +kernel
theorem dX5_write_47 : decode cX5_write 47 = .ok (.getfield 51, 3) := by decide +kernel
theorem dX5_write_50 : decode cX5_write 50 = .ok (.ireturn, 1) := by decide +kernel
theorem dX5_wipe_0 : decode cX5_wipe 0 = .ok (.aload_n 0, 1) := by decide +kernel
theorem dX5_wipe_1 : decode cX5_wipe 1 = .ok (.getfield 51, 3) := by decide +kernel
theorem dX5_wipe_4 : decode cX5_wipe 4 = .ok (.istore_n 1, 1) := by decide +kernel
theorem dX5_wipe_5 : decode cX5_wipe 5 = .ok (.aload_n 0, 1) := by decide +kernel
theorem dX5_wipe_6 : decode cX5_wipe 6 = .ok (.iconst 0, 1) := by decide +kernel
theorem dX5_wipe_7 : decode cX5_wipe 7 = .ok (.putfield 51, 3) := by decide +kernel
theorem dX5_wipe_10 : decode cX5_wipe 10 = .ok (.iload_n 1, 1) := by decide +kernel
theorem dX5_wipe_11 : decode cX5_wipe 11 = .ok (.ireturn, 1) := by decide +kernel
theorem dX5_letterAt_0 : decode cX5_letterAt 0 = .ok (.iload_n 1, 1) := by decide +kernel
theorem dX5_letterAt_1 : decode cX5_letterAt 1 = .ok (.aload_n 0, 1) := by decide +kernel
theorem dX5_letterAt_2 : decode cX5_letterAt 2 = .ok (.getfield 51, 3) := by decide +kernel
theorem dX5_letterAt_5 : decode cX5_letterAt 5 = .ok (.if_icmp .ge 12, 3) := by decide +kernel
theorem dX5_letterAt_8 : decode cX5_letterAt 8 = .ok (.aload_n 0, 1) := by decide +kernel
theorem dX5_letterAt_9 : decode cX5_letterAt 9 = .ok (.getfield 7, 3) := by decide +kernel
theorem dX5_letterAt_12 : decode cX5_letterAt 12 = .ok (.iload_n 1, 1) := by decide +kernel
theorem dX5_letterAt_13 : decode cX5_letterAt 13 = .ok (.iaload, 1) := by decide +kernel
theorem dX5_letterAt_14 : decode cX5_letterAt 14 = .ok (.goto 4, 3) := by decide +kernel
theorem dX5_letterAt_17 : decode cX5_letterAt 17 = .ok (.iconst (-1), 1) := by decide +kernel
theorem dX5_letterAt_18 : decode cX5_letterAt 18 = .ok (.ireturn, 1) := by decide +kernel
theorem dX5_isFigure_0 : decode cX5_isFigure 0 = .ok (.iload_n 0, 1) := by decide +kernel
theorem dX5_isFigure_1 : decode cX5_isFigure 1 = .ok (.bipush 48, 2) := by decide +kernel
theorem dX5_isFigure_3 : decode cX5_isFigure 3 = .ok (.bipush 57, 2) := by decide +kernel
theorem dX5_isFigure_5 : decode cX5_isFigure 5 = .ok (.invokestatic 47, 3) := by decide +kernel
theorem dX5_isFigure_8 : decode cX5_isFigure 8 = .ok (.ireturn, 1) := by decide +kernel
theorem dX5_number_0 : decode cX5_number 0 = .ok (.aload_n 0, 1) := by decide +kernel
theorem dX5_number_1 : decode cX5_number 1 = .ok (.aload_n 0, 1) := by decide +kernel
theorem dX5_number_2 : decode cX5_number 2 = .ok (.getfield 55, 3) := by decide +kernel
theorem dX5_number_5 : decode cX5_number 5 = .ok (.invokevirtual 58, 3) := by decide +kernel
theorem dX5_number_8 : decode cX5_number 8 = .ok (.invokestatic 62, 3) := by decide +kernel
theorem dX5_number_11 : decode cX5_number 11 = .ok (.ifCond .ne 5, 3) := by decide +kernel
theorem dX5_number_14 : decode cX5_number 14 = .ok (.iconst (-1), 1) := by decide +kernel
theorem dX5_number_15 : decode cX5_number 15 = .ok (.ireturn, 1) := by decide +kernel
theorem dX5_number_16 : decode cX5_number 16 = .ok (.aload_n 0, 1) := by decide +kernel
theorem dX5_number_17 : decode cX5_number 17 = .ok (.aload_n 0, 1) := by decide +kernel
theorem dX5_number_18 : decode cX5_number 18 = .ok (.getfield 55, 3) := by decide +kernel
theorem dX5_number_21 : decode cX5_number 21 = .ok (.invokevirtual 58, 3) := by decide +kernel
theorem dX5_number_24 : decode cX5_number 24 = .ok (.bipush 48, 2) := by decide +kernel
theorem dX5_number_26 : decode cX5_number 26 = .ok (.isub, 1) := by decide +kernel
theorem dX5_number_27 : decode cX5_number 27 = .ok (.istore 4, 2) := by decide +kernel
theorem dX5_number_29 : decode cX5_number 29 = .ok (.aload_n 0, 1) := by decide +kernel
theorem dX5_number_30 : decode cX5_number 30 = .ok (.dup, 1) := by decide +kernel
theorem dX5_number_31 : decode cX5_number 31 = .ok (.getfield 55, 3) := by decide +kernel
theorem dX5_number_34 : decode cX5_number 34 = .ok (.iconst 1, 1) := by decide +kernel
theorem dX5_number_35 : decode cX5_number 35 = .ok (.iadd, 1) := by decide +kernel
theorem dX5_number_36 : decode cX5_number 36 = .ok (.putfield 55, 3) := by decide +kernel
theorem dX5_number_39 : decode cX5_number 39 = .ok (.aload_n 0, 1) := by decide +kernel
theorem dX5_number_40 : decode cX5_number 40 = .ok (.aload_n 0, 1) := by decide +kernel
theorem dX5_number_41 : decode cX5_number 41 = .ok (.getfield 55, 3) := by decide +kernel
theorem dX5_number_44 : decode cX5_number 44 = .ok (.invokevirtual 58, 3) := by decide +kernel
theorem dX5_number_47 : decode cX5_number 47 = .ok (.invokestatic 62, 3) := by decide +kernel
theorem dX5_number_50 : decode cX5_number 50 = .ok (.ifCond .eq 32, 3) := by decide +kernel
theorem dX5_number_53 : decode cX5_number 53 = .ok (.bipush 10, 2) := by decide +kernel
theorem dX5_number_55 : decode cX5_number 55 = .ok (.iload 4, 2) := by decide +kernel
theorem dX5_number_57 : decode cX5_number 57 = .ok (.imul, 1) := by decide +kernel
theorem dX5_number_58 : decode cX5_number 58 = .ok (.aload_n 0, 1) := by decide +kernel
theorem dX5_number_59 : decode cX5_number 59 = .ok (.aload_n 0, 1) := by decide +kernel
theorem dX5_number_60 : decode cX5_number 60 = .ok (.getfield 55, 3) := by decide +kernel
theorem dX5_number_63 : decode cX5_number 63 = .ok (.invokevirtual 58, 3) := by decide +kernel
theorem dX5_number_66 : decode cX5_number 66 = .ok (.iadd, 1) := by decide +kernel
theorem dX5_number_67 : decode cX5_number 67 = .ok (.bipush 48, 2) := by decide +kernel
theorem dX5_number_69 : decode cX5_number 69 = .ok (.isub, 1) := by decide +kernel
theorem dX5_number_70 : decode cX5_number 70 = .ok (.istore 4, 2) := by decide +kernel
theorem dX5_number_72 : decode cX5_number 72 = .ok (.aload_n 0, 1) := by decide +kernel
theorem dX5_number_73 : decode cX5_number 73 = .ok (.dup, 1) := by decide +kernel
theorem dX5_number_74 : decode cX5_number 74 = .ok (.getfield 55, 3) := by decide +kernel
theorem dX5_number_77 : decode cX5_number 77 = .ok (.iconst 1, 1) := by decide +kernel
theorem dX5_number_78 : decode cX5_number 78 = .ok (.iadd, 1) := by decide +kernel
theorem dX5_number_79 : decode cX5_number 79 = .ok (.putfield 55, 3) := by decide +kernel
theorem dX5_number_82 : decode cX5_number 82 = .ok (.aload_n 0, 1) := by decide +kernel
theorem dX5_number_83 : decode cX5_number 83 = .ok (.aload_n 0, 1) := by decide +kernel
theorem dX5_number_84 : decode cX5_number 84 = .ok (.getfield 55, 3) := by decide +kernel
theorem dX5_number_87 : decode cX5_number 87 = .ok (.invokevirtual 58, 3) := by decide +kernel
theorem dX5_number_90 : decode cX5_number 90 = .ok (.iload_n 3, 1) := by decide +kernel
theorem dX5_number_91 : decode cX5_number 91 = .ok (.if_icmp .ne 17, 3) := by decide +kernel
theorem dX5_number_94 : decode cX5_number 94 = .ok (.iload 4, 2) := by decide +kernel
theorem dX5_number_96 : decode cX5_number 96 = .ok (.iload_n 1, 1) := by decide +kernel
theorem dX5_number_97 : decode cX5_number 97 = .ok (.iload_n 2, 1) := by decide +kernel
theorem dX5_number_98 : decode cX5_number 98 = .ok (.invokestatic 47, 3) := by decide +kernel
theorem dX5_number_101 : decode cX5_number 101 = .ok (.ifCond .eq 7, 3) := by decide +kernel
theorem dX5_number_104 : decode cX5_number 104 = .ok (.iconst 1, 1) := by decide +kernel
theorem dX5_number_105 : decode cX5_number 105 = .ok (.goto 4, 3) := by decide +kernel
theorem dX5_number_108 : decode cX5_number 108 = .ok (.iconst 0, 1) := by decide +kernel
theorem dX5_number_109 : decode cX5_number 109 = .ok (.istore 5, 2) := by decide +kernel
theorem dX5_number_111 : decode cX5_number 111 = .ok (.aload_n 0, 1) := by decide +kernel
theorem dX5_number_112 : decode cX5_number 112 = .ok (.dup, 1) := by decide +kernel
theorem dX5_number_113 : decode cX5_number 113 = .ok (.getfield 55, 3) := by decide +kernel
theorem dX5_number_116 : decode cX5_number 116 = .ok (.iconst 1, 1) := by decide +kernel
theorem dX5_number_117 : decode cX5_number 117 = .ok (.iadd, 1) := by decide +kernel
theorem dX5_number_118 : decode cX5_number 118 = .ok (.putfield 55, 3) := by decide +kernel
theorem dX5_number_121 : decode cX5_number 121 = .ok (.iload 5, 2) := by decide +kernel
theorem dX5_number_123 : decode cX5_number 123 = .ok (.ifCond .eq 8, 3) := by decide +kernel
theorem dX5_number_126 : decode cX5_number 126 = .ok (.iload 4, 2) := by decide +kernel
theorem dX5_number_128 : decode cX5_number 128 = .ok (.goto 4, 3) := by decide +kernel
theorem dX5_number_131 : decode cX5_number 131 = .ok (.iconst (-1), 1) := by decide +kernel
theorem dX5_number_132 : decode cX5_number 132 = .ok (.ireturn, 1) := by decide +kernel
theorem dX5_begins_0 : decode cX5_begins 0 = .ok (.aload_n 0, 1) := by decide +kernel
theorem dX5_begins_1 : decode cX5_begins 1 = .ok (.getfield 13, 3) := by decide +kernel
theorem dX5_begins_4 : decode cX5_begins 4 = .ok (.iconst 0, 1) := by decide +kernel
theorem dX5_begins_5 : decode cX5_begins 5 = .ok (.bipush 10, 2) := by decide +kernel
theorem dX5_begins_7 : decode cX5_begins 7 = .ok (.iastore, 1) := by decide +kernel
theorem dX5_begins_8 : decode cX5_begins 8 = .ok (.aload_n 0, 1) := by decide +kernel
theorem dX5_begins_9 : decode cX5_begins 9 = .ok (.getfield 13, 3) := by decide +kernel
theorem dX5_begins_12 : decode cX5_begins 12 = .ok (.iconst 1, 1) := by decide +kernel
theorem dX5_begins_13 : decode cX5_begins 13 = .ok (.bipush 10, 2) := by decide +kernel
theorem dX5_begins_15 : decode cX5_begins 15 = .ok (.iastore, 1) := by decide +kernel
theorem dX5_begins_16 : decode cX5_begins 16 = .ok (.aload_n 0, 1) := by decide +kernel
theorem dX5_begins_17 : decode cX5_begins 17 = .ok (.getfield 13, 3) := by decide +kernel
theorem dX5_begins_20 : decode cX5_begins 20 = .ok (.iconst 2, 1) := by decide +kernel
theorem dX5_begins_21 : decode cX5_begins 21 = .ok (.iconst 2, 1) := by decide +kernel
theorem dX5_begins_22 : decode cX5_begins 22 = .ok (.iastore, 1) := by decide +kernel
theorem dX5_begins_23 : decode cX5_begins 23 = .ok (.aload_n 0, 1) := by decide +kernel
theorem dX5_begins_24 : decode cX5_begins 24 = .ok (.getfield 13, 3) := by decide +kernel
theorem dX5_begins_27 : decode cX5_begins 27 = .ok (.iconst 3, 1) := by decide +kernel
theorem dX5_begins_28 : decode cX5_begins 28 = .ok (.iconst 0, 1) := by decide +kernel
theorem dX5_begins_29 : decode cX5_begins 29 = .ok (.iastore, 1) := by decide +kernel
theorem dX5_begins_30 : decode cX5_begins 30 = .ok (.aload_n 0, 1) := by decide +kernel
theorem dX5_begins_31 : decode cX5_begins 31 = .ok (.getfield 13, 3) := by decide +kernel
theorem dX5_begins_34 : decode cX5_begins 34 = .ok (.iconst 4, 1) := by decide +kernel
theorem dX5_begins_35 : decode cX5_begins 35 = .ok (.iconst 2, 1) := by decide +kernel
theorem dX5_begins_36 : decode cX5_begins 36 = .ok (.iastore, 1) := by decide +kernel
theorem dX5_begins_37 : decode cX5_begins 37 = .ok (.aload_n 0, 1) := by decide +kernel
theorem dX5_begins_38 : decode cX5_begins 38 = .ok (.getfield 13, 3) := by decide +kernel
theorem dX5_begins_41 : decode cX5_begins 41 = .ok (.iconst 5, 1) := by decide +kernel
theorem dX5_begins_42 : decode cX5_begins 42 = .ok (.iconst 3, 1) := by decide +kernel
theorem dX5_begins_43 : decode cX5_begins 43 = .ok (.iastore, 1) := by decide +kernel
theorem dX5_begins_44 : decode cX5_begins 44 = .ok (.return_, 1) := by decide +kernel
theorem dX5_readsTwo_0 : decode cX5_readsTwo 0 = .ok (.aload_n 0, 1) := by decide +kernel
theorem dX5_readsTwo_1 : decode cX5_readsTwo 1 = .ok (.getfield 13, 3) := by decide +kernel
theorem dX5_readsTwo_4 : decode cX5_readsTwo 4 = .ok (.iload_n 1, 1) := by decide +kernel
theorem dX5_readsTwo_5 : decode cX5_readsTwo 5 = .ok (.aload_n 0, 1) := by decide +kernel
theorem dX5_readsTwo_6 : decode cX5_readsTwo 6 = .ok (.iconst 0, 1) := by decide +kernel
theorem dX5_readsTwo_7 : decode cX5_readsTwo 7 = .ok (.iload_n 2, 1) := by decide +kernel
theorem dX5_readsTwo_8 : decode cX5_readsTwo 8 = .ok (.bipush 44, 2) := by decide +kernel
theorem dX5_readsTwo_10 : decode cX5_readsTwo 10 = .ok (.invokevirtual 66, 3) := by decide +kernel
theorem dX5_readsTwo_13 : decode cX5_readsTwo 13 = .ok (.iastore, 1) := by decide +kernel
theorem dX5_readsTwo_14 : decode cX5_readsTwo 14 = .ok (.aload_n 0, 1) := by decide +kernel
theorem dX5_readsTwo_15 : decode cX5_readsTwo 15 = .ok (.getfield 13, 3) := by decide +kernel
theorem dX5_readsTwo_18 : decode cX5_readsTwo 18 = .ok (.iload_n 1, 1) := by decide +kernel
theorem dX5_readsTwo_19 : decode cX5_readsTwo 19 = .ok (.iconst 1, 1) := by decide +kernel
theorem dX5_readsTwo_20 : decode cX5_readsTwo 20 = .ok (.iadd, 1) := by decide +kernel
theorem dX5_readsTwo_21 : decode cX5_readsTwo 21 = .ok (.aload_n 0, 1) := by decide +kernel
theorem dX5_readsTwo_22 : decode cX5_readsTwo 22 = .ok (.getfield 13, 3) := by decide +kernel
theorem dX5_readsTwo_25 : decode cX5_readsTwo 25 = .ok (.iload_n 1, 1) := by decide +kernel
theorem dX5_readsTwo_26 : decode cX5_readsTwo 26 = .ok (.iaload, 1) := by decide +kernel
theorem dX5_readsTwo_27 : decode cX5_readsTwo 27 = .ok (.ifCond .ge 7, 3) := by decide +kernel
theorem dX5_readsTwo_30 : decode cX5_readsTwo 30 = .ok (.iconst (-1), 1) := by decide +kernel
theorem dX5_readsTwo_31 : decode cX5_readsTwo 31 = .ok (.goto 11, 3) := by decide +kernel
theorem dX5_readsTwo_34 : decode cX5_readsTwo 34 = .ok (.aload_n 0, 1) := by decide +kernel
theorem dX5_readsTwo_35 : decode cX5_readsTwo 35 = .ok (.iconst 0, 1) := by decide +kernel
theorem dX5_readsTwo_36 : decode cX5_readsTwo 36 = .ok (.iload_n 3, 1) := by decide +kernel
theorem dX5_readsTwo_37 : decode cX5_readsTwo 37 = .ok (.bipush 59, 2) := by decide +kernel
theorem dX5_readsTwo_39 : decode cX5_readsTwo 39 = .ok (.invokevirtual 66, 3) := by decide +kernel
theorem dX5_readsTwo_42 : decode cX5_readsTwo 42 = .ok (.iastore, 1) := by decide +kernel
theorem dX5_readsTwo_43 : decode cX5_readsTwo 43 = .ok (.aload_n 0, 1) := by decide +kernel
theorem dX5_readsTwo_44 : decode cX5_readsTwo 44 = .ok (.getfield 13, 3) := by decide +kernel
theorem dX5_readsTwo_47 : decode cX5_readsTwo 47 = .ok (.iload_n 1, 1) := by decide +kernel
theorem dX5_readsTwo_48 : decode cX5_readsTwo 48 = .ok (.iconst 1, 1) := by decide +kernel
theorem dX5_readsTwo_49 : decode cX5_readsTwo 49 = .ok (.iadd, 1) := by decide +kernel
theorem dX5_readsTwo_50 : decode cX5_readsTwo 50 = .ok (.iaload, 1) := by decide +kernel
theorem dX5_readsTwo_51 : decode cX5_readsTwo 51 = .ok (.ifCond .lt 7, 3) := by decide +kernel
theorem dX5_readsTwo_54 : decode cX5_readsTwo 54 = .ok (.iconst 1, 1) := by decide +kernel
theorem dX5_readsTwo_55 : decode cX5_readsTwo 55 = .ok (.goto 4, 3) := by decide +kernel
theorem dX5_readsTwo_58 : decode cX5_readsTwo 58 = .ok (.iconst 0, 1) := by decide +kernel
theorem dX5_readsTwo_59 : decode cX5_readsTwo 59 = .ok (.ireturn, 1) := by decide +kernel
theorem dX5_readsItem_0 : decode cX5_readsItem 0 = .ok (.iload_n 1, 1) := by decide +kernel
theorem dX5_readsItem_1 : decode cX5_readsItem 1 = .ok (.lookupswitch 120 #[(98, 43), (101, 90), (104, 53), (108, 61)], 43) := by decide +kernel
theorem dX5_readsItem_44 : decode cX5_readsItem 44 = .ok (.aload_n 0, 1) := by decide +kernel
theorem dX5_readsItem_45 : decode cX5_readsItem 45 = .ok (.iconst 0, 1) := by decide +kernel
theorem dX5_readsItem_46 : decode cX5_readsItem 46 = .ok (.bipush 10, 2) := by decide +kernel
theorem dX5_readsItem_48 : decode cX5_readsItem 48 = .ok (.bipush 10, 2) := by decide +kernel
theorem dX5_readsItem_50 : decode cX5_readsItem 50 = .ok (.invokevirtual 70, 3) := by decide +kernel
theorem dX5_readsItem_53 : decode cX5_readsItem 53 = .ok (.ireturn, 1) := by decide +kernel
theorem dX5_readsItem_54 : decode cX5_readsItem 54 = .ok (.aload_n 0, 1) := by decide +kernel
theorem dX5_readsItem_55 : decode cX5_readsItem 55 = .ok (.iconst 3, 1) := by decide +kernel
theorem dX5_readsItem_56 : decode cX5_readsItem 56 = .ok (.iconst 3, 1) := by decide +kernel
theorem dX5_readsItem_57 : decode cX5_readsItem 57 = .ok (.iconst 4, 1) := by decide +kernel
theorem dX5_readsItem_58 : decode cX5_readsItem 58 = .ok (.invokevirtual 70, 3) := by decide +kernel
theorem dX5_readsItem_61 : decode cX5_readsItem 61 = .ok (.ireturn, 1) := by decide +kernel
theorem dX5_readsItem_62 : decode cX5_readsItem 62 = .ok (.aload_n 0, 1) := by decide +kernel
theorem dX5_readsItem_63 : decode cX5_readsItem 63 = .ok (.getfield 13, 3) := by decide +kernel
theorem dX5_readsItem_66 : decode cX5_readsItem 66 = .ok (.iconst 2, 1) := by decide +kernel
theorem dX5_readsItem_67 : decode cX5_readsItem 67 = .ok (.aload_n 0, 1) := by decide +kernel
theorem dX5_readsItem_68 : decode cX5_readsItem 68 = .ok (.iconst 0, 1) := by decide +kernel
theorem dX5_readsItem_69 : decode cX5_readsItem 69 = .ok (.iconst 1, 1) := by decide +kernel
theorem dX5_readsItem_70 : decode cX5_readsItem 70 = .ok (.bipush 59, 2) := by decide +kernel
theorem dX5_readsItem_72 : decode cX5_readsItem 72 = .ok (.invokevirtual 66, 3) := by decide +kernel
theorem dX5_readsItem_75 : decode cX5_readsItem 75 = .ok (.iastore, 1) := by decide +kernel
theorem dX5_readsItem_76 : decode cX5_readsItem 76 = .ok (.aload_n 0, 1) := by decide +kernel
theorem dX5_readsItem_77 : decode cX5_readsItem 77 = .ok (.getfield 13, 3) := by decide +kernel
theorem dX5_readsItem_80 : decode cX5_readsItem 80 = .ok (.iconst 2, 1) := by decide +kernel
theorem dX5_readsItem_81 : decode cX5_readsItem 81 = .ok (.iaload, 1) := by decide +kernel
theorem dX5_readsItem_82 : decode cX5_readsItem 82 = .ok (.ifCond .lt 7, 3) := by decide +kernel
theorem dX5_readsItem_85 : decode cX5_readsItem 85 = .ok (.iconst 1, 1) := by decide +kernel
theorem dX5_readsItem_86 : decode cX5_readsItem 86 = .ok (.goto 4, 3) := by decide +kernel
theorem dX5_readsItem_89 : decode cX5_readsItem 89 = .ok (.iconst 0, 1) := by decide +kernel
theorem dX5_readsItem_90 : decode cX5_readsItem 90 = .ok (.ireturn, 1) := by decide +kernel
theorem dX5_readsItem_91 : decode cX5_readsItem 91 = .ok (.aload_n 0, 1) := by decide +kernel
theorem dX5_readsItem_92 : decode cX5_readsItem 92 = .ok (.getfield 13, 3) := by decide +kernel
theorem dX5_readsItem_95 : decode cX5_readsItem 95 = .ok (.iconst 5, 1) := by decide +kernel
theorem dX5_readsItem_96 : decode cX5_readsItem 96 = .ok (.aload_n 0, 1) := by decide +kernel
theorem dX5_readsItem_97 : decode cX5_readsItem 97 = .ok (.iconst 1, 1) := by decide +kernel
theorem dX5_readsItem_98 : decode cX5_readsItem 98 = .ok (.bipush 9, 2) := by decide +kernel
theorem dX5_readsItem_100 : decode cX5_readsItem 100 = .ok (.bipush 59, 2) := by decide +kernel
theorem dX5_readsItem_102 : decode cX5_readsItem 102 = .ok (.invokevirtual 66, 3) := by decide +kernel
theorem dX5_readsItem_105 : decode cX5_readsItem 105 = .ok (.iastore, 1) := by decide +kernel
theorem dX5_readsItem_106 : decode cX5_readsItem 106 = .ok (.aload_n 0, 1) := by decide +kernel
theorem dX5_readsItem_107 : decode cX5_readsItem 107 = .ok (.getfield 13, 3) := by decide +kernel
theorem dX5_readsItem_110 : decode cX5_readsItem 110 = .ok (.iconst 5, 1) := by decide +kernel
theorem dX5_readsItem_111 : decode cX5_readsItem 111 = .ok (.iaload, 1) := by decide +kernel
theorem dX5_readsItem_112 : decode cX5_readsItem 112 = .ok (.ifCond .le 7, 3) := by decide +kernel
theorem dX5_readsItem_115 : decode cX5_readsItem 115 = .ok (.iconst 1, 1) := by decide +kernel
theorem dX5_readsItem_116 : decode cX5_readsItem 116 = .ok (.goto 4, 3) := by decide +kernel
theorem dX5_readsItem_119 : decode cX5_readsItem 119 = .ok (.iconst 0, 1) := by decide +kernel
theorem dX5_readsItem_120 : decode cX5_readsItem 120 = .ok (.ireturn, 1) := by decide +kernel
theorem dX5_readsItem_121 : decode cX5_readsItem 121 = .ok (.iconst 0, 1) := by decide +kernel
theorem dX5_readsItem_122 : decode cX5_readsItem 122 = .ok (.ireturn, 1) := by decide +kernel
theorem dX5_readsAll_0 : decode cX5_readsAll 0 = .ok (.aload_n 0, 1) := by decide +kernel
theorem dX5_readsAll_1 : decode cX5_readsAll 1 = .ok (.invokevirtual 41, 3) := by decide +kernel
theorem dX5_readsAll_4 : decode cX5_readsAll 4 = .ok (.aload_n 0, 1) := by decide +kernel
theorem dX5_readsAll_5 : decode cX5_readsAll 5 = .ok (.iconst 0, 1) := by decide +kernel
theorem dX5_readsAll_6 : decode cX5_readsAll 6 = .ok (.putfield 55, 3) := by decide +kernel
theorem dX5_readsAll_9 : decode cX5_readsAll 9 = .ok (.aload_n 0, 1) := by decide +kernel
theorem dX5_readsAll_10 : decode cX5_readsAll 10 = .ok (.getfield 55, 3) := by decide +kernel
theorem dX5_readsAll_13 : decode cX5_readsAll 13 = .ok (.aload_n 0, 1) := by decide +kernel
theorem dX5_readsAll_14 : decode cX5_readsAll 14 = .ok (.getfield 51, 3) := by decide +kernel
theorem dX5_readsAll_17 : decode cX5_readsAll 17 = .ok (.if_icmp .ge 36, 3) := by decide +kernel
theorem dX5_readsAll_20 : decode cX5_readsAll 20 = .ok (.aload_n 0, 1) := by decide +kernel
theorem dX5_readsAll_21 : decode cX5_readsAll 21 = .ok (.getfield 55, 3) := by decide +kernel
theorem dX5_readsAll_24 : decode cX5_readsAll 24 = .ok (.istore_n 1, 1) := by decide +kernel
theorem dX5_readsAll_25 : decode cX5_readsAll 25 = .ok (.aload_n 0, 1) := by decide +kernel
theorem dX5_readsAll_26 : decode cX5_readsAll 26 = .ok (.dup, 1) := by decide +kernel
theorem dX5_readsAll_27 : decode cX5_readsAll 27 = .ok (.getfield 55, 3) := by decide +kernel
theorem dX5_readsAll_30 : decode cX5_readsAll 30 = .ok (.iconst 1, 1) := by decide +kernel
theorem dX5_readsAll_31 : decode cX5_readsAll 31 = .ok (.iadd, 1) := by decide +kernel
theorem dX5_readsAll_32 : decode cX5_readsAll 32 = .ok (.putfield 55, 3) := by decide +kernel
theorem dX5_readsAll_35 : decode cX5_readsAll 35 = .ok (.aload_n 0, 1) := by decide +kernel
theorem dX5_readsAll_36 : decode cX5_readsAll 36 = .ok (.aload_n 0, 1) := by decide +kernel
theorem dX5_readsAll_37 : decode cX5_readsAll 37 = .ok (.getfield 7, 3) := by decide +kernel
theorem dX5_readsAll_40 : decode cX5_readsAll 40 = .ok (.iload_n 1, 1) := by decide +kernel
theorem dX5_readsAll_41 : decode cX5_readsAll 41 = .ok (.iaload, 1) := by decide +kernel
theorem dX5_readsAll_42 : decode cX5_readsAll 42 = .ok (.invokevirtual 73, 3) := by decide +kernel
theorem dX5_readsAll_45 : decode cX5_readsAll 45 = .ok (.ifCond .ne 5, 3) := by decide +kernel
theorem dX5_readsAll_48 : decode cX5_readsAll 48 = .ok (.iload_n 1, 1) := by decide +kernel
theorem dX5_readsAll_49 : decode cX5_readsAll 49 = .ok (.ireturn, 1) := by decide +kernel
theorem dX5_readsAll_50 : decode cX5_readsAll 50 = .ok (.goto (-41), 3) := by decide +kernel
theorem dX5_readsAll_53 : decode cX5_readsAll 53 = .ok (.bipush (-4), 2) := by decide +kernel
theorem dX5_readsAll_55 : decode cX5_readsAll 55 = .ok (.ireturn, 1) := by decide +kernel
theorem dX5_fault_0 : decode cX5_fault 0 = .ok (.aload_n 0, 1) := by decide +kernel
theorem dX5_fault_1 : decode cX5_fault 1 = .ok (.invokevirtual 76, 3) := by decide +kernel
theorem dX5_fault_4 : decode cX5_fault 4 = .ok (.ireturn, 1) := by decide +kernel
theorem dX5_lays_0 : decode cX5_lays 0 = .ok (.iconst 0, 1) := by decide +kernel
theorem dX5_lays_1 : decode cX5_lays 1 = .ok (.istore_n 1, 1) := by decide +kernel
theorem dX5_lays_2 : decode cX5_lays 2 = .ok (.iload_n 1, 1) := by decide +kernel
theorem dX5_lays_3 : decode cX5_lays 3 = .ok (.iconst 5, 1) := by decide +kernel
theorem dX5_lays_4 : decode cX5_lays 4 = .ok (.if_icmp .ge 21, 3) := by decide +kernel
theorem dX5_lays_7 : decode cX5_lays 7 = .ok (.aload_n 0, 1) := by decide +kernel
theorem dX5_lays_8 : decode cX5_lays 8 = .ok (.getfield 16, 3) := by decide +kernel
theorem dX5_lays_11 : decode cX5_lays 11 = .ok (.iload_n 1, 1) := by decide +kernel
theorem dX5_lays_12 : decode cX5_lays 12 = .ok (.aload_n 0, 1) := by decide +kernel
theorem dX5_lays_13 : decode cX5_lays 13 = .ok (.getfield 13, 3) := by decide +kernel
theorem dX5_lays_16 : decode cX5_lays 16 = .ok (.iload_n 1, 1) := by decide +kernel
theorem dX5_lays_17 : decode cX5_lays 17 = .ok (.iaload, 1) := by decide +kernel
theorem dX5_lays_18 : decode cX5_lays 18 = .ok (.iastore, 1) := by decide +kernel
theorem dX5_lays_19 : decode cX5_lays 19 = .ok (.iinc 1 1, 3) := by decide +kernel
theorem dX5_lays_22 : decode cX5_lays 22 = .ok (.goto (-20), 3) := by decide +kernel
theorem dX5_lays_25 : decode cX5_lays 25 = .ok (.aload_n 0, 1) := by decide +kernel
theorem dX5_lays_26 : decode cX5_lays 26 = .ok (.aload_n 0, 1) := by decide +kernel
theorem dX5_lays_27 : decode cX5_lays 27 = .ok (.getfield 13, 3) := by decide +kernel
theorem dX5_lays_30 : decode cX5_lays 30 = .ok (.iconst 5, 1) := by decide +kernel
theorem dX5_lays_31 : decode cX5_lays 31 = .ok (.iaload, 1) := by decide +kernel
theorem dX5_lays_32 : decode cX5_lays 32 = .ok (.putfield 80, 3) := by decide +kernel
theorem dX5_lays_35 : decode cX5_lays 35 = .ok (.aload_n 0, 1) := by decide +kernel
theorem dX5_lays_36 : decode cX5_lays 36 = .ok (.iconst 0, 1) := by decide +kernel
theorem dX5_lays_37 : decode cX5_lays 37 = .ok (.putfield 83, 3) := by decide +kernel
theorem dX5_lays_40 : decode cX5_lays 40 = .ok (.aload_n 0, 1) := by decide +kernel
theorem dX5_lays_41 : decode cX5_lays 41 = .ok (.iconst 0, 1) := by decide +kernel
theorem dX5_lays_42 : decode cX5_lays 42 = .ok (.putfield 86, 3) := by decide +kernel
theorem dX5_lays_45 : decode cX5_lays 45 = .ok (.aload_n 0, 1) := by decide +kernel
theorem dX5_lays_46 : decode cX5_lays 46 = .ok (.iconst 0, 1) := by decide +kernel
theorem dX5_lays_47 : decode cX5_lays 47 = .ok (.putfield 89, 3) := by decide +kernel
theorem dX5_lays_50 : decode cX5_lays 50 = .ok (.return_, 1) := by decide +kernel
theorem dX5_lay_0 : decode cX5_lay 0 = .ok (.aload_n 0, 1) := by decide +kernel
theorem dX5_lay_1 : decode cX5_lay 1 = .ok (.invokevirtual 76, 3) := by decide +kernel
theorem dX5_lay_4 : decode cX5_lay 4 = .ok (.bipush (-4), 2) := by decide +kernel
theorem dX5_lay_6 : decode cX5_lay 6 = .ok (.if_icmp .eq 6, 3) := by decide +kernel
theorem dX5_lay_9 : decode cX5_lay 9 = .ok (.bipush (-2), 2) := by decide +kernel
theorem dX5_lay_11 : decode cX5_lay 11 = .ok (.ireturn, 1) := by decide +kernel
theorem dX5_lay_12 : decode cX5_lay 12 = .ok (.aload_n 0, 1) := by decide +kernel
theorem dX5_lay_13 : decode cX5_lay 13 = .ok (.invokevirtual 44, 3) := by decide +kernel
theorem dX5_lay_16 : decode cX5_lay 16 = .ok (.aload_n 0, 1) := by decide +kernel
theorem dX5_lay_17 : decode cX5_lay 17 = .ok (.getfield 16, 3) := by decide +kernel
theorem dX5_lay_20 : decode cX5_lay 20 = .ok (.iconst 0, 1) := by decide +kernel
theorem dX5_lay_21 : decode cX5_lay 21 = .ok (.iaload, 1) := by decide +kernel
theorem dX5_lay_22 : decode cX5_lay 22 = .ok (.aload_n 0, 1) := by decide +kernel
theorem dX5_lay_23 : decode cX5_lay 23 = .ok (.getfield 16, 3) := by decide +kernel
theorem dX5_lay_26 : decode cX5_lay 26 = .ok (.iconst 1, 1) := by decide +kernel
theorem dX5_lay_27 : decode cX5_lay 27 = .ok (.iaload, 1) := by decide +kernel
theorem dX5_lay_28 : decode cX5_lay 28 = .ok (.iadd, 1) := by decide +kernel
theorem dX5_lay_29 : decode cX5_lay 29 = .ok (.ireturn, 1) := by decide +kernel
theorem dX5_box_0 : decode cX5_box 0 = .ok (.iload_n 1, 1) := by decide +kernel
theorem dX5_box_1 : decode cX5_box 1 = .ok (.iconst 0, 1) := by decide +kernel
theorem dX5_box_2 : decode cX5_box 2 = .ok (.iconst 1, 1) := by decide +kernel
theorem dX5_box_3 : decode cX5_box 3 = .ok (.invokestatic 47, 3) := by decide +kernel
theorem dX5_box_6 : decode cX5_box 6 = .ok (.ifCond .eq 12, 3) := by decide +kernel
theorem dX5_box_9 : decode cX5_box 9 = .ok (.aload_n 0, 1) := by decide +kernel
theorem dX5_box_10 : decode cX5_box 10 = .ok (.getfield 16, 3) := by decide +kernel
theorem dX5_box_13 : decode cX5_box 13 = .ok (.iload_n 1, 1) := by decide +kernel
theorem dX5_box_14 : decode cX5_box 14 = .ok (.iaload, 1) := by decide +kernel
theorem dX5_box_15 : decode cX5_box 15 = .ok (.goto 4, 3) := by decide +kernel
theorem dX5_box_18 : decode cX5_box 18 = .ok (.iconst (-1), 1) := by decide +kernel
theorem dX5_box_19 : decode cX5_box 19 = .ok (.ireturn, 1) := by decide +kernel
theorem dX5_toLeft_0 : decode cX5_toLeft 0 = .ok (.iload_n 3, 1) := by decide +kernel
theorem dX5_toLeft_1 : decode cX5_toLeft 1 = .ok (.ifCond .ne 6, 3) := by decide +kernel
theorem dX5_toLeft_4 : decode cX5_toLeft 4 = .ok (.iload 4, 2) := by decide +kernel
theorem dX5_toLeft_6 : decode cX5_toLeft 6 = .ok (.ireturn, 1) := by decide +kernel
theorem dX5_toLeft_7 : decode cX5_toLeft 7 = .ok (.iload_n 3, 1) := by decide +kernel
theorem dX5_toLeft_8 : decode cX5_toLeft 8 = .ok (.iconst 1, 1) := by decide +kernel
theorem dX5_toLeft_9 : decode cX5_toLeft 9 = .ok (.if_icmp .ne 24, 3) := by decide +kernel
theorem dX5_toLeft_12 : decode cX5_toLeft 12 = .ok (.iload_n 2, 1) := by decide +kernel
theorem dX5_toLeft_13 : decode cX5_toLeft 13 = .ok (.ifCond .ne 7, 3) := by decide +kernel
theorem dX5_toLeft_16 : decode cX5_toLeft 16 = .ok (.iconst 1, 1) := by decide +kernel
theorem dX5_toLeft_17 : decode cX5_toLeft 17 = .ok (.goto 35, 3) := by decide +kernel
theorem dX5_toLeft_20 : decode cX5_toLeft 20 = .ok (.iload_n 2, 1) := by decide +kernel
theorem dX5_toLeft_21 : decode cX5_toLeft 21 = .ok (.iconst 1, 1) := by decide +kernel
theorem dX5_toLeft_22 : decode cX5_toLeft 22 = .ok (.if_icmp .ne 7, 3) := by decide +kernel
theorem dX5_toLeft_25 : decode cX5_toLeft 25 = .ok (.iconst (-1), 1) := by decide +kernel
theorem dX5_toLeft_26 : decode cX5_toLeft 26 = .ok (.goto 26, 3) := by decide +kernel
theorem dX5_toLeft_29 : decode cX5_toLeft 29 = .ok (.iconst 0, 1) := by decide +kernel
theorem dX5_toLeft_30 : decode cX5_toLeft 30 = .ok (.goto 22, 3) := by decide +kernel
theorem dX5_toLeft_33 : decode cX5_toLeft 33 = .ok (.iload_n 0, 1) := by decide +kernel
theorem dX5_toLeft_34 : decode cX5_toLeft 34 = .ok (.iload_n 1, 1) := by decide +kernel
theorem dX5_toLeft_35 : decode cX5_toLeft 35 = .ok (.if_icmp .le 7, 3) := by decide +kernel
theorem dX5_toLeft_38 : decode cX5_toLeft 38 = .ok (.iconst 1, 1) := by decide +kernel
theorem dX5_toLeft_39 : decode cX5_toLeft 39 = .ok (.goto 13, 3) := by decide +kernel
theorem dX5_toLeft_42 : decode cX5_toLeft 42 = .ok (.iload_n 0, 1) := by decide +kernel
theorem dX5_toLeft_43 : decode cX5_toLeft 43 = .ok (.iload_n 1, 1) := by decide +kernel
theorem dX5_toLeft_44 : decode cX5_toLeft 44 = .ok (.if_icmp .ge 7, 3) := by decide +kernel
theorem dX5_toLeft_47 : decode cX5_toLeft 47 = .ok (.iconst (-1), 1) := by decide +kernel
theorem dX5_toLeft_48 : decode cX5_toLeft 48 = .ok (.goto 4, 3) := by decide +kernel
theorem dX5_toLeft_51 : decode cX5_toLeft 51 = .ok (.iconst 0, 1) := by decide +kernel
theorem dX5_toLeft_52 : decode cX5_toLeft 52 = .ok (.istore 5, 2) := by decide +kernel
theorem dX5_toLeft_54 : decode cX5_toLeft 54 = .ok (.iload_n 3, 1) := by decide +kernel
theorem dX5_toLeft_55 : decode cX5_toLeft 55 = .ok (.iconst 2, 1) := by decide +kernel
theorem dX5_toLeft_56 : decode cX5_toLeft 56 = .ok (.if_icmp .le 9, 3) := by decide +kernel
theorem dX5_toLeft_59 : decode cX5_toLeft 59 = .ok (.iload 5, 2) := by decide +kernel
theorem dX5_toLeft_61 : decode cX5_toLeft 61 = .ok (.ineg, 1) := by decide +kernel
theorem dX5_toLeft_62 : decode cX5_toLeft 62 = .ok (.goto 5, 3) := by decide +kernel
theorem dX5_toLeft_65 : decode cX5_toLeft 65 = .ok (.iload 5, 2) := by decide +kernel
theorem dX5_toLeft_67 : decode cX5_toLeft 67 = .ok (.istore 5, 2) := by decide +kernel
theorem dX5_toLeft_69 : decode cX5_toLeft 69 = .ok (.iload 5, 2) := by decide +kernel
theorem dX5_toLeft_71 : decode cX5_toLeft 71 = .ok (.ifCond .le 8, 3) := by decide +kernel
theorem dX5_toLeft_74 : decode cX5_toLeft 74 = .ok (.iload 4, 2) := by decide +kernel
theorem dX5_toLeft_76 : decode cX5_toLeft 76 = .ok (.goto 16, 3) := by decide +kernel
theorem dX5_toLeft_79 : decode cX5_toLeft 79 = .ok (.iload 5, 2) := by decide +kernel
theorem dX5_toLeft_81 : decode cX5_toLeft 81 = .ok (.ifCond .ge 10, 3) := by decide +kernel
theorem dX5_toLeft_84 : decode cX5_toLeft 84 = .ok (.iconst 4, 1) := by decide +kernel
theorem dX5_toLeft_85 : decode cX5_toLeft 85 = .ok (.iload 4, 2) := by decide +kernel
theorem dX5_toLeft_87 : decode cX5_toLeft 87 = .ok (.isub, 1) := by decide +kernel
theorem dX5_toLeft_88 : decode cX5_toLeft 88 = .ok (.goto 4, 3) := by decide +kernel
theorem dX5_toLeft_91 : decode cX5_toLeft 91 = .ok (.iconst 2, 1) := by decide +kernel
theorem dX5_toLeft_92 : decode cX5_toLeft 92 = .ok (.ireturn, 1) := by decide +kernel
theorem dX5_quarters_0 : decode cX5_quarters 0 = .ok (.iload_n 1, 1) := by decide +kernel
theorem dX5_quarters_1 : decode cX5_quarters 1 = .ok (.iconst 0, 1) := by decide +kernel
theorem dX5_quarters_2 : decode cX5_quarters 2 = .ok (.iconst 1, 1) := by decide +kernel
theorem dX5_quarters_3 : decode cX5_quarters 3 = .ok (.invokestatic 47, 3) := by decide +kernel
theorem dX5_quarters_6 : decode cX5_quarters 6 = .ok (.ifCond .ne 5, 3) := by decide +kernel
theorem dX5_quarters_9 : decode cX5_quarters 9 = .ok (.iconst (-1), 1) := by decide +kernel
theorem dX5_quarters_10 : decode cX5_quarters 10 = .ok (.ireturn, 1) := by decide +kernel
theorem dX5_quarters_11 : decode cX5_quarters 11 = .ok (.aload_n 0, 1) := by decide +kernel
theorem dX5_quarters_12 : decode cX5_quarters 12 = .ok (.getfield 16, 3) := by decide +kernel
theorem dX5_quarters_15 : decode cX5_quarters 15 = .ok (.iconst 0, 1) := by decide +kernel
theorem dX5_quarters_16 : decode cX5_quarters 16 = .ok (.iaload, 1) := by decide +kernel
theorem dX5_quarters_17 : decode cX5_quarters 17 = .ok (.aload_n 0, 1) := by decide +kernel
theorem dX5_quarters_18 : decode cX5_quarters 18 = .ok (.getfield 16, 3) := by decide +kernel
theorem dX5_quarters_21 : decode cX5_quarters 21 = .ok (.iconst 1, 1) := by decide +kernel
theorem dX5_quarters_22 : decode cX5_quarters 22 = .ok (.iaload, 1) := by decide +kernel
theorem dX5_quarters_23 : decode cX5_quarters 23 = .ok (.aload_n 0, 1) := by decide +kernel
theorem dX5_quarters_24 : decode cX5_quarters 24 = .ok (.getfield 16, 3) := by decide +kernel
theorem dX5_quarters_27 : decode cX5_quarters 27 = .ok (.iconst 2, 1) := by decide +kernel
theorem dX5_quarters_28 : decode cX5_quarters 28 = .ok (.iaload, 1) := by decide +kernel
theorem dX5_quarters_29 : decode cX5_quarters 29 = .ok (.aload_n 0, 1) := by decide +kernel
theorem dX5_quarters_30 : decode cX5_quarters 30 = .ok (.getfield 16, 3) := by decide +kernel
theorem dX5_quarters_33 : decode cX5_quarters 33 = .ok (.iconst 3, 1) := by decide +kernel
theorem dX5_quarters_34 : decode cX5_quarters 34 = .ok (.iaload, 1) := by decide +kernel
theorem dX5_quarters_35 : decode cX5_quarters 35 = .ok (.aload_n 0, 1) := by decide +kernel
theorem dX5_quarters_36 : decode cX5_quarters 36 = .ok (.getfield 16, 3) := by decide +kernel
theorem dX5_quarters_39 : decode cX5_quarters 39 = .ok (.iconst 4, 1) := by decide +kernel
theorem dX5_quarters_40 : decode cX5_quarters 40 = .ok (.iaload, 1) := by decide +kernel
theorem dX5_quarters_41 : decode cX5_quarters 41 = .ok (.invokestatic 92, 3) := by decide +kernel
theorem dX5_quarters_44 : decode cX5_quarters 44 = .ok (.istore_n 2, 1) := by decide +kernel
theorem dX5_quarters_45 : decode cX5_quarters 45 = .ok (.iload_n 1, 1) := by decide +kernel
theorem dX5_quarters_46 : decode cX5_quarters 46 = .ok (.ifCond .ne 7, 3) := by decide +kernel
theorem dX5_quarters_49 : decode cX5_quarters 49 = .ok (.iload_n 2, 1) := by decide +kernel
theorem dX5_quarters_50 : decode cX5_quarters 50 = .ok (.goto 6, 3) := by decide +kernel
theorem dX5_quarters_53 : decode cX5_quarters 53 = .ok (.iconst 4, 1) := by decide +kernel
theorem dX5_quarters_54 : decode cX5_quarters 54 = .ok (.iload_n 2, 1) := by decide +kernel
theorem dX5_quarters_55 : decode cX5_quarters 55 = .ok (.isub, 1) := by decide +kernel
theorem dX5_quarters_56 : decode cX5_quarters 56 = .ok (.ireturn, 1) := by decide +kernel
theorem dX5_keeps_0 : decode cX5_keeps 0 = .ok (.aload_n 0, 1) := by decide +kernel
theorem dX5_keeps_1 : decode cX5_keeps 1 = .ok (.getfield 83, 3) := by decide +kernel
theorem dX5_keeps_4 : decode cX5_keeps 4 = .ok (.bipush 8, 2) := by decide +kernel
theorem dX5_keeps_6 : decode cX5_keeps 6 = .ok (.if_icmp .ne 41, 3) := by decide +kernel
theorem dX5_keeps_9 : decode cX5_keeps 9 = .ok (.iconst 0, 1) := by decide +kernel
theorem dX5_keeps_10 : decode cX5_keeps 10 = .ok (.istore_n 1, 1) := by decide +kernel
theorem dX5_keeps_11 : decode cX5_keeps 11 = .ok (.iload_n 1, 1) := by decide +kernel
theorem dX5_keeps_12 : decode cX5_keeps 12 = .ok (.bipush 35, 2) := by decide +kernel
theorem dX5_keeps_14 : decode cX5_keeps 14 = .ok (.if_icmp .ge 23, 3) := by decide +kernel
theorem dX5_keeps_17 : decode cX5_keeps 17 = .ok (.aload_n 0, 1) := by decide +kernel
theorem dX5_keeps_18 : decode cX5_keeps 18 = .ok (.getfield 19, 3) := by decide +kernel
theorem dX5_keeps_21 : decode cX5_keeps 21 = .ok (.iload_n 1, 1) := by decide +kernel
theorem dX5_keeps_22 : decode cX5_keeps 22 = .ok (.aload_n 0, 1) := by decide +kernel
theorem dX5_keeps_23 : decode cX5_keeps 23 = .ok (.getfield 19, 3) := by decide +kernel
theorem dX5_keeps_26 : decode cX5_keeps 26 = .ok (.iload_n 1, 1) := by decide +kernel
theorem dX5_keeps_27 : decode cX5_keeps 27 = .ok (.iconst 5, 1) := by decide +kernel
theorem dX5_keeps_28 : decode cX5_keeps 28 = .ok (.iadd, 1) := by decide +kernel
theorem dX5_keeps_29 : decode cX5_keeps 29 = .ok (.iaload, 1) := by decide +kernel
theorem dX5_keeps_30 : decode cX5_keeps 30 = .ok (.iastore, 1) := by decide +kernel
theorem dX5_keeps_31 : decode cX5_keeps 31 = .ok (.iinc 1 1, 3) := by decide +kernel
theorem dX5_keeps_34 : decode cX5_keeps 34 = .ok (.goto (-23), 3) := by decide +kernel
theorem dX5_keeps_37 : decode cX5_keeps 37 = .ok (.aload_n 0, 1) := by decide +kernel
theorem dX5_keeps_38 : decode cX5_keeps 38 = .ok (.dup, 1) := by decide +kernel
theorem dX5_keeps_39 : decode cX5_keeps 39 = .ok (.getfield 83, 3) := by decide +kernel
theorem dX5_keeps_42 : decode cX5_keeps 42 = .ok (.iconst 1, 1) := by decide +kernel
theorem dX5_keeps_43 : decode cX5_keeps 43 = .ok (.isub, 1) := by decide +kernel
theorem dX5_keeps_44 : decode cX5_keeps 44 = .ok (.putfield 83, 3) := by decide +kernel
theorem dX5_keeps_47 : decode cX5_keeps 47 = .ok (.iconst 0, 1) := by decide +kernel
theorem dX5_keeps_48 : decode cX5_keeps 48 = .ok (.istore_n 1, 1) := by decide +kernel
theorem dX5_keeps_49 : decode cX5_keeps 49 = .ok (.iload_n 1, 1) := by decide +kernel
theorem dX5_keeps_50 : decode cX5_keeps 50 = .ok (.iconst 5, 1) := by decide +kernel
theorem dX5_keeps_51 : decode cX5_keeps 51 = .ok (.if_icmp .ge 28, 3) := by decide +kernel
theorem dX5_keeps_54 : decode cX5_keeps 54 = .ok (.aload_n 0, 1) := by decide +kernel
theorem dX5_keeps_55 : decode cX5_keeps 55 = .ok (.getfield 19, 3) := by decide +kernel
theorem dX5_keeps_58 : decode cX5_keeps 58 = .ok (.iconst 5, 1) := by decide +kernel
theorem dX5_keeps_59 : decode cX5_keeps 59 = .ok (.aload_n 0, 1) := by decide +kernel
theorem dX5_keeps_60 : decode cX5_keeps 60 = .ok (.getfield 83, 3) := by decide +kernel
theorem dX5_keeps_63 : decode cX5_keeps 63 = .ok (.imul, 1) := by decide +kernel
theorem dX5_keeps_64 : decode cX5_keeps 64 = .ok (.iload_n 1, 1) := by decide +kernel
theorem dX5_keeps_65 : decode cX5_keeps 65 = .ok (.iadd, 1) := by decide +kernel
theorem dX5_keeps_66 : decode cX5_keeps 66 = .ok (.aload_n 0, 1) := by decide +kernel
theorem dX5_keeps_67 : decode cX5_keeps 67 = .ok (.getfield 16, 3) := by decide +kernel
theorem dX5_keeps_70 : decode cX5_keeps 70 = .ok (.iload_n 1, 1) := by decide +kernel
theorem dX5_keeps_71 : decode cX5_keeps 71 = .ok (.iaload, 1) := by decide +kernel
theorem dX5_keeps_72 : decode cX5_keeps 72 = .ok (.iastore, 1) := by decide +kernel
theorem dX5_keeps_73 : decode cX5_keeps 73 = .ok (.iinc 1 1, 3) := by decide +kernel
theorem dX5_keeps_76 : decode cX5_keeps 76 = .ok (.goto (-27), 3) := by decide +kernel
theorem dX5_keeps_79 : decode cX5_keeps 79 = .ok (.aload_n 0, 1) := by decide +kernel
theorem dX5_keeps_80 : decode cX5_keeps 80 = .ok (.dup, 1) := by decide +kernel
theorem dX5_keeps_81 : decode cX5_keeps 81 = .ok (.getfield 83, 3) := by decide +kernel
theorem dX5_keeps_84 : decode cX5_keeps 84 = .ok (.iconst 1, 1) := by decide +kernel
theorem dX5_keeps_85 : decode cX5_keeps 85 = .ok (.iadd, 1) := by decide +kernel
theorem dX5_keeps_86 : decode cX5_keeps 86 = .ok (.putfield 83, 3) := by decide +kernel
theorem dX5_keeps_89 : decode cX5_keeps 89 = .ok (.return_, 1) := by decide +kernel
theorem dX5_reach_0 : decode cX5_reach 0 = .ok (.iload_n 1, 1) := by decide +kernel
theorem dX5_reach_1 : decode cX5_reach 1 = .ok (.iconst 0, 1) := by decide +kernel
theorem dX5_reach_2 : decode cX5_reach 2 = .ok (.iconst 1, 1) := by decide +kernel
theorem dX5_reach_3 : decode cX5_reach 3 = .ok (.invokestatic 47, 3) := by decide +kernel
theorem dX5_reach_6 : decode cX5_reach 6 = .ok (.ifCond .ne 5, 3) := by decide +kernel
theorem dX5_reach_9 : decode cX5_reach 9 = .ok (.iconst (-1), 1) := by decide +kernel
theorem dX5_reach_10 : decode cX5_reach 10 = .ok (.ireturn, 1) := by decide +kernel
theorem dX5_reach_11 : decode cX5_reach 11 = .ok (.aload_n 0, 1) := by decide +kernel
theorem dX5_reach_12 : decode cX5_reach 12 = .ok (.invokevirtual 96, 3) := by decide +kernel
theorem dX5_reach_15 : decode cX5_reach 15 = .ok (.aload_n 0, 1) := by decide +kernel
theorem dX5_reach_16 : decode cX5_reach 16 = .ok (.getfield 16, 3) := by decide +kernel
theorem dX5_reach_19 : decode cX5_reach 19 = .ok (.iconst 2, 1) := by decide +kernel
theorem dX5_reach_20 : decode cX5_reach 20 = .ok (.iload_n 1, 1) := by decide +kernel
theorem dX5_reach_21 : decode cX5_reach 21 = .ok (.iastore, 1) := by decide +kernel
theorem dX5_reach_22 : decode cX5_reach 22 = .ok (.aload_n 0, 1) := by decide +kernel
theorem dX5_reach_23 : decode cX5_reach 23 = .ok (.getfield 16, 3) := by decide +kernel
theorem dX5_reach_26 : decode cX5_reach 26 = .ok (.iload_n 1, 1) := by decide +kernel
theorem dX5_reach_27 : decode cX5_reach 27 = .ok (.iaload, 1) := by decide +kernel
theorem dX5_reach_28 : decode cX5_reach 28 = .ok (.ifCond .ne 6, 3) := by decide +kernel
theorem dX5_reach_31 : decode cX5_reach 31 = .ok (.bipush (-5), 2) := by decide +kernel
theorem dX5_reach_33 : decode cX5_reach 33 = .ok (.ireturn, 1) := by decide +kernel
theorem dX5_reach_34 : decode cX5_reach 34 = .ok (.aload_n 0, 1) := by decide +kernel
theorem dX5_reach_35 : decode cX5_reach 35 = .ok (.getfield 16, 3) := by decide +kernel
theorem dX5_reach_38 : decode cX5_reach 38 = .ok (.iload_n 1, 1) := by decide +kernel
theorem dX5_reach_39 : decode cX5_reach 39 = .ok (.dup2, 1) := by decide +kernel
theorem dX5_reach_40 : decode cX5_reach 40 = .ok (.iaload, 1) := by decide +kernel
theorem dX5_reach_41 : decode cX5_reach 41 = .ok (.iconst 1, 1) := by decide +kernel
theorem dX5_reach_42 : decode cX5_reach 42 = .ok (.isub, 1) := by decide +kernel
theorem dX5_reach_43 : decode cX5_reach 43 = .ok (.iastore, 1) := by decide +kernel
theorem dX5_reach_44 : decode cX5_reach 44 = .ok (.aload_n 0, 1) := by decide +kernel
theorem dX5_reach_45 : decode cX5_reach 45 = .ok (.getfield 16, 3) := by decide +kernel
theorem dX5_reach_48 : decode cX5_reach 48 = .ok (.iload_n 1, 1) := by decide +kernel
theorem dX5_reach_49 : decode cX5_reach 49 = .ok (.iaload, 1) := by decide +kernel
theorem dX5_reach_50 : decode cX5_reach 50 = .ok (.ireturn, 1) := by decide +kernel
theorem dX5_putOver_0 : decode cX5_putOver 0 = .ok (.iload_n 1, 1) := by decide +kernel
theorem dX5_putOver_1 : decode cX5_putOver 1 = .ok (.iconst 0, 1) := by decide +kernel
theorem dX5_putOver_2 : decode cX5_putOver 2 = .ok (.iconst 1, 1) := by decide +kernel
theorem dX5_putOver_3 : decode cX5_putOver 3 = .ok (.invokestatic 47, 3) := by decide +kernel
theorem dX5_putOver_6 : decode cX5_putOver 6 = .ok (.ifCond .eq 13, 3) := by decide +kernel
theorem dX5_putOver_9 : decode cX5_putOver 9 = .ok (.iload_n 2, 1) := by decide +kernel
theorem dX5_putOver_10 : decode cX5_putOver 10 = .ok (.iconst 1, 1) := by decide +kernel
theorem dX5_putOver_11 : decode cX5_putOver 11 = .ok (.bipush 10, 2) := by decide +kernel
theorem dX5_putOver_13 : decode cX5_putOver 13 = .ok (.invokestatic 47, 3) := by decide +kernel
theorem dX5_putOver_16 : decode cX5_putOver 16 = .ok (.ifCond .ne 5, 3) := by decide +kernel
theorem dX5_putOver_19 : decode cX5_putOver 19 = .ok (.iconst (-1), 1) := by decide +kernel
theorem dX5_putOver_20 : decode cX5_putOver 20 = .ok (.ireturn, 1) := by decide +kernel
theorem dX5_putOver_21 : decode cX5_putOver 21 = .ok (.aload_n 0, 1) := by decide +kernel
theorem dX5_putOver_22 : decode cX5_putOver 22 = .ok (.getfield 16, 3) := by decide +kernel
theorem dX5_putOver_25 : decode cX5_putOver 25 = .ok (.iload_n 1, 1) := by decide +kernel
theorem dX5_putOver_26 : decode cX5_putOver 26 = .ok (.iaload, 1) := by decide +kernel
theorem dX5_putOver_27 : decode cX5_putOver 27 = .ok (.iload_n 2, 1) := by decide +kernel
theorem dX5_putOver_28 : decode cX5_putOver 28 = .ok (.if_icmp .ge 6, 3) := by decide +kernel
theorem dX5_putOver_31 : decode cX5_putOver 31 = .ok (.bipush (-2), 2) := by decide +kernel
theorem dX5_putOver_33 : decode cX5_putOver 33 = .ok (.ireturn, 1) := by decide +kernel
theorem dX5_putOver_34 : decode cX5_putOver 34 = .ok (.aload_n 0, 1) := by decide +kernel
theorem dX5_putOver_35 : decode cX5_putOver 35 = .ok (.getfield 16, 3) := by decide +kernel
theorem dX5_putOver_38 : decode cX5_putOver 38 = .ok (.iconst 1, 1) := by decide +kernel
theorem dX5_putOver_39 : decode cX5_putOver 39 = .ok (.iload_n 1, 1) := by decide +kernel
theorem dX5_putOver_40 : decode cX5_putOver 40 = .ok (.isub, 1) := by decide +kernel
theorem dX5_putOver_41 : decode cX5_putOver 41 = .ok (.iaload, 1) := by decide +kernel
theorem dX5_putOver_42 : decode cX5_putOver 42 = .ok (.iload_n 2, 1) := by decide +kernel
theorem dX5_putOver_43 : decode cX5_putOver 43 = .ok (.iadd, 1) := by decide +kernel
theorem dX5_putOver_44 : decode cX5_putOver 44 = .ok (.bipush 10, 2) := by decide +kernel
theorem dX5_putOver_46 : decode cX5_putOver 46 = .ok (.if_icmp .le 6, 3) := by decide +kernel
theorem dX5_putOver_49 : decode cX5_putOver 49 = .ok (.bipush (-3), 2) := by decide +kernel
theorem dX5_putOver_51 : decode cX5_putOver 51 = .ok (.ireturn, 1) := by decide +kernel
theorem dX5_putOver_52 : decode cX5_putOver 52 = .ok (.aload_n 0, 1) := by decide +kernel
theorem dX5_putOver_53 : decode cX5_putOver 53 = .ok (.invokevirtual 96, 3) := by decide +kernel
theorem dX5_putOver_56 : decode cX5_putOver 56 = .ok (.aload_n 0, 1) := by decide +kernel
theorem dX5_putOver_57 : decode cX5_putOver 57 = .ok (.getfield 16, 3) := by decide +kernel
theorem dX5_putOver_60 : decode cX5_putOver 60 = .ok (.iload_n 1, 1) := by decide +kernel
theorem dX5_putOver_61 : decode cX5_putOver 61 = .ok (.dup2, 1) := by decide +kernel
theorem dX5_putOver_62 : decode cX5_putOver 62 = .ok (.iaload, 1) := by decide +kernel
theorem dX5_putOver_63 : decode cX5_putOver 63 = .ok (.iload_n 2, 1) := by decide +kernel
theorem dX5_putOver_64 : decode cX5_putOver 64 = .ok (.isub, 1) := by decide +kernel
theorem dX5_putOver_65 : decode cX5_putOver 65 = .ok (.iastore, 1) := by decide +kernel
theorem dX5_putOver_66 : decode cX5_putOver 66 = .ok (.aload_n 0, 1) := by decide +kernel
theorem dX5_putOver_67 : decode cX5_putOver 67 = .ok (.getfield 16, 3) := by decide +kernel
theorem dX5_putOver_70 : decode cX5_putOver 70 = .ok (.iconst 1, 1) := by decide +kernel
theorem dX5_putOver_71 : decode cX5_putOver 71 = .ok (.iload_n 1, 1) := by decide +kernel
theorem dX5_putOver_72 : decode cX5_putOver 72 = .ok (.isub, 1) := by decide +kernel
theorem dX5_putOver_73 : decode cX5_putOver 73 = .ok (.dup2, 1) := by decide +kernel
theorem dX5_putOver_74 : decode cX5_putOver 74 = .ok (.iaload, 1) := by decide +kernel
theorem dX5_putOver_75 : decode cX5_putOver 75 = .ok (.iload_n 2, 1) := by decide +kernel
theorem dX5_putOver_76 : decode cX5_putOver 76 = .ok (.iadd, 1) := by decide +kernel
theorem dX5_putOver_77 : decode cX5_putOver 77 = .ok (.iastore, 1) := by decide +kernel
theorem dX5_putOver_78 : decode cX5_putOver 78 = .ok (.aload_n 0, 1) := by decide +kernel
theorem dX5_putOver_79 : decode cX5_putOver 79 = .ok (.getfield 16, 3) := by decide +kernel
theorem dX5_putOver_82 : decode cX5_putOver 82 = .ok (.iload_n 1, 1) := by decide +kernel
theorem dX5_putOver_83 : decode cX5_putOver 83 = .ok (.iaload, 1) := by decide +kernel
theorem dX5_putOver_84 : decode cX5_putOver 84 = .ok (.ireturn, 1) := by decide +kernel
theorem dX5_buy_0 : decode cX5_buy 0 = .ok (.iload_n 1, 1) := by decide +kernel
theorem dX5_buy_1 : decode cX5_buy 1 = .ok (.iconst 0, 1) := by decide +kernel
theorem dX5_buy_2 : decode cX5_buy 2 = .ok (.iconst 1, 1) := by decide +kernel
theorem dX5_buy_3 : decode cX5_buy 3 = .ok (.invokestatic 47, 3) := by decide +kernel
theorem dX5_buy_6 : decode cX5_buy 6 = .ok (.ifCond .ne 5, 3) := by decide +kernel
theorem dX5_buy_9 : decode cX5_buy 9 = .ok (.iconst (-1), 1) := by decide +kernel
theorem dX5_buy_10 : decode cX5_buy 10 = .ok (.ireturn, 1) := by decide +kernel
theorem dX5_buy_11 : decode cX5_buy 11 = .ok (.aload_n 0, 1) := by decide +kernel
theorem dX5_buy_12 : decode cX5_buy 12 = .ok (.invokevirtual 96, 3) := by decide +kernel
theorem dX5_buy_15 : decode cX5_buy 15 = .ok (.aload_n 0, 1) := by decide +kernel
theorem dX5_buy_16 : decode cX5_buy 16 = .ok (.getfield 16, 3) := by decide +kernel
theorem dX5_buy_19 : decode cX5_buy 19 = .ok (.iload_n 1, 1) := by decide +kernel
theorem dX5_buy_20 : decode cX5_buy 20 = .ok (.iaload, 1) := by decide +kernel
theorem dX5_buy_21 : decode cX5_buy 21 = .ok (.istore_n 2, 1) := by decide +kernel
theorem dX5_buy_22 : decode cX5_buy 22 = .ok (.aload_n 0, 1) := by decide +kernel
theorem dX5_buy_23 : decode cX5_buy 23 = .ok (.getfield 16, 3) := by decide +kernel
theorem dX5_buy_26 : decode cX5_buy 26 = .ok (.iload_n 1, 1) := by decide +kernel
theorem dX5_buy_27 : decode cX5_buy 27 = .ok (.bipush 10, 2) := by decide +kernel
theorem dX5_buy_29 : decode cX5_buy 29 = .ok (.iastore, 1) := by decide +kernel
theorem dX5_buy_30 : decode cX5_buy 30 = .ok (.iload_n 2, 1) := by decide +kernel
theorem dX5_buy_31 : decode cX5_buy 31 = .ok (.ireturn, 1) := by decide +kernel
theorem dX5_hand_0 : decode cX5_hand 0 = .ok (.iload_n 1, 1) := by decide +kernel
theorem dX5_hand_1 : decode cX5_hand 1 = .ok (.iconst 0, 1) := by decide +kernel
theorem dX5_hand_2 : decode cX5_hand 2 = .ok (.iconst 3, 1) := by decide +kernel
theorem dX5_hand_3 : decode cX5_hand 3 = .ok (.invokestatic 47, 3) := by decide +kernel
theorem dX5_hand_6 : decode cX5_hand 6 = .ok (.ifCond .eq 12, 3) := by decide +kernel
theorem dX5_hand_9 : decode cX5_hand 9 = .ok (.iload_n 2, 1) := by decide +kernel
theorem dX5_hand_10 : decode cX5_hand 10 = .ok (.iconst 0, 1) := by decide +kernel
theorem dX5_hand_11 : decode cX5_hand 11 = .ok (.iconst 4, 1) := by decide +kernel
theorem dX5_hand_12 : decode cX5_hand 12 = .ok (.invokestatic 47, 3) := by decide +kernel
theorem dX5_hand_15 : decode cX5_hand 15 = .ok (.ifCond .ne 5, 3) := by decide +kernel
theorem dX5_hand_18 : decode cX5_hand 18 = .ok (.iconst (-1), 1) := by decide +kernel
theorem dX5_hand_19 : decode cX5_hand 19 = .ok (.ireturn, 1) := by decide +kernel
theorem dX5_hand_20 : decode cX5_hand 20 = .ok (.aload_n 0, 1) := by decide +kernel
theorem dX5_hand_21 : decode cX5_hand 21 = .ok (.invokevirtual 96, 3) := by decide +kernel
theorem dX5_hand_24 : decode cX5_hand 24 = .ok (.bipush 10, 2) := by decide +kernel
theorem dX5_hand_26 : decode cX5_hand 26 = .ok (.aload_n 0, 1) := by decide +kernel
theorem dX5_hand_27 : decode cX5_hand 27 = .ok (.getfield 16, 3) := by decide +kernel
theorem dX5_hand_30 : decode cX5_hand 30 = .ok (.iconst 3, 1) := by decide +kernel
theorem dX5_hand_31 : decode cX5_hand 31 = .ok (.iaload, 1) := by decide +kernel
theorem dX5_hand_32 : decode cX5_hand 32 = .ok (.imul, 1) := by decide +kernel
theorem dX5_hand_33 : decode cX5_hand 33 = .ok (.aload_n 0, 1) := by decide +kernel
theorem dX5_hand_34 : decode cX5_hand 34 = .ok (.getfield 16, 3) := by decide +kernel
theorem dX5_hand_37 : decode cX5_hand 37 = .ok (.iconst 4, 1) := by decide +kernel
theorem dX5_hand_38 : decode cX5_hand 38 = .ok (.iaload, 1) := by decide +kernel
theorem dX5_hand_39 : decode cX5_hand 39 = .ok (.iadd, 1) := by decide +kernel
theorem dX5_hand_40 : decode cX5_hand 40 = .ok (.istore_n 3, 1) := by decide +kernel
theorem dX5_hand_41 : decode cX5_hand 41 = .ok (.aload_n 0, 1) := by decide +kernel
theorem dX5_hand_42 : decode cX5_hand 42 = .ok (.getfield 16, 3) := by decide +kernel
theorem dX5_hand_45 : decode cX5_hand 45 = .ok (.iconst 3, 1) := by decide +kernel
theorem dX5_hand_46 : decode cX5_hand 46 = .ok (.iload_n 1, 1) := by decide +kernel
theorem dX5_hand_47 : decode cX5_hand 47 = .ok (.iastore, 1) := by decide +kernel
theorem dX5_hand_48 : decode cX5_hand 48 = .ok (.aload_n 0, 1) := by decide +kernel
theorem dX5_hand_49 : decode cX5_hand 49 = .ok (.getfield 16, 3) := by decide +kernel
theorem dX5_hand_52 : decode cX5_hand 52 = .ok (.iconst 4, 1) := by decide +kernel
theorem dX5_hand_53 : decode cX5_hand 53 = .ok (.iload_n 2, 1) := by decide +kernel
theorem dX5_hand_54 : decode cX5_hand 54 = .ok (.iastore, 1) := by decide +kernel
theorem dX5_hand_55 : decode cX5_hand 55 = .ok (.iload_n 3, 1) := by decide +kernel
theorem dX5_hand_56 : decode cX5_hand 56 = .ok (.ireturn, 1) := by decide +kernel
theorem dX5_undo_0 : decode cX5_undo 0 = .ok (.aload_n 0, 1) := by decide +kernel
theorem dX5_undo_1 : decode cX5_undo 1 = .ok (.getfield 83, 3) := by decide +kernel
theorem dX5_undo_4 : decode cX5_undo 4 = .ok (.ifCond .ne 6, 3) := by decide +kernel
theorem dX5_undo_7 : decode cX5_undo 7 = .ok (.bipush (-2), 2) := by decide +kernel
theorem dX5_undo_9 : decode cX5_undo 9 = .ok (.ireturn, 1) := by decide +kernel
theorem dX5_undo_10 : decode cX5_undo 10 = .ok (.aload_n 0, 1) := by decide +kernel
theorem dX5_undo_11 : decode cX5_undo 11 = .ok (.dup, 1) := by decide +kernel
theorem dX5_undo_12 : decode cX5_undo 12 = .ok (.getfield 83, 3) := by decide +kernel
theorem dX5_undo_15 : decode cX5_undo 15 = .ok (.iconst 1, 1) := by decide +kernel
theorem dX5_undo_16 : decode cX5_undo 16 = .ok (.isub, 1) := by decide +kernel
theorem dX5_undo_17 : decode cX5_undo 17 = .ok (.putfield 83, 3) := by decide +kernel
theorem dX5_undo_20 : decode cX5_undo 20 = .ok (.iconst 0, 1) := by decide +kernel
theorem dX5_undo_21 : decode cX5_undo 21 = .ok (.istore_n 1, 1) := by decide +kernel
theorem dX5_undo_22 : decode cX5_undo 22 = .ok (.iload_n 1, 1) := by decide +kernel
theorem dX5_undo_23 : decode cX5_undo 23 = .ok (.iconst 5, 1) := by decide +kernel
theorem dX5_undo_24 : decode cX5_undo 24 = .ok (.if_icmp .ge 28, 3) := by decide +kernel
theorem dX5_undo_27 : decode cX5_undo 27 = .ok (.aload_n 0, 1) := by decide +kernel
theorem dX5_undo_28 : decode cX5_undo 28 = .ok (.getfield 16, 3) := by decide +kernel
theorem dX5_undo_31 : decode cX5_undo 31 = .ok (.iload_n 1, 1) := by decide +kernel
theorem dX5_undo_32 : decode cX5_undo 32 = .ok (.aload_n 0, 1) := by decide +kernel
theorem dX5_undo_33 : decode cX5_undo 33 = .ok (.getfield 19, 3) := by decide +kernel
theorem dX5_undo_36 : decode cX5_undo 36 = .ok (.iconst 5, 1) := by decide +kernel
theorem dX5_undo_37 : decode cX5_undo 37 = .ok (.aload_n 0, 1) := by decide +kernel
theorem dX5_undo_38 : decode cX5_undo 38 = .ok (.getfield 83, 3) := by decide +kernel
theorem dX5_undo_41 : decode cX5_undo 41 = .ok (.imul, 1) := by decide +kernel
theorem dX5_undo_42 : decode cX5_undo 42 = .ok (.iload_n 1, 1) := by decide +kernel
theorem dX5_undo_43 : decode cX5_undo 43 = .ok (.iadd, 1) := by decide +kernel
theorem dX5_undo_44 : decode cX5_undo 44 = .ok (.iaload, 1) := by decide +kernel
theorem dX5_undo_45 : decode cX5_undo 45 = .ok (.iastore, 1) := by decide +kernel
theorem dX5_undo_46 : decode cX5_undo 46 = .ok (.iinc 1 1, 3) := by decide +kernel
theorem dX5_undo_49 : decode cX5_undo 49 = .ok (.goto (-27), 3) := by decide +kernel
theorem dX5_undo_52 : decode cX5_undo 52 = .ok (.aload_n 0, 1) := by decide +kernel
theorem dX5_undo_53 : decode cX5_undo 53 = .ok (.getfield 83, 3) := by decide +kernel
theorem dX5_undo_56 : decode cX5_undo 56 = .ok (.ireturn, 1) := by decide +kernel
theorem dX5_spot_0 : decode cX5_spot 0 = .ok (.bipush 33, 2) := by decide +kernel
theorem dX5_spot_2 : decode cX5_spot 2 = .ok (.iload_n 0, 1) := by decide +kernel
theorem dX5_spot_3 : decode cX5_spot 3 = .ok (.imul, 1) := by decide +kernel
theorem dX5_spot_4 : decode cX5_spot 4 = .ok (.iconst 3, 1) := by decide +kernel
theorem dX5_spot_5 : decode cX5_spot 5 = .ok (.iload_n 1, 1) := by decide +kernel
theorem dX5_spot_6 : decode cX5_spot 6 = .ok (.imul, 1) := by decide +kernel
theorem dX5_spot_7 : decode cX5_spot 7 = .ok (.iadd, 1) := by decide +kernel
theorem dX5_spot_8 : decode cX5_spot 8 = .ok (.iload_n 2, 1) := by decide +kernel
theorem dX5_spot_9 : decode cX5_spot 9 = .ok (.iadd, 1) := by decide +kernel
theorem dX5_spot_10 : decode cX5_spot 10 = .ok (.ireturn, 1) := by decide +kernel
theorem dX5_begin0_0 : decode cX5_begin0 0 = .ok (.iconst 0, 1) := by decide +kernel
theorem dX5_begin0_1 : decode cX5_begin0 1 = .ok (.istore 4, 2) := by decide +kernel
theorem dX5_begin0_3 : decode cX5_begin0 3 = .ok (.iload 4, 2) := by decide +kernel
theorem dX5_begin0_5 : decode cX5_begin0 5 = .ok (.sipush 363, 3) := by decide +kernel
theorem dX5_begin0_8 : decode cX5_begin0 8 = .ok (.if_icmp .ge 17, 3) := by decide +kernel
theorem dX5_begin0_11 : decode cX5_begin0 11 = .ok (.aload_n 0, 1) := by decide +kernel
theorem dX5_begin0_12 : decode cX5_begin0 12 = .ok (.getfield 28, 3) := by decide +kernel
theorem dX5_begin0_15 : decode cX5_begin0 15 = .ok (.iload 4, 2) := by decide +kernel
theorem dX5_begin0_17 : decode cX5_begin0 17 = .ok (.lconst 0, 1) := by decide +kernel
theorem dX5_begin0_18 : decode cX5_begin0 18 = .ok (.lastore, 1) := by decide +kernel
theorem dX5_begin0_19 : decode cX5_begin0 19 = .ok (.iinc 4 1, 3) := by decide +kernel
theorem dX5_begin0_22 : decode cX5_begin0 22 = .ok (.goto (-19), 3) := by decide +kernel
theorem dX5_begin0_25 : decode cX5_begin0 25 = .ok (.aload_n 0, 1) := by decide +kernel
theorem dX5_begin0_26 : decode cX5_begin0 26 = .ok (.getfield 28, 3) := by decide +kernel
theorem dX5_begin0_29 : decode cX5_begin0 29 = .ok (.iload_n 1, 1) := by decide +kernel
theorem dX5_begin0_30 : decode cX5_begin0 30 = .ok (.iload_n 2, 1) := by decide +kernel
theorem dX5_begin0_31 : decode cX5_begin0 31 = .ok (.iload_n 3, 1) := by decide +kernel
theorem dX5_begin0_32 : decode cX5_begin0 32 = .ok (.invokestatic 99, 3) := by decide +kernel
theorem dX5_begin0_35 : decode cX5_begin0 35 = .ok (.lconst 1, 1) := by decide +kernel
theorem dX5_begin0_36 : decode cX5_begin0 36 = .ok (.lastore, 1) := by decide +kernel
theorem dX5_begin0_37 : decode cX5_begin0 37 = .ok (.return_, 1) := by decide +kernel
theorem dX5_goes_0 : decode cX5_goes 0 = .ok (.iconst 0, 1) := by decide +kernel
theorem dX5_goes_1 : decode cX5_goes 1 = .ok (.istore 7, 2) := by decide +kernel
theorem dX5_goes_3 : decode cX5_goes 3 = .ok (.iload 7, 2) := by decide +kernel
theorem dX5_goes_5 : decode cX5_goes 5 = .ok (.sipush 363, 3) := by decide +kernel
theorem dX5_goes_8 : decode cX5_goes 8 = .ok (.if_icmp .ge 17, 3) := by decide +kernel
theorem dX5_goes_11 : decode cX5_goes 11 = .ok (.aload_n 0, 1) := by decide +kernel
theorem dX5_goes_12 : decode cX5_goes 12 = .ok (.getfield 32, 3) := by decide +kernel
theorem dX5_goes_15 : decode cX5_goes 15 = .ok (.iload 7, 2) := by decide +kernel
theorem dX5_goes_17 : decode cX5_goes 17 = .ok (.lconst 0, 1) := by decide +kernel
theorem dX5_goes_18 : decode cX5_goes 18 = .ok (.lastore, 1) := by decide +kernel
theorem dX5_goes_19 : decode cX5_goes 19 = .ok (.iinc 7 1, 3) := by decide +kernel
theorem dX5_goes_22 : decode cX5_goes 22 = .ok (.goto (-19), 3) := by decide +kernel
theorem dX5_goes_25 : decode cX5_goes 25 = .ok (.iconst 0, 1) := by decide +kernel
theorem dX5_goes_26 : decode cX5_goes 26 = .ok (.istore 7, 2) := by decide +kernel
theorem dX5_goes_28 : decode cX5_goes 28 = .ok (.iload 7, 2) := by decide +kernel
theorem dX5_goes_30 : decode cX5_goes 30 = .ok (.bipush 11, 2) := by decide +kernel
theorem dX5_goes_32 : decode cX5_goes 32 = .ok (.if_icmp .ge 249, 3) := by decide +kernel
theorem dX5_goes_35 : decode cX5_goes 35 = .ok (.iconst 0, 1) := by decide +kernel
theorem dX5_goes_36 : decode cX5_goes 36 = .ok (.istore 8, 2) := by decide +kernel
theorem dX5_goes_38 : decode cX5_goes 38 = .ok (.iload 8, 2) := by decide +kernel
theorem dX5_goes_40 : decode cX5_goes 40 = .ok (.bipush 11, 2) := by decide +kernel
theorem dX5_goes_42 : decode cX5_goes 42 = .ok (.if_icmp .ge 233, 3) := by decide +kernel
theorem dX5_goes_45 : decode cX5_goes 45 = .ok (.iconst 0, 1) := by decide +kernel
theorem dX5_goes_46 : decode cX5_goes 46 = .ok (.istore 9, 2) := by decide +kernel
theorem dX5_goes_48 : decode cX5_goes 48 = .ok (.iload 9, 2) := by decide +kernel
theorem dX5_goes_50 : decode cX5_goes 50 = .ok (.iconst 3, 1) := by decide +kernel
theorem dX5_goes_51 : decode cX5_goes 51 = .ok (.if_icmp .ge 218, 3) := by decide +kernel
theorem dX5_goes_54 : decode cX5_goes 54 = .ok (.aload_n 0, 1) := by decide +kernel
theorem dX5_goes_55 : decode cX5_goes 55 = .ok (.getfield 28, 3) := by decide +kernel
theorem dX5_goes_58 : decode cX5_goes 58 = .ok (.iload 7, 2) := by decide +kernel
theorem dX5_goes_60 : decode cX5_goes 60 = .ok (.iload 8, 2) := by decide +kernel
theorem dX5_goes_62 : decode cX5_goes 62 = .ok (.iload 9, 2) := by decide +kernel
theorem dX5_goes_64 : decode cX5_goes 64 = .ok (.invokestatic 99, 3) := by decide +kernel
theorem dX5_goes_67 : decode cX5_goes 67 = .ok (.laload, 1) := by decide +kernel
theorem dX5_goes_68 : decode cX5_goes 68 = .ok (.lstore 10, 2) := by decide +kernel
theorem dX5_goes_70 : decode cX5_goes 70 = .ok (.iload 7, 2) := by decide +kernel
theorem dX5_goes_72 : decode cX5_goes 72 = .ok (.iload 8, 2) := by decide +kernel
theorem dX5_goes_74 : decode cX5_goes 74 = .ok (.iload 9, 2) := by decide +kernel
theorem dX5_goes_76 : decode cX5_goes 76 = .ok (.iload_n 1, 1) := by decide +kernel
theorem dX5_goes_77 : decode cX5_goes 77 = .ok (.iload_n 2, 1) := by decide +kernel
theorem dX5_goes_78 : decode cX5_goes 78 = .ok (.invokestatic 92, 3) := by decide +kernel
theorem dX5_goes_81 : decode cX5_goes 81 = .ok (.istore 12, 2) := by decide +kernel
theorem dX5_goes_83 : decode cX5_goes 83 = .ok (.iconst 0, 1) := by decide +kernel
theorem dX5_goes_84 : decode cX5_goes 84 = .ok (.istore 13, 2) := by decide +kernel
theorem dX5_goes_86 : decode cX5_goes 86 = .ok (.iload 13, 2) := by decide +kernel
theorem dX5_goes_88 : decode cX5_goes 88 = .ok (.iconst 2, 1) := by decide +kernel
theorem dX5_goes_89 : decode cX5_goes 89 = .ok (.if_icmp .ge 174, 3) := by decide +kernel
theorem dX5_goes_92 : decode cX5_goes 92 = .ok (.lload 10, 2) := by decide +kernel
theorem dX5_goes_94 : decode cX5_goes 94 = .ok (.lconst 0, 1) := by decide +kernel
theorem dX5_goes_95 : decode cX5_goes 95 = .ok (.lcmp, 1) := by decide +kernel
theorem dX5_goes_96 : decode cX5_goes 96 = .ok (.ifCond .le 167, 3) := by decide +kernel
theorem dX5_goes_99 : decode cX5_goes 99 = .ok (.lload 10, 2) := by decide +kernel
theorem dX5_goes_101 : decode cX5_goes 101 = .ok (.iload 13, 2) := by decide +kernel
theorem dX5_goes_103 : decode cX5_goes 103 = .ok (.ifCond .ne 8, 3) := by decide +kernel
theorem dX5_goes_106 : decode cX5_goes 106 = .ok (.iload 12, 2) := by decide +kernel
theorem dX5_goes_108 : decode cX5_goes 108 = .ok (.goto 7, 3) := by decide +kernel
theorem dX5_goes_111 : decode cX5_goes 111 = .ok (.iconst 4, 1) := by decide +kernel
theorem dX5_goes_112 : decode cX5_goes 112 = .ok (.iload 12, 2) := by decide +kernel
theorem dX5_goes_114 : decode cX5_goes 114 = .ok (.isub, 1) := by decide +kernel
theorem dX5_goes_115 : decode cX5_goes 115 = .ok (.i2l, 1) := by decide +kernel
theorem dX5_goes_116 : decode cX5_goes 116 = .ok (.lmul, 1) := by decide +kernel
theorem dX5_goes_117 : decode cX5_goes 117 = .ok (.lstore 14, 2) := by decide +kernel
theorem dX5_goes_119 : decode cX5_goes 119 = .ok (.iload 13, 2) := by decide +kernel
theorem dX5_goes_121 : decode cX5_goes 121 = .ok (.ifCond .ne 8, 3) := by decide +kernel
theorem dX5_goes_124 : decode cX5_goes 124 = .ok (.iload 7, 2) := by decide +kernel
theorem dX5_goes_126 : decode cX5_goes 126 = .ok (.goto 5, 3) := by decide +kernel
theorem dX5_goes_129 : decode cX5_goes 129 = .ok (.iload 8, 2) := by decide +kernel
theorem dX5_goes_131 : decode cX5_goes 131 = .ok (.istore 16, 2) := by decide +kernel
theorem dX5_goes_133 : decode cX5_goes 133 = .ok (.iload 13, 2) := by decide +kernel
theorem dX5_goes_135 : decode cX5_goes 135 = .ok (.ifCond .ne 8, 3) := by decide +kernel
theorem dX5_goes_138 : decode cX5_goes 138 = .ok (.iload 8, 2) := by decide +kernel
theorem dX5_goes_140 : decode cX5_goes 140 = .ok (.goto 5, 3) := by decide +kernel
theorem dX5_goes_143 : decode cX5_goes 143 = .ok (.iload 7, 2) := by decide +kernel
theorem dX5_goes_145 : decode cX5_goes 145 = .ok (.istore 17, 2) := by decide +kernel
theorem dX5_goes_147 : decode cX5_goes 147 = .ok (.iload 16, 2) := by decide +kernel
theorem dX5_goes_149 : decode cX5_goes 149 = .ok (.ifCond .eq 14, 3) := by decide +kernel
theorem dX5_goes_152 : decode cX5_goes 152 = .ok (.iload_n 3, 1) := by decide +kernel
theorem dX5_goes_153 : decode cX5_goes 153 = .ok (.iconst 1, 1) := by decide +kernel
theorem dX5_goes_154 : decode cX5_goes 154 = .ok (.if_icmp .ne 65, 3) := by decide +kernel
theorem dX5_goes_157 : decode cX5_goes 157 = .ok (.iload 16, 2) := by decide +kernel
theorem dX5_goes_159 : decode cX5_goes 159 = .ok (.iconst 1, 1) := by decide +kernel
theorem dX5_goes_160 : decode cX5_goes 160 = .ok (.if_icmp .ne 59, 3) := by decide +kernel
theorem dX5_goes_163 : decode cX5_goes 163 = .ok (.aload_n 0, 1) := by decide +kernel
theorem dX5_goes_164 : decode cX5_goes 164 = .ok (.getfield 35, 3) := by decide +kernel
theorem dX5_goes_167 : decode cX5_goes 167 = .ok (.iload 17, 2) := by decide +kernel
theorem dX5_goes_169 : decode cX5_goes 169 = .ok (.dup2, 1) := by decide +kernel
theorem dX5_goes_170 : decode cX5_goes 170 = .ok (.laload, 1) := by decide +kernel
theorem dX5_goes_171 : decode cX5_goes 171 = .ok (.lload 14, 2) := by decide +kernel
theorem dX5_goes_173 : decode cX5_goes 173 = .ok (.lload 5, 2) := by decide +kernel
theorem dX5_goes_175 : decode cX5_goes 175 = .ok (.lmul, 1) := by decide +kernel
theorem dX5_goes_176 : decode cX5_goes 176 = .ok (.ladd, 1) := by decide +kernel
theorem dX5_goes_177 : decode cX5_goes 177 = .ok (.lastore, 1) := by decide +kernel
theorem dX5_goes_178 : decode cX5_goes 178 = .ok (.aload_n 0, 1) := by decide +kernel
theorem dX5_goes_179 : decode cX5_goes 179 = .ok (.getfield 38, 3) := by decide +kernel
theorem dX5_goes_182 : decode cX5_goes 182 = .ok (.iload 4, 2) := by decide +kernel
theorem dX5_goes_184 : decode cX5_goes 184 = .ok (.dup2, 1) := by decide +kernel
theorem dX5_goes_185 : decode cX5_goes 185 = .ok (.laload, 1) := by decide +kernel
theorem dX5_goes_186 : decode cX5_goes 186 = .ok (.lload 14, 2) := by decide +kernel
theorem dX5_goes_188 : decode cX5_goes 188 = .ok (.lload 5, 2) := by decide +kernel
theorem dX5_goes_190 : decode cX5_goes 190 = .ok (.lmul, 1) := by decide +kernel
theorem dX5_goes_191 : decode cX5_goes 191 = .ok (.ladd, 1) := by decide +kernel
theorem dX5_goes_192 : decode cX5_goes 192 = .ok (.lastore, 1) := by decide +kernel
theorem dX5_goes_193 : decode cX5_goes 193 = .ok (.aload_n 0, 1) := by decide +kernel
theorem dX5_goes_194 : decode cX5_goes 194 = .ok (.dup, 1) := by decide +kernel
theorem dX5_goes_195 : decode cX5_goes 195 = .ok (.getfield 102, 3) := by decide +kernel
theorem dX5_goes_198 : decode cX5_goes 198 = .ok (.iload 13, 2) := by decide +kernel
theorem dX5_goes_200 : decode cX5_goes 200 = .ok (.ifCond .ne 11, 3) := by decide +kernel
theorem dX5_goes_203 : decode cX5_goes 203 = .ok (.lload 14, 2) := by decide +kernel
theorem dX5_goes_205 : decode cX5_goes 205 = .ok (.lload 5, 2) := by decide +kernel
theorem dX5_goes_207 : decode cX5_goes 207 = .ok (.lmul, 1) := by decide +kernel
theorem dX5_goes_208 : decode cX5_goes 208 = .ok (.goto 4, 3) := by decide +kernel
theorem dX5_goes_211 : decode cX5_goes 211 = .ok (.lconst 0, 1) := by decide +kernel
theorem dX5_goes_212 : decode cX5_goes 212 = .ok (.ladd, 1) := by decide +kernel
theorem dX5_goes_213 : decode cX5_goes 213 = .ok (.putfield 102, 3) := by decide +kernel
theorem dX5_goes_216 : decode cX5_goes 216 = .ok (.goto 41, 3) := by decide +kernel
theorem dX5_goes_219 : decode cX5_goes 219 = .ok (.aload_n 0, 1) := by decide +kernel
theorem dX5_goes_220 : decode cX5_goes 220 = .ok (.getfield 32, 3) := by decide +kernel
theorem dX5_goes_223 : decode cX5_goes 223 = .ok (.iload 13, 2) := by decide +kernel
theorem dX5_goes_225 : decode cX5_goes 225 = .ok (.ifCond .ne 16, 3) := by decide +kernel
theorem dX5_goes_228 : decode cX5_goes 228 = .ok (.iload 7, 2) := by decide +kernel
theorem dX5_goes_230 : decode cX5_goes 230 = .ok (.iconst 1, 1) := by decide +kernel
theorem dX5_goes_231 : decode cX5_goes 231 = .ok (.isub, 1) := by decide +kernel
theorem dX5_goes_232 : decode cX5_goes 232 = .ok (.iload 8, 2) := by decide +kernel
theorem dX5_goes_234 : decode cX5_goes 234 = .ok (.iconst 0, 1) := by decide +kernel
theorem dX5_goes_235 : decode cX5_goes 235 = .ok (.invokestatic 99, 3) := by decide +kernel
theorem dX5_goes_238 : decode cX5_goes 238 = .ok (.goto 13, 3) := by decide +kernel
theorem dX5_goes_241 : decode cX5_goes 241 = .ok (.iload 7, 2) := by decide +kernel
theorem dX5_goes_243 : decode cX5_goes 243 = .ok (.iload 8, 2) := by decide +kernel
theorem dX5_goes_245 : decode cX5_goes 245 = .ok (.iconst 1, 1) := by decide +kernel
theorem dX5_goes_246 : decode cX5_goes 246 = .ok (.isub, 1) := by decide +kernel
theorem dX5_goes_247 : decode cX5_goes 247 = .ok (.iconst 1, 1) := by decide +kernel
theorem dX5_goes_248 : decode cX5_goes 248 = .ok (.invokestatic 99, 3) := by decide +kernel
theorem dX5_goes_251 : decode cX5_goes 251 = .ok (.dup2, 1) := by decide +kernel
theorem dX5_goes_252 : decode cX5_goes 252 = .ok (.laload, 1) := by decide +kernel
theorem dX5_goes_253 : decode cX5_goes 253 = .ok (.lload 14, 2) := by decide +kernel
theorem dX5_goes_255 : decode cX5_goes 255 = .ok (.ladd, 1) := by decide +kernel
theorem dX5_goes_256 : decode cX5_goes 256 = .ok (.lastore, 1) := by decide +kernel
theorem dX5_goes_257 : decode cX5_goes 257 = .ok (.iinc 13 1, 3) := by decide +kernel
theorem dX5_goes_260 : decode cX5_goes 260 = .ok (.goto (-174), 3) := by decide +kernel
theorem dX5_goes_263 : decode cX5_goes 263 = .ok (.iinc 9 1, 3) := by decide +kernel
theorem dX5_goes_266 : decode cX5_goes 266 = .ok (.goto (-218), 3) := by decide +kernel
theorem dX5_goes_269 : decode cX5_goes 269 = .ok (.iinc 8 1, 3) := by decide +kernel
theorem dX5_goes_272 : decode cX5_goes 272 = .ok (.goto (-234), 3) := by decide +kernel
theorem dX5_goes_275 : decode cX5_goes 275 = .ok (.iinc 7 1, 3) := by decide +kernel
theorem dX5_goes_278 : decode cX5_goes 278 = .ok (.goto (-250), 3) := by decide +kernel
theorem dX5_goes_281 : decode cX5_goes 281 = .ok (.iconst 0, 1) := by decide +kernel
theorem dX5_goes_282 : decode cX5_goes 282 = .ok (.istore 7, 2) := by decide +kernel
theorem dX5_goes_284 : decode cX5_goes 284 = .ok (.iload 7, 2) := by decide +kernel
theorem dX5_goes_286 : decode cX5_goes 286 = .ok (.sipush 363, 3) := by decide +kernel
theorem dX5_goes_289 : decode cX5_goes 289 = .ok (.if_icmp .ge 23, 3) := by decide +kernel
theorem dX5_goes_292 : decode cX5_goes 292 = .ok (.aload_n 0, 1) := by decide +kernel
theorem dX5_goes_293 : decode cX5_goes 293 = .ok (.getfield 28, 3) := by decide +kernel
theorem dX5_goes_296 : decode cX5_goes 296 = .ok (.iload 7, 2) := by decide +kernel
theorem dX5_goes_298 : decode cX5_goes 298 = .ok (.aload_n 0, 1) := by decide +kernel
theorem dX5_goes_299 : decode cX5_goes 299 = .ok (.getfield 32, 3) := by decide +kernel
theorem dX5_goes_302 : decode cX5_goes 302 = .ok (.iload 7, 2) := by decide +kernel
theorem dX5_goes_304 : decode cX5_goes 304 = .ok (.laload, 1) := by decide +kernel
theorem dX5_goes_305 : decode cX5_goes 305 = .ok (.lastore, 1) := by decide +kernel
theorem dX5_goes_306 : decode cX5_goes 306 = .ok (.iinc 7 1, 3) := by decide +kernel
theorem dX5_goes_309 : decode cX5_goes 309 = .ok (.goto (-25), 3) := by decide +kernel
theorem dX5_goes_312 : decode cX5_goes 312 = .ok (.return_, 1) := by decide +kernel
theorem dX5_clears_0 : decode cX5_clears 0 = .ok (.iconst 0, 1) := by decide +kernel
theorem dX5_clears_1 : decode cX5_clears 1 = .ok (.istore_n 1, 1) := by decide +kernel
theorem dX5_clears_2 : decode cX5_clears 2 = .ok (.iload_n 1, 1) := by decide +kernel
theorem dX5_clears_3 : decode cX5_clears 3 = .ok (.bipush 11, 2) := by decide +kernel
theorem dX5_clears_5 : decode cX5_clears 5 = .ok (.if_icmp .ge 16, 3) := by decide +kernel
theorem dX5_clears_8 : decode cX5_clears 8 = .ok (.aload_n 0, 1) := by decide +kernel
theorem dX5_clears_9 : decode cX5_clears 9 = .ok (.getfield 35, 3) := by decide +kernel
theorem dX5_clears_12 : decode cX5_clears 12 = .ok (.iload_n 1, 1) := by decide +kernel
theorem dX5_clears_13 : decode cX5_clears 13 = .ok (.lconst 0, 1) := by decide +kernel
theorem dX5_clears_14 : decode cX5_clears 14 = .ok (.lastore, 1) := by decide +kernel
theorem dX5_clears_15 : decode cX5_clears 15 = .ok (.iinc 1 1, 3) := by decide +kernel
theorem dX5_clears_18 : decode cX5_clears 18 = .ok (.goto (-16), 3) := by decide +kernel
theorem dX5_clears_21 : decode cX5_clears 21 = .ok (.iconst 0, 1) := by decide +kernel
theorem dX5_clears_22 : decode cX5_clears 22 = .ok (.istore_n 1, 1) := by decide +kernel
theorem dX5_clears_23 : decode cX5_clears 23 = .ok (.iload_n 1, 1) := by decide +kernel
theorem dX5_clears_24 : decode cX5_clears 24 = .ok (.bipush 22, 2) := by decide +kernel
theorem dX5_clears_26 : decode cX5_clears 26 = .ok (.if_icmp .ge 16, 3) := by decide +kernel
theorem dX5_clears_29 : decode cX5_clears 29 = .ok (.aload_n 0, 1) := by decide +kernel
theorem dX5_clears_30 : decode cX5_clears 30 = .ok (.getfield 38, 3) := by decide +kernel
theorem dX5_clears_33 : decode cX5_clears 33 = .ok (.iload_n 1, 1) := by decide +kernel
theorem dX5_clears_34 : decode cX5_clears 34 = .ok (.lconst 0, 1) := by decide +kernel
theorem dX5_clears_35 : decode cX5_clears 35 = .ok (.lastore, 1) := by decide +kernel
theorem dX5_clears_36 : decode cX5_clears 36 = .ok (.iinc 1 1, 3) := by decide +kernel
theorem dX5_clears_39 : decode cX5_clears 39 = .ok (.goto (-16), 3) := by decide +kernel
theorem dX5_clears_42 : decode cX5_clears 42 = .ok (.aload_n 0, 1) := by decide +kernel
theorem dX5_clears_43 : decode cX5_clears 43 = .ok (.lconst 0, 1) := by decide +kernel
theorem dX5_clears_44 : decode cX5_clears 44 = .ok (.putfield 102, 3) := by decide +kernel
theorem dX5_clears_47 : decode cX5_clears 47 = .ok (.return_, 1) := by decide +kernel
theorem dX5_weighs_0 : decode cX5_weighs 0 = .ok (.aload_n 0, 1) := by decide +kernel
theorem dX5_weighs_1 : decode cX5_weighs 1 = .ok (.invokevirtual 106, 3) := by decide +kernel
theorem dX5_weighs_4 : decode cX5_weighs 4 = .ok (.iload 5, 2) := by decide +kernel
theorem dX5_weighs_6 : decode cX5_weighs 6 = .ok (.iconst 1, 1) := by decide +kernel
theorem dX5_weighs_7 : decode cX5_weighs 7 = .ok (.if_icmp .ne 32, 3) := by decide +kernel
theorem dX5_weighs_10 : decode cX5_weighs 10 = .ok (.iload_n 1, 1) := by decide +kernel
theorem dX5_weighs_11 : decode cX5_weighs 11 = .ok (.ifCond .eq 7, 3) := by decide +kernel
theorem dX5_weighs_14 : decode cX5_weighs 14 = .ok (.iload_n 2, 1) := by decide +kernel
theorem dX5_weighs_15 : decode cX5_weighs 15 = .ok (.ifCond .ne 24, 3) := by decide +kernel
theorem dX5_weighs_18 : decode cX5_weighs 18 = .ok (.aload_n 0, 1) := by decide +kernel
theorem dX5_weighs_19 : decode cX5_weighs 19 = .ok (.getfield 35, 3) := by decide +kernel
theorem dX5_weighs_22 : decode cX5_weighs 22 = .ok (.iload_n 1, 1) := by decide +kernel
theorem dX5_weighs_23 : decode cX5_weighs 23 = .ok (.iload_n 2, 1) := by decide +kernel
theorem dX5_weighs_24 : decode cX5_weighs 24 = .ok (.iadd, 1) := by decide +kernel
theorem dX5_weighs_25 : decode cX5_weighs 25 = .ok (.ldc2_w 109, 3) := by decide +kernel
theorem dX5_weighs_28 : decode cX5_weighs 28 = .ok (.lastore, 1) := by decide +kernel
theorem dX5_weighs_29 : decode cX5_weighs 29 = .ok (.aload_n 0, 1) := by decide +kernel
theorem dX5_weighs_30 : decode cX5_weighs 30 = .ok (.getfield 38, 3) := by decide +kernel
theorem dX5_weighs_33 : decode cX5_weighs 33 = .ok (.iconst 0, 1) := by decide +kernel
theorem dX5_weighs_34 : decode cX5_weighs 34 = .ok (.ldc2_w 109, 3) := by decide +kernel
theorem dX5_weighs_37 : decode cX5_weighs 37 = .ok (.lastore, 1) := by decide +kernel
theorem dX5_weighs_38 : decode cX5_weighs 38 = .ok (.return_, 1) := by decide +kernel
theorem dX5_weighs_39 : decode cX5_weighs 39 = .ok (.aload_n 0, 1) := by decide +kernel
theorem dX5_weighs_40 : decode cX5_weighs 40 = .ok (.iload_n 1, 1) := by decide +kernel
theorem dX5_weighs_41 : decode cX5_weighs 41 = .ok (.iload_n 2, 1) := by decide +kernel
theorem dX5_weighs_42 : decode cX5_weighs 42 = .ok (.aload_n 0, 1) := by decide +kernel
theorem dX5_weighs_43 : decode cX5_weighs 43 = .ok (.getfield 16, 3) := by decide +kernel
theorem dX5_weighs_46 : decode cX5_weighs 46 = .ok (.iconst 2, 1) := by decide +kernel
theorem dX5_weighs_47 : decode cX5_weighs 47 = .ok (.iaload, 1) := by decide +kernel
theorem dX5_weighs_48 : decode cX5_weighs 48 = .ok (.invokevirtual 111, 3) := by decide +kernel
theorem dX5_weighs_51 : decode cX5_weighs 51 = .ok (.ldc2_w 109, 3) := by decide +kernel
theorem dX5_weighs_54 : decode cX5_weighs 54 = .ok (.lstore 6, 2) := by decide +kernel
theorem dX5_weighs_56 : decode cX5_weighs 56 = .ok (.iconst 1, 1) := by decide +kernel
theorem dX5_weighs_57 : decode cX5_weighs 57 = .ok (.istore 8, 2) := by decide +kernel
theorem dX5_weighs_59 : decode cX5_weighs 59 = .ok (.iload 8, 2) := by decide +kernel
theorem dX5_weighs_61 : decode cX5_weighs 61 = .ok (.bipush 21, 2) := by decide +kernel
theorem dX5_weighs_63 : decode cX5_weighs 63 = .ok (.if_icmp .gt 30, 3) := by decide +kernel
theorem dX5_weighs_66 : decode cX5_weighs 66 = .ok (.lload 6, 2) := by decide +kernel
theorem dX5_weighs_68 : decode cX5_weighs 68 = .ok (.ldc2_w 115, 3) := by decide +kernel
theorem dX5_weighs_71 : decode cX5_weighs 71 = .ok (.ldiv, 1) := by decide +kernel
theorem dX5_weighs_72 : decode cX5_weighs 72 = .ok (.lstore 6, 2) := by decide +kernel
theorem dX5_weighs_74 : decode cX5_weighs 74 = .ok (.aload_n 0, 1) := by decide +kernel
theorem dX5_weighs_75 : decode cX5_weighs 75 = .ok (.iload_n 3, 1) := by decide +kernel
theorem dX5_weighs_76 : decode cX5_weighs 76 = .ok (.iload 4, 2) := by decide +kernel
theorem dX5_weighs_78 : decode cX5_weighs 78 = .ok (.iload 5, 2) := by decide +kernel
theorem dX5_weighs_80 : decode cX5_weighs 80 = .ok (.iload 8, 2) := by decide +kernel
theorem dX5_weighs_82 : decode cX5_weighs 82 = .ok (.lload 6, 2) := by decide +kernel
theorem dX5_weighs_84 : decode cX5_weighs 84 = .ok (.invokevirtual 117, 3) := by decide +kernel
theorem dX5_weighs_87 : decode cX5_weighs 87 = .ok (.iinc 8 1, 3) := by decide +kernel
theorem dX5_weighs_90 : decode cX5_weighs 90 = .ok (.goto (-31), 3) := by decide +kernel
theorem dX5_weighs_93 : decode cX5_weighs 93 = .ok (.return_, 1) := by decide +kernel
theorem dX5_weighsNow_0 : decode cX5_weighsNow 0 = .ok (.aload_n 0, 1) := by decide +kernel
theorem dX5_weighsNow_1 : decode cX5_weighsNow 1 = .ok (.aload_n 0, 1) := by decide +kernel
theorem dX5_weighsNow_2 : decode cX5_weighsNow 2 = .ok (.getfield 16, 3) := by decide +kernel
theorem dX5_weighsNow_5 : decode cX5_weighsNow 5 = .ok (.iconst 0, 1) := by decide +kernel
theorem dX5_weighsNow_6 : decode cX5_weighsNow 6 = .ok (.iaload, 1) := by decide +kernel
theorem dX5_weighsNow_7 : decode cX5_weighsNow 7 = .ok (.aload_n 0, 1) := by decide +kernel
theorem dX5_weighsNow_8 : decode cX5_weighsNow 8 = .ok (.getfield 16, 3) := by decide +kernel
theorem dX5_weighsNow_11 : decode cX5_weighsNow 11 = .ok (.iconst 1, 1) := by decide +kernel
theorem dX5_weighsNow_12 : decode cX5_weighsNow 12 = .ok (.iaload, 1) := by decide +kernel
theorem dX5_weighsNow_13 : decode cX5_weighsNow 13 = .ok (.aload_n 0, 1) := by decide +kernel
theorem dX5_weighsNow_14 : decode cX5_weighsNow 14 = .ok (.getfield 16, 3) := by decide +kernel
theorem dX5_weighsNow_17 : decode cX5_weighsNow 17 = .ok (.iconst 3, 1) := by decide +kernel
theorem dX5_weighsNow_18 : decode cX5_weighsNow 18 = .ok (.iaload, 1) := by decide +kernel
theorem dX5_weighsNow_19 : decode cX5_weighsNow 19 = .ok (.aload_n 0, 1) := by decide +kernel
theorem dX5_weighsNow_20 : decode cX5_weighsNow 20 = .ok (.getfield 16, 3) := by decide +kernel
theorem dX5_weighsNow_23 : decode cX5_weighsNow 23 = .ok (.iconst 4, 1) := by decide +kernel
theorem dX5_weighsNow_24 : decode cX5_weighsNow 24 = .ok (.iaload, 1) := by decide +kernel
theorem dX5_weighsNow_25 : decode cX5_weighsNow 25 = .ok (.iload_n 1, 1) := by decide +kernel
theorem dX5_weighsNow_26 : decode cX5_weighsNow 26 = .ok (.invokevirtual 121, 3) := by decide +kernel
theorem dX5_weighsNow_29 : decode cX5_weighsNow 29 = .ok (.return_, 1) := by decide +kernel
theorem dX5_cut_0 : decode cX5_cut 0 = .ok (.ldc2_w 125, 3) := by decide +kernel
theorem dX5_cut_3 : decode cX5_cut 3 = .ok (.lload_n 0, 1) := by decide +kernel
theorem dX5_cut_4 : decode cX5_cut 4 = .ok (.lmul, 1) := by decide +kernel
theorem dX5_cut_5 : decode cX5_cut 5 = .ok (.lload_n 2, 1) := by decide +kernel
theorem dX5_cut_6 : decode cX5_cut 6 = .ok (.ldiv, 1) := by decide +kernel
theorem dX5_cut_7 : decode cX5_cut 7 = .ok (.l2i, 1) := by decide +kernel
theorem dX5_cut_8 : decode cX5_cut 8 = .ok (.ireturn, 1) := by decide +kernel
theorem dX5_isEnd_0 : decode cX5_isEnd 0 = .ok (.iload_n 0, 1) := by decide +kernel
theorem dX5_isEnd_1 : decode cX5_isEnd 1 = .ok (.iconst 0, 1) := by decide +kernel
theorem dX5_isEnd_2 : decode cX5_isEnd 2 = .ok (.iconst 1, 1) := by decide +kernel
theorem dX5_isEnd_3 : decode cX5_isEnd 3 = .ok (.invokestatic 47, 3) := by decide +kernel
theorem dX5_isEnd_6 : decode cX5_isEnd 6 = .ok (.ireturn, 1) := by decide +kernel
theorem dX5_left_0 : decode cX5_left 0 = .ok (.iload_n 1, 1) := by decide +kernel
theorem dX5_left_1 : decode cX5_left 1 = .ok (.invokestatic 127, 3) := by decide +kernel
theorem dX5_left_4 : decode cX5_left 4 = .ok (.ifCond .eq 13, 3) := by decide +kernel
theorem dX5_left_7 : decode cX5_left 7 = .ok (.iload_n 2, 1) := by decide +kernel
theorem dX5_left_8 : decode cX5_left 8 = .ok (.iconst 0, 1) := by decide +kernel
theorem dX5_left_9 : decode cX5_left 9 = .ok (.bipush 10, 2) := by decide +kernel
theorem dX5_left_11 : decode cX5_left 11 = .ok (.invokestatic 47, 3) := by decide +kernel
theorem dX5_left_14 : decode cX5_left 14 = .ok (.ifCond .ne 5, 3) := by decide +kernel
theorem dX5_left_17 : decode cX5_left 17 = .ok (.iconst (-1), 1) := by decide +kernel
theorem dX5_left_18 : decode cX5_left 18 = .ok (.ireturn, 1) := by decide +kernel
theorem dX5_left_19 : decode cX5_left 19 = .ok (.aload_n 0, 1) := by decide +kernel
theorem dX5_left_20 : decode cX5_left 20 = .ok (.iload_n 1, 1) := by decide +kernel
theorem dX5_left_21 : decode cX5_left 21 = .ok (.invokevirtual 130, 3) := by decide +kernel
theorem dX5_left_24 : decode cX5_left 24 = .ok (.aload_n 0, 1) := by decide +kernel
theorem dX5_left_25 : decode cX5_left 25 = .ok (.getfield 35, 3) := by decide +kernel
theorem dX5_left_28 : decode cX5_left 28 = .ok (.iload_n 2, 1) := by decide +kernel
theorem dX5_left_29 : decode cX5_left 29 = .ok (.laload, 1) := by decide +kernel
theorem dX5_left_30 : decode cX5_left 30 = .ok (.ldc2_w 109, 3) := by decide +kernel
theorem dX5_left_33 : decode cX5_left 33 = .ok (.invokestatic 134, 3) := by decide +kernel
theorem dX5_left_36 : decode cX5_left 36 = .ok (.ireturn, 1) := by decide +kernel
theorem dX5_mean_0 : decode cX5_mean 0 = .ok (.iload_n 1, 1) := by decide +kernel
theorem dX5_mean_1 : decode cX5_mean 1 = .ok (.invokestatic 127, 3) := by decide +kernel
theorem dX5_mean_4 : decode cX5_mean 4 = .ok (.ifCond .ne 5, 3) := by decide +kernel
theorem dX5_mean_7 : decode cX5_mean 7 = .ok (.iconst (-1), 1) := by decide +kernel
theorem dX5_mean_8 : decode cX5_mean 8 = .ok (.ireturn, 1) := by decide +kernel
theorem dX5_mean_9 : decode cX5_mean 9 = .ok (.aload_n 0, 1) := by decide +kernel
theorem dX5_mean_10 : decode cX5_mean 10 = .ok (.iload_n 1, 1) := by decide +kernel
theorem dX5_mean_11 : decode cX5_mean 11 = .ok (.invokevirtual 130, 3) := by decide +kernel
theorem dX5_mean_14 : decode cX5_mean 14 = .ok (.lconst 0, 1) := by decide +kernel
theorem dX5_mean_15 : decode cX5_mean 15 = .ok (.lstore_n 2, 1) := by decide +kernel
theorem dX5_mean_16 : decode cX5_mean 16 = .ok (.iconst 0, 1) := by decide +kernel
theorem dX5_mean_17 : decode cX5_mean 17 = .ok (.istore 4, 2) := by decide +kernel
theorem dX5_mean_19 : decode cX5_mean 19 = .ok (.iload 4, 2) := by decide +kernel
theorem dX5_mean_21 : decode cX5_mean 21 = .ok (.bipush 11, 2) := by decide +kernel
theorem dX5_mean_23 : decode cX5_mean 23 = .ok (.if_icmp .ge 23, 3) := by decide +kernel
theorem dX5_mean_26 : decode cX5_mean 26 = .ok (.lload_n 2, 1) := by decide +kernel
theorem dX5_mean_27 : decode cX5_mean 27 = .ok (.iload 4, 2) := by decide +kernel
theorem dX5_mean_29 : decode cX5_mean 29 = .ok (.i2l, 1) := by decide +kernel
theorem dX5_mean_30 : decode cX5_mean 30 = .ok (.aload_n 0, 1) := by decide +kernel
theorem dX5_mean_31 : decode cX5_mean 31 = .ok (.getfield 35, 3) := by decide +kernel
theorem dX5_mean_34 : decode cX5_mean 34 = .ok (.iload 4, 2) := by decide +kernel
theorem dX5_mean_36 : decode cX5_mean 36 = .ok (.laload, 1) := by decide +kernel
theorem dX5_mean_37 : decode cX5_mean 37 = .ok (.lmul, 1) := by decide +kernel
theorem dX5_mean_38 : decode cX5_mean 38 = .ok (.ladd, 1) := by decide +kernel
theorem dX5_mean_39 : decode cX5_mean 39 = .ok (.lstore_n 2, 1) := by decide +kernel
theorem dX5_mean_40 : decode cX5_mean 40 = .ok (.iinc 4 1, 3) := by decide +kernel
theorem dX5_mean_43 : decode cX5_mean 43 = .ok (.goto (-24), 3) := by decide +kernel
theorem dX5_mean_46 : decode cX5_mean 46 = .ok (.ldc2_w 138, 3) := by decide +kernel
theorem dX5_mean_49 : decode cX5_mean 49 = .ok (.lload_n 2, 1) := by decide +kernel
theorem dX5_mean_50 : decode cX5_mean 50 = .ok (.lmul, 1) := by decide +kernel
theorem dX5_mean_51 : decode cX5_mean 51 = .ok (.ldc2_w 109, 3) := by decide +kernel
theorem dX5_mean_54 : decode cX5_mean 54 = .ok (.ldiv, 1) := by decide +kernel
theorem dX5_mean_55 : decode cX5_mean 55 = .ok (.l2i, 1) := by decide +kernel
theorem dX5_mean_56 : decode cX5_mean 56 = .ok (.ireturn, 1) := by decide +kernel
theorem dX5_within_0 : decode cX5_within 0 = .ok (.lconst 0, 1) := by decide +kernel
theorem dX5_within_1 : decode cX5_within 1 = .ok (.lstore_n 2, 1) := by decide +kernel
theorem dX5_within_2 : decode cX5_within 2 = .ok (.iconst 0, 1) := by decide +kernel
theorem dX5_within_3 : decode cX5_within 3 = .ok (.istore 4, 2) := by decide +kernel
theorem dX5_within_5 : decode cX5_within 5 = .ok (.iload 4, 2) := by decide +kernel
theorem dX5_within_7 : decode cX5_within 7 = .ok (.iload_n 1, 1) := by decide +kernel
theorem dX5_within_8 : decode cX5_within 8 = .ok (.if_icmp .gt 19, 3) := by decide +kernel
theorem dX5_within_11 : decode cX5_within 11 = .ok (.lload_n 2, 1) := by decide +kernel
theorem dX5_within_12 : decode cX5_within 12 = .ok (.aload_n 0, 1) := by decide +kernel
theorem dX5_within_13 : decode cX5_within 13 = .ok (.getfield 38, 3) := by decide +kernel
theorem dX5_within_16 : decode cX5_within 16 = .ok (.iload 4, 2) := by decide +kernel
theorem dX5_within_18 : decode cX5_within 18 = .ok (.laload, 1) := by decide +kernel
theorem dX5_within_19 : decode cX5_within 19 = .ok (.ladd, 1) := by decide +kernel
theorem dX5_within_20 : decode cX5_within 20 = .ok (.lstore_n 2, 1) := by decide +kernel
theorem dX5_within_21 : decode cX5_within 21 = .ok (.iinc 4 1, 3) := by decide +kernel
theorem dX5_within_24 : decode cX5_within 24 = .ok (.goto (-19), 3) := by decide +kernel
theorem dX5_within_27 : decode cX5_within 27 = .ok (.lload_n 2, 1) := by decide +kernel
theorem dX5_within_28 : decode cX5_within 28 = .ok (.lreturn, 1) := by decide +kernel
theorem dX5_soon_0 : decode cX5_soon 0 = .ok (.iload_n 1, 1) := by decide +kernel
theorem dX5_soon_1 : decode cX5_soon 1 = .ok (.invokestatic 127, 3) := by decide +kernel
theorem dX5_soon_4 : decode cX5_soon 4 = .ok (.ifCond .eq 13, 3) := by decide +kernel
theorem dX5_soon_7 : decode cX5_soon 7 = .ok (.iload_n 2, 1) := by decide +kernel
theorem dX5_soon_8 : decode cX5_soon 8 = .ok (.iconst 0, 1) := by decide +kernel
theorem dX5_soon_9 : decode cX5_soon 9 = .ok (.bipush 21, 2) := by decide +kernel
theorem dX5_soon_11 : decode cX5_soon 11 = .ok (.invokestatic 47, 3) := by decide +kernel
theorem dX5_soon_14 : decode cX5_soon 14 = .ok (.ifCond .ne 5, 3) := by decide +kernel
theorem dX5_soon_17 : decode cX5_soon 17 = .ok (.iconst (-1), 1) := by decide +kernel
theorem dX5_soon_18 : decode cX5_soon 18 = .ok (.ireturn, 1) := by decide +kernel
theorem dX5_soon_19 : decode cX5_soon 19 = .ok (.aload_n 0, 1) := by decide +kernel
theorem dX5_soon_20 : decode cX5_soon 20 = .ok (.iload_n 1, 1) := by decide +kernel
theorem dX5_soon_21 : decode cX5_soon 21 = .ok (.invokevirtual 130, 3) := by decide +kernel
theorem dX5_soon_24 : decode cX5_soon 24 = .ok (.aload_n 0, 1) := by decide +kernel
theorem dX5_soon_25 : decode cX5_soon 25 = .ok (.iload_n 2, 1) := by decide +kernel
theorem dX5_soon_26 : decode cX5_soon 26 = .ok (.invokevirtual 140, 3) := by decide +kernel
theorem dX5_soon_29 : decode cX5_soon 29 = .ok (.ldc2_w 109, 3) := by decide +kernel
theorem dX5_soon_32 : decode cX5_soon 32 = .ok (.invokestatic 134, 3) := by decide +kernel
theorem dX5_soon_35 : decode cX5_soon 35 = .ok (.ireturn, 1) := by decide +kernel
theorem dX5_reaches_0 : decode cX5_reaches 0 = .ok (.lconst 0, 1) := by decide +kernel
theorem dX5_reaches_1 : decode cX5_reaches 1 = .ok (.lstore_n 1, 1) := by decide +kernel
theorem dX5_reaches_2 : decode cX5_reaches 2 = .ok (.iconst 0, 1) := by decide +kernel
theorem dX5_reaches_3 : decode cX5_reaches 3 = .ok (.istore_n 3, 1) := by decide +kernel
theorem dX5_reaches_4 : decode cX5_reaches 4 = .ok (.iload_n 3, 1) := by decide +kernel
theorem dX5_reaches_5 : decode cX5_reaches 5 = .ok (.bipush 22, 2) := by decide +kernel
theorem dX5_reaches_7 : decode cX5_reaches 7 = .ok (.if_icmp .ge 21, 3) := by decide +kernel
theorem dX5_reaches_10 : decode cX5_reaches 10 = .ok (.lload_n 1, 1) := by decide +kernel
theorem dX5_reaches_11 : decode cX5_reaches 11 = .ok (.iload_n 3, 1) := by decide +kernel
theorem dX5_reaches_12 : decode cX5_reaches 12 = .ok (.i2l, 1) := by decide +kernel
theorem dX5_reaches_13 : decode cX5_reaches 13 = .ok (.aload_n 0, 1) := by decide +kernel
theorem dX5_reaches_14 : decode cX5_reaches 14 = .ok (.getfield 38, 3) := by decide +kernel
theorem dX5_reaches_17 : decode cX5_reaches 17 = .ok (.iload_n 3, 1) := by decide +kernel
theorem dX5_reaches_18 : decode cX5_reaches 18 = .ok (.laload, 1) := by decide +kernel
theorem dX5_reaches_19 : decode cX5_reaches 19 = .ok (.lmul, 1) := by decide +kernel
theorem dX5_reaches_20 : decode cX5_reaches 20 = .ok (.ladd, 1) := by decide +kernel
theorem dX5_reaches_21 : decode cX5_reaches 21 = .ok (.lstore_n 1, 1) := by decide +kernel
theorem dX5_reaches_22 : decode cX5_reaches 22 = .ok (.iinc 3 1, 3) := by decide +kernel
theorem dX5_reaches_25 : decode cX5_reaches 25 = .ok (.goto (-21), 3) := by decide +kernel
theorem dX5_reaches_28 : decode cX5_reaches 28 = .ok (.lload_n 1, 1) := by decide +kernel
theorem dX5_reaches_29 : decode cX5_reaches 29 = .ok (.lreturn, 1) := by decide +kernel
theorem dX5_times_0 : decode cX5_times 0 = .ok (.iload_n 1, 1) := by decide +kernel
theorem dX5_times_1 : decode cX5_times 1 = .ok (.invokestatic 127, 3) := by decide +kernel
theorem dX5_times_4 : decode cX5_times 4 = .ok (.ifCond .ne 5, 3) := by decide +kernel
theorem dX5_times_7 : decode cX5_times 7 = .ok (.iconst (-1), 1) := by decide +kernel
theorem dX5_times_8 : decode cX5_times 8 = .ok (.ireturn, 1) := by decide +kernel
theorem dX5_times_9 : decode cX5_times 9 = .ok (.aload_n 0, 1) := by decide +kernel
theorem dX5_times_10 : decode cX5_times 10 = .ok (.iload_n 1, 1) := by decide +kernel
theorem dX5_times_11 : decode cX5_times 11 = .ok (.invokevirtual 130, 3) := by decide +kernel
theorem dX5_times_14 : decode cX5_times 14 = .ok (.ldc2_w 138, 3) := by decide +kernel
theorem dX5_times_17 : decode cX5_times 17 = .ok (.aload_n 0, 1) := by decide +kernel
theorem dX5_times_18 : decode cX5_times 18 = .ok (.invokevirtual 144, 3) := by decide +kernel
theorem dX5_times_21 : decode cX5_times 21 = .ok (.lmul, 1) := by decide +kernel
theorem dX5_times_22 : decode cX5_times 22 = .ok (.ldc2_w 109, 3) := by decide +kernel
theorem dX5_times_25 : decode cX5_times 25 = .ok (.ldiv, 1) := by decide +kernel
theorem dX5_times_26 : decode cX5_times 26 = .ok (.l2i, 1) := by decide +kernel
theorem dX5_times_27 : decode cX5_times 27 = .ok (.ireturn, 1) := by decide +kernel
theorem dX5_likeliest_0 : decode cX5_likeliest 0 = .ok (.iload_n 1, 1) := by decide +kernel
theorem dX5_likeliest_1 : decode cX5_likeliest 1 = .ok (.invokestatic 127, 3) := by decide +kernel
theorem dX5_likeliest_4 : decode cX5_likeliest 4 = .ok (.ifCond .ne 5, 3) := by decide +kernel
theorem dX5_likeliest_7 : decode cX5_likeliest 7 = .ok (.iconst (-1), 1) := by decide +kernel
theorem dX5_likeliest_8 : decode cX5_likeliest 8 = .ok (.ireturn, 1) := by decide +kernel
theorem dX5_likeliest_9 : decode cX5_likeliest 9 = .ok (.aload_n 0, 1) := by decide +kernel
theorem dX5_likeliest_10 : decode cX5_likeliest 10 = .ok (.iload_n 1, 1) := by decide +kernel
theorem dX5_likeliest_11 : decode cX5_likeliest 11 = .ok (.invokevirtual 130, 3) := by decide +kernel
theorem dX5_likeliest_14 : decode cX5_likeliest 14 = .ok (.iconst 0, 1) := by decide +kernel
theorem dX5_likeliest_15 : decode cX5_likeliest 15 = .ok (.istore_n 2, 1) := by decide +kernel
theorem dX5_likeliest_16 : decode cX5_likeliest 16 = .ok (.iconst 1, 1) := by decide +kernel
theorem dX5_likeliest_17 : decode cX5_likeliest 17 = .ok (.istore_n 3, 1) := by decide +kernel
theorem dX5_likeliest_18 : decode cX5_likeliest 18 = .ok (.iload_n 3, 1) := by decide +kernel
theorem dX5_likeliest_19 : decode cX5_likeliest 19 = .ok (.bipush 11, 2) := by decide +kernel
theorem dX5_likeliest_21 : decode cX5_likeliest 21 = .ok (.if_icmp .ge 31, 3) := by decide +kernel
theorem dX5_likeliest_24 : decode cX5_likeliest 24 = .ok (.aload_n 0, 1) := by decide +kernel
theorem dX5_likeliest_25 : decode cX5_likeliest 25 = .ok (.getfield 35, 3) := by decide +kernel
theorem dX5_likeliest_28 : decode cX5_likeliest 28 = .ok (.iload_n 3, 1) := by decide +kernel
theorem dX5_likeliest_29 : decode cX5_likeliest 29 = .ok (.laload, 1) := by decide +kernel
theorem dX5_likeliest_30 : decode cX5_likeliest 30 = .ok (.aload_n 0, 1) := by decide +kernel
theorem dX5_likeliest_31 : decode cX5_likeliest 31 = .ok (.getfield 35, 3) := by decide +kernel
theorem dX5_likeliest_34 : decode cX5_likeliest 34 = .ok (.iload_n 2, 1) := by decide +kernel
theorem dX5_likeliest_35 : decode cX5_likeliest 35 = .ok (.laload, 1) := by decide +kernel
theorem dX5_likeliest_36 : decode cX5_likeliest 36 = .ok (.lcmp, 1) := by decide +kernel
theorem dX5_likeliest_37 : decode cX5_likeliest 37 = .ok (.ifCond .le 7, 3) := by decide +kernel
theorem dX5_likeliest_40 : decode cX5_likeliest 40 = .ok (.iload_n 3, 1) := by decide +kernel
theorem dX5_likeliest_41 : decode cX5_likeliest 41 = .ok (.goto 4, 3) := by decide +kernel
theorem dX5_likeliest_44 : decode cX5_likeliest 44 = .ok (.iload_n 2, 1) := by decide +kernel
theorem dX5_likeliest_45 : decode cX5_likeliest 45 = .ok (.istore_n 2, 1) := by decide +kernel
theorem dX5_likeliest_46 : decode cX5_likeliest 46 = .ok (.iinc 3 1, 3) := by decide +kernel
theorem dX5_likeliest_49 : decode cX5_likeliest 49 = .ok (.goto (-31), 3) := by decide +kernel
theorem dX5_likeliest_52 : decode cX5_likeliest 52 = .ok (.iload_n 2, 1) := by decide +kernel
theorem dX5_likeliest_53 : decode cX5_likeliest 53 = .ok (.ireturn, 1) := by decide +kernel
theorem dX5_level_0 : decode cX5_level 0 = .ok (.iload_n 1, 1) := by decide +kernel
theorem dX5_level_1 : decode cX5_level 1 = .ok (.iconst 0, 1) := by decide +kernel
theorem dX5_level_2 : decode cX5_level 2 = .ok (.bipush 20, 2) := by decide +kernel
theorem dX5_level_4 : decode cX5_level 4 = .ok (.invokestatic 47, 3) := by decide +kernel
theorem dX5_level_7 : decode cX5_level 7 = .ok (.ifCond .ne 5, 3) := by decide +kernel
theorem dX5_level_10 : decode cX5_level 10 = .ok (.iconst (-1), 1) := by decide +kernel
theorem dX5_level_11 : decode cX5_level 11 = .ok (.ireturn, 1) := by decide +kernel
theorem dX5_level_12 : decode cX5_level 12 = .ok (.aload_n 0, 1) := by decide +kernel
theorem dX5_level_13 : decode cX5_level 13 = .ok (.invokevirtual 106, 3) := by decide +kernel
theorem dX5_level_16 : decode cX5_level 16 = .ok (.aload_n 0, 1) := by decide +kernel
theorem dX5_level_17 : decode cX5_level 17 = .ok (.aload_n 0, 1) := by decide +kernel
theorem dX5_level_18 : decode cX5_level 18 = .ok (.getfield 16, 3) := by decide +kernel
theorem dX5_level_21 : decode cX5_level 21 = .ok (.iconst 0, 1) := by decide +kernel
theorem dX5_level_22 : decode cX5_level 22 = .ok (.iaload, 1) := by decide +kernel
theorem dX5_level_23 : decode cX5_level 23 = .ok (.aload_n 0, 1) := by decide +kernel
theorem dX5_level_24 : decode cX5_level 24 = .ok (.getfield 16, 3) := by decide +kernel
theorem dX5_level_27 : decode cX5_level 27 = .ok (.iconst 1, 1) := by decide +kernel
theorem dX5_level_28 : decode cX5_level 28 = .ok (.iaload, 1) := by decide +kernel
theorem dX5_level_29 : decode cX5_level 29 = .ok (.aload_n 0, 1) := by decide +kernel
theorem dX5_level_30 : decode cX5_level 30 = .ok (.getfield 16, 3) := by decide +kernel
theorem dX5_level_33 : decode cX5_level 33 = .ok (.iconst 2, 1) := by decide +kernel
theorem dX5_level_34 : decode cX5_level 34 = .ok (.iaload, 1) := by decide +kernel
theorem dX5_level_35 : decode cX5_level 35 = .ok (.invokevirtual 111, 3) := by decide +kernel
theorem dX5_level_38 : decode cX5_level 38 = .ok (.lconst 1, 1) := by decide +kernel
theorem dX5_level_39 : decode cX5_level 39 = .ok (.lstore_n 2, 1) := by decide +kernel
theorem dX5_level_40 : decode cX5_level 40 = .ok (.iconst 1, 1) := by decide +kernel
theorem dX5_level_41 : decode cX5_level 41 = .ok (.istore 4, 2) := by decide +kernel
theorem dX5_level_43 : decode cX5_level 43 = .ok (.iload 4, 2) := by decide +kernel
theorem dX5_level_45 : decode cX5_level 45 = .ok (.iload_n 1, 1) := by decide +kernel
theorem dX5_level_46 : decode cX5_level 46 = .ok (.if_icmp .gt 35, 3) := by decide +kernel
theorem dX5_level_49 : decode cX5_level 49 = .ok (.aload_n 0, 1) := by decide +kernel
theorem dX5_level_50 : decode cX5_level 50 = .ok (.aload_n 0, 1) := by decide +kernel
theorem dX5_level_51 : decode cX5_level 51 = .ok (.getfield 16, 3) := by decide +kernel
theorem dX5_level_54 : decode cX5_level 54 = .ok (.iconst 3, 1) := by decide +kernel
theorem dX5_level_55 : decode cX5_level 55 = .ok (.iaload, 1) := by decide +kernel
theorem dX5_level_56 : decode cX5_level 56 = .ok (.aload_n 0, 1) := by decide +kernel
theorem dX5_level_57 : decode cX5_level 57 = .ok (.getfield 16, 3) := by decide +kernel
theorem dX5_level_60 : decode cX5_level 60 = .ok (.iconst 4, 1) := by decide +kernel
theorem dX5_level_61 : decode cX5_level 61 = .ok (.iaload, 1) := by decide +kernel
theorem dX5_level_62 : decode cX5_level 62 = .ok (.iconst 0, 1) := by decide +kernel
theorem dX5_level_63 : decode cX5_level 63 = .ok (.iload 4, 2) := by decide +kernel
theorem dX5_level_65 : decode cX5_level 65 = .ok (.lconst 0, 1) := by decide +kernel
theorem dX5_level_66 : decode cX5_level 66 = .ok (.invokevirtual 117, 3) := by decide +kernel
theorem dX5_level_69 : decode cX5_level 69 = .ok (.lload_n 2, 1) := by decide +kernel
theorem dX5_level_70 : decode cX5_level 70 = .ok (.ldc2_w 115, 3) := by decide +kernel
theorem dX5_level_73 : decode cX5_level 73 = .ok (.lmul, 1) := by decide +kernel
theorem dX5_level_74 : decode cX5_level 74 = .ok (.lstore_n 2, 1) := by decide +kernel
theorem dX5_level_75 : decode cX5_level 75 = .ok (.iinc 4 1, 3) := by decide +kernel
theorem dX5_level_78 : decode cX5_level 78 = .ok (.goto (-35), 3) := by decide +kernel
theorem dX5_level_81 : decode cX5_level 81 = .ok (.lconst 0, 1) := by decide +kernel
theorem dX5_level_82 : decode cX5_level 82 = .ok (.lstore 4, 2) := by decide +kernel
theorem dX5_level_84 : decode cX5_level 84 = .ok (.iconst 0, 1) := by decide +kernel
theorem dX5_level_85 : decode cX5_level 85 = .ok (.istore 6, 2) := by decide +kernel
theorem dX5_level_87 : decode cX5_level 87 = .ok (.iload 6, 2) := by decide +kernel
theorem dX5_level_89 : decode cX5_level 89 = .ok (.bipush 11, 2) := by decide +kernel
theorem dX5_level_91 : decode cX5_level 91 = .ok (.if_icmp .ge 43, 3) := by decide +kernel
theorem dX5_level_94 : decode cX5_level 94 = .ok (.iconst 0, 1) := by decide +kernel
theorem dX5_level_95 : decode cX5_level 95 = .ok (.istore 7, 2) := by decide +kernel
theorem dX5_level_97 : decode cX5_level 97 = .ok (.iload 7, 2) := by decide +kernel
theorem dX5_level_99 : decode cX5_level 99 = .ok (.iconst 3, 1) := by decide +kernel
theorem dX5_level_100 : decode cX5_level 100 = .ok (.if_icmp .ge 28, 3) := by decide +kernel
theorem dX5_level_103 : decode cX5_level 103 = .ok (.lload 4, 2) := by decide +kernel
theorem dX5_level_105 : decode cX5_level 105 = .ok (.aload_n 0, 1) := by decide +kernel
theorem dX5_level_106 : decode cX5_level 106 = .ok (.getfield 28, 3) := by decide +kernel
theorem dX5_level_109 : decode cX5_level 109 = .ok (.iload 6, 2) := by decide +kernel
theorem dX5_level_111 : decode cX5_level 111 = .ok (.iload 6, 2) := by decide +kernel
theorem dX5_level_113 : decode cX5_level 113 = .ok (.iload 7, 2) := by decide +kernel
theorem dX5_level_115 : decode cX5_level 115 = .ok (.invokestatic 99, 3) := by decide +kernel
theorem dX5_level_118 : decode cX5_level 118 = .ok (.laload, 1) := by decide +kernel
theorem dX5_level_119 : decode cX5_level 119 = .ok (.ladd, 1) := by decide +kernel
theorem dX5_level_120 : decode cX5_level 120 = .ok (.lstore 4, 2) := by decide +kernel
theorem dX5_level_122 : decode cX5_level 122 = .ok (.iinc 7 1, 3) := by decide +kernel
theorem dX5_level_125 : decode cX5_level 125 = .ok (.goto (-28), 3) := by decide +kernel
theorem dX5_level_128 : decode cX5_level 128 = .ok (.iinc 6 1, 3) := by decide +kernel
theorem dX5_level_131 : decode cX5_level 131 = .ok (.goto (-44), 3) := by decide +kernel
theorem dX5_level_134 : decode cX5_level 134 = .ok (.lload 4, 2) := by decide +kernel
theorem dX5_level_136 : decode cX5_level 136 = .ok (.lload_n 2, 1) := by decide +kernel
theorem dX5_level_137 : decode cX5_level 137 = .ok (.invokestatic 134, 3) := by decide +kernel
theorem dX5_level_140 : decode cX5_level 140 = .ok (.ireturn, 1) := by decide +kernel
theorem dX5_reachesFrom_0 : decode cX5_reachesFrom 0 = .ok (.aload_n 0, 1) := by decide +kernel
theorem dX5_reachesFrom_1 : decode cX5_reachesFrom 1 = .ok (.iload_n 1, 1) := by decide +kernel
theorem dX5_reachesFrom_2 : decode cX5_reachesFrom 2 = .ok (.iload_n 2, 1) := by decide +kernel
theorem dX5_reachesFrom_3 : decode cX5_reachesFrom 3 = .ok (.aload_n 0, 1) := by decide +kernel
theorem dX5_reachesFrom_4 : decode cX5_reachesFrom 4 = .ok (.getfield 16, 3) := by decide +kernel
theorem dX5_reachesFrom_7 : decode cX5_reachesFrom 7 = .ok (.iconst 3, 1) := by decide +kernel
theorem dX5_reachesFrom_8 : decode cX5_reachesFrom 8 = .ok (.iaload, 1) := by decide +kernel
theorem dX5_reachesFrom_9 : decode cX5_reachesFrom 9 = .ok (.aload_n 0, 1) := by decide +kernel
theorem dX5_reachesFrom_10 : decode cX5_reachesFrom 10 = .ok (.getfield 16, 3) := by decide +kernel
theorem dX5_reachesFrom_13 : decode cX5_reachesFrom 13 = .ok (.iconst 4, 1) := by decide +kernel
theorem dX5_reachesFrom_14 : decode cX5_reachesFrom 14 = .ok (.iaload, 1) := by decide +kernel
theorem dX5_reachesFrom_15 : decode cX5_reachesFrom 15 = .ok (.iconst 0, 1) := by decide +kernel
theorem dX5_reachesFrom_16 : decode cX5_reachesFrom 16 = .ok (.invokevirtual 121, 3) := by decide +kernel
theorem dX5_reachesFrom_19 : decode cX5_reachesFrom 19 = .ok (.aload_n 0, 1) := by decide +kernel
theorem dX5_reachesFrom_20 : decode cX5_reachesFrom 20 = .ok (.invokevirtual 144, 3) := by decide +kernel
theorem dX5_reachesFrom_23 : decode cX5_reachesFrom 23 = .ok (.lreturn, 1) := by decide +kernel
theorem dX5_worth_0 : decode cX5_worth 0 = .ok (.iload_n 1, 1) := by decide +kernel
theorem dX5_worth_1 : decode cX5_worth 1 = .ok (.iconst 0, 1) := by decide +kernel
theorem dX5_worth_2 : decode cX5_worth 2 = .ok (.iconst 1, 1) := by decide +kernel
theorem dX5_worth_3 : decode cX5_worth 3 = .ok (.invokestatic 47, 3) := by decide +kernel
theorem dX5_worth_6 : decode cX5_worth 6 = .ok (.ifCond .ne 5, 3) := by decide +kernel
theorem dX5_worth_9 : decode cX5_worth 9 = .ok (.iconst (-1), 1) := by decide +kernel
theorem dX5_worth_10 : decode cX5_worth 10 = .ok (.ireturn, 1) := by decide +kernel
theorem dX5_worth_11 : decode cX5_worth 11 = .ok (.aload_n 0, 1) := by decide +kernel
theorem dX5_worth_12 : decode cX5_worth 12 = .ok (.getfield 16, 3) := by decide +kernel
theorem dX5_worth_15 : decode cX5_worth 15 = .ok (.iload_n 1, 1) := by decide +kernel
theorem dX5_worth_16 : decode cX5_worth 16 = .ok (.iaload, 1) := by decide +kernel
theorem dX5_worth_17 : decode cX5_worth 17 = .ok (.bipush 10, 2) := by decide +kernel
theorem dX5_worth_19 : decode cX5_worth 19 = .ok (.if_icmp .ne 6, 3) := by decide +kernel
theorem dX5_worth_22 : decode cX5_worth 22 = .ok (.bipush (-3), 2) := by decide +kernel
theorem dX5_worth_24 : decode cX5_worth 24 = .ok (.ireturn, 1) := by decide +kernel
theorem dX5_worth_25 : decode cX5_worth 25 = .ok (.iload_n 1, 1) := by decide +kernel
theorem dX5_worth_26 : decode cX5_worth 26 = .ok (.ifCond .ne 24, 3) := by decide +kernel
theorem dX5_worth_29 : decode cX5_worth 29 = .ok (.aload_n 0, 1) := by decide +kernel
theorem dX5_worth_30 : decode cX5_worth 30 = .ok (.aload_n 0, 1) := by decide +kernel
theorem dX5_worth_31 : decode cX5_worth 31 = .ok (.getfield 16, 3) := by decide +kernel
theorem dX5_worth_34 : decode cX5_worth 34 = .ok (.iconst 0, 1) := by decide +kernel
theorem dX5_worth_35 : decode cX5_worth 35 = .ok (.iaload, 1) := by decide +kernel
theorem dX5_worth_36 : decode cX5_worth 36 = .ok (.iconst 1, 1) := by decide +kernel
theorem dX5_worth_37 : decode cX5_worth 37 = .ok (.iadd, 1) := by decide +kernel
theorem dX5_worth_38 : decode cX5_worth 38 = .ok (.aload_n 0, 1) := by decide +kernel
theorem dX5_worth_39 : decode cX5_worth 39 = .ok (.getfield 16, 3) := by decide +kernel
theorem dX5_worth_42 : decode cX5_worth 42 = .ok (.iconst 1, 1) := by decide +kernel
theorem dX5_worth_43 : decode cX5_worth 43 = .ok (.iaload, 1) := by decide +kernel
theorem dX5_worth_44 : decode cX5_worth 44 = .ok (.invokevirtual 148, 3) := by decide +kernel
theorem dX5_worth_47 : decode cX5_worth 47 = .ok (.goto 21, 3) := by decide +kernel
theorem dX5_worth_50 : decode cX5_worth 50 = .ok (.aload_n 0, 1) := by decide +kernel
theorem dX5_worth_51 : decode cX5_worth 51 = .ok (.aload_n 0, 1) := by decide +kernel
theorem dX5_worth_52 : decode cX5_worth 52 = .ok (.getfield 16, 3) := by decide +kernel
theorem dX5_worth_55 : decode cX5_worth 55 = .ok (.iconst 0, 1) := by decide +kernel
theorem dX5_worth_56 : decode cX5_worth 56 = .ok (.iaload, 1) := by decide +kernel
theorem dX5_worth_57 : decode cX5_worth 57 = .ok (.aload_n 0, 1) := by decide +kernel
theorem dX5_worth_58 : decode cX5_worth 58 = .ok (.getfield 16, 3) := by decide +kernel
theorem dX5_worth_61 : decode cX5_worth 61 = .ok (.iconst 1, 1) := by decide +kernel
theorem dX5_worth_62 : decode cX5_worth 62 = .ok (.iaload, 1) := by decide +kernel
theorem dX5_worth_63 : decode cX5_worth 63 = .ok (.iconst 1, 1) := by decide +kernel
theorem dX5_worth_64 : decode cX5_worth 64 = .ok (.iadd, 1) := by decide +kernel
theorem dX5_worth_65 : decode cX5_worth 65 = .ok (.invokevirtual 148, 3) := by decide +kernel
theorem dX5_worth_68 : decode cX5_worth 68 = .ok (.lstore_n 2, 1) := by decide +kernel
theorem dX5_worth_69 : decode cX5_worth 69 = .ok (.ldc2_w 138, 3) := by decide +kernel
theorem dX5_worth_72 : decode cX5_worth 72 = .ok (.lload_n 2, 1) := by decide +kernel
theorem dX5_worth_73 : decode cX5_worth 73 = .ok (.aload_n 0, 1) := by decide +kernel
theorem dX5_worth_74 : decode cX5_worth 74 = .ok (.aload_n 0, 1) := by decide +kernel
theorem dX5_worth_75 : decode cX5_worth 75 = .ok (.getfield 16, 3) := by decide +kernel
theorem dX5_worth_78 : decode cX5_worth 78 = .ok (.iconst 0, 1) := by decide +kernel
theorem dX5_worth_79 : decode cX5_worth 79 = .ok (.iaload, 1) := by decide +kernel
theorem dX5_worth_80 : decode cX5_worth 80 = .ok (.aload_n 0, 1) := by decide +kernel
theorem dX5_worth_81 : decode cX5_worth 81 = .ok (.getfield 16, 3) := by decide +kernel
theorem dX5_worth_84 : decode cX5_worth 84 = .ok (.iconst 1, 1) := by decide +kernel
theorem dX5_worth_85 : decode cX5_worth 85 = .ok (.iaload, 1) := by decide +kernel
theorem dX5_worth_86 : decode cX5_worth 86 = .ok (.invokevirtual 148, 3) := by decide +kernel
theorem dX5_worth_89 : decode cX5_worth 89 = .ok (.lsub, 1) := by decide +kernel
theorem dX5_worth_90 : decode cX5_worth 90 = .ok (.lmul, 1) := by decide +kernel
theorem dX5_worth_91 : decode cX5_worth 91 = .ok (.ldc2_w 109, 3) := by decide +kernel
theorem dX5_worth_94 : decode cX5_worth 94 = .ok (.ldiv, 1) := by decide +kernel
theorem dX5_worth_95 : decode cX5_worth 95 = .ok (.l2i, 1) := by decide +kernel
theorem dX5_worth_96 : decode cX5_worth 96 = .ok (.sipush 10000, 3) := by decide +kernel
theorem dX5_worth_99 : decode cX5_worth 99 = .ok (.iadd, 1) := by decide +kernel
theorem dX5_worth_100 : decode cX5_worth 100 = .ok (.ireturn, 1) := by decide +kernel
theorem dX5_begin_0 : decode cX5_begin 0 = .ok (.iload_n 1, 1) := by decide +kernel
theorem dX5_begin_1 : decode cX5_begin 1 = .ok (.iconst 0, 1) := by decide +kernel
theorem dX5_begin_2 : decode cX5_begin 2 = .ok (.bipush 20, 2) := by decide +kernel
theorem dX5_begin_4 : decode cX5_begin 4 = .ok (.invokestatic 47, 3) := by decide +kernel
theorem dX5_begin_7 : decode cX5_begin 7 = .ok (.ifCond .eq 22, 3) := by decide +kernel
theorem dX5_begin_10 : decode cX5_begin 10 = .ok (.iload_n 2, 1) := by decide +kernel
theorem dX5_begin_11 : decode cX5_begin 11 = .ok (.iconst 0, 1) := by decide +kernel
theorem dX5_begin_12 : decode cX5_begin 12 = .ok (.bipush 21, 2) := by decide +kernel
theorem dX5_begin_14 : decode cX5_begin 14 = .ok (.invokestatic 47, 3) := by decide +kernel
theorem dX5_begin_17 : decode cX5_begin 17 = .ok (.ifCond .eq 12, 3) := by decide +kernel
theorem dX5_begin_20 : decode cX5_begin 20 = .ok (.iload_n 3, 1) := by decide +kernel
theorem dX5_begin_21 : decode cX5_begin 21 = .ok (.iconst 0, 1) := by decide +kernel
theorem dX5_begin_22 : decode cX5_begin 22 = .ok (.iconst 1, 1) := by decide +kernel
theorem dX5_begin_23 : decode cX5_begin 23 = .ok (.invokestatic 47, 3) := by decide +kernel
theorem dX5_begin_26 : decode cX5_begin 26 = .ok (.ifCond .ne 5, 3) := by decide +kernel
theorem dX5_begin_29 : decode cX5_begin 29 = .ok (.iconst (-1), 1) := by decide +kernel
theorem dX5_begin_30 : decode cX5_begin 30 = .ok (.ireturn, 1) := by decide +kernel
theorem dX5_begin_31 : decode cX5_begin 31 = .ok (.bipush (-4), 2) := by decide +kernel
theorem dX5_begin_33 : decode cX5_begin 33 = .ok (.istore 4, 2) := by decide +kernel
theorem dX5_begin_35 : decode cX5_begin 35 = .ok (.lconst 0, 1) := by decide +kernel
theorem dX5_begin_36 : decode cX5_begin 36 = .ok (.lstore 5, 2) := by decide +kernel
theorem dX5_begin_38 : decode cX5_begin 38 = .ok (.iconst 0, 1) := by decide +kernel
theorem dX5_begin_39 : decode cX5_begin 39 = .ok (.istore 7, 2) := by decide +kernel
theorem dX5_begin_41 : decode cX5_begin 41 = .ok (.iload 7, 2) := by decide +kernel
theorem dX5_begin_43 : decode cX5_begin 43 = .ok (.bipush 10, 2) := by decide +kernel
theorem dX5_begin_45 : decode cX5_begin 45 = .ok (.if_icmp .gt 101, 3) := by decide +kernel
theorem dX5_begin_48 : decode cX5_begin 48 = .ok (.iload_n 1, 1) := by decide +kernel
theorem dX5_begin_49 : decode cX5_begin 49 = .ok (.iload 7, 2) := by decide +kernel
theorem dX5_begin_51 : decode cX5_begin 51 = .ok (.isub, 1) := by decide +kernel
theorem dX5_begin_52 : decode cX5_begin 52 = .ok (.iconst 0, 1) := by decide +kernel
theorem dX5_begin_53 : decode cX5_begin 53 = .ok (.bipush 10, 2) := by decide +kernel
theorem dX5_begin_55 : decode cX5_begin 55 = .ok (.invokestatic 47, 3) := by decide +kernel
theorem dX5_begin_58 : decode cX5_begin 58 = .ok (.ifCond .eq 82, 3) := by decide +kernel
theorem dX5_begin_61 : decode cX5_begin 61 = .ok (.aload_n 0, 1) := by decide +kernel
theorem dX5_begin_62 : decode cX5_begin 62 = .ok (.iload 7, 2) := by decide +kernel
theorem dX5_begin_64 : decode cX5_begin 64 = .ok (.iload_n 1, 1) := by decide +kernel
theorem dX5_begin_65 : decode cX5_begin 65 = .ok (.iload 7, 2) := by decide +kernel
theorem dX5_begin_67 : decode cX5_begin 67 = .ok (.isub, 1) := by decide +kernel
theorem dX5_begin_68 : decode cX5_begin 68 = .ok (.aload_n 0, 1) := by decide +kernel
theorem dX5_begin_69 : decode cX5_begin 69 = .ok (.getfield 16, 3) := by decide +kernel
theorem dX5_begin_72 : decode cX5_begin 72 = .ok (.iconst 3, 1) := by decide +kernel
theorem dX5_begin_73 : decode cX5_begin 73 = .ok (.iaload, 1) := by decide +kernel
theorem dX5_begin_74 : decode cX5_begin 74 = .ok (.aload_n 0, 1) := by decide +kernel
theorem dX5_begin_75 : decode cX5_begin 75 = .ok (.getfield 16, 3) := by decide +kernel
theorem dX5_begin_78 : decode cX5_begin 78 = .ok (.iconst 4, 1) := by decide +kernel
theorem dX5_begin_79 : decode cX5_begin 79 = .ok (.iaload, 1) := by decide +kernel
theorem dX5_begin_80 : decode cX5_begin 80 = .ok (.iconst 0, 1) := by decide +kernel
theorem dX5_begin_81 : decode cX5_begin 81 = .ok (.invokevirtual 121, 3) := by decide +kernel
theorem dX5_begin_84 : decode cX5_begin 84 = .ok (.iload 4, 2) := by decide +kernel
theorem dX5_begin_86 : decode cX5_begin 86 = .ok (.bipush (-4), 2) := by decide +kernel
theorem dX5_begin_88 : decode cX5_begin 88 = .ok (.if_icmp .eq 14, 3) := by decide +kernel
theorem dX5_begin_91 : decode cX5_begin 91 = .ok (.aload_n 0, 1) := by decide +kernel
theorem dX5_begin_92 : decode cX5_begin 92 = .ok (.iload_n 2, 1) := by decide +kernel
theorem dX5_begin_93 : decode cX5_begin 93 = .ok (.invokevirtual 140, 3) := by decide +kernel
theorem dX5_begin_96 : decode cX5_begin 96 = .ok (.lload 5, 2) := by decide +kernel
theorem dX5_begin_98 : decode cX5_begin 98 = .ok (.lcmp, 1) := by decide +kernel
theorem dX5_begin_99 : decode cX5_begin 99 = .ok (.ifCond .ge 7, 3) := by decide +kernel
theorem dX5_begin_102 : decode cX5_begin 102 = .ok (.iconst 1, 1) := by decide +kernel
theorem dX5_begin_103 : decode cX5_begin 103 = .ok (.goto 4, 3) := by decide +kernel
theorem dX5_begin_106 : decode cX5_begin 106 = .ok (.iconst 0, 1) := by decide +kernel
theorem dX5_begin_107 : decode cX5_begin 107 = .ok (.istore 8, 2) := by decide +kernel
theorem dX5_begin_109 : decode cX5_begin 109 = .ok (.iload 8, 2) := by decide +kernel
theorem dX5_begin_111 : decode cX5_begin 111 = .ok (.ifCond .eq 8, 3) := by decide +kernel
theorem dX5_begin_114 : decode cX5_begin 114 = .ok (.iload 7, 2) := by decide +kernel
theorem dX5_begin_116 : decode cX5_begin 116 = .ok (.goto 5, 3) := by decide +kernel
theorem dX5_begin_119 : decode cX5_begin 119 = .ok (.iload 4, 2) := by decide +kernel
theorem dX5_begin_121 : decode cX5_begin 121 = .ok (.istore 4, 2) := by decide +kernel
theorem dX5_begin_123 : decode cX5_begin 123 = .ok (.iload 8, 2) := by decide +kernel
theorem dX5_begin_125 : decode cX5_begin 125 = .ok (.ifCond .eq 11, 3) := by decide +kernel
theorem dX5_begin_128 : decode cX5_begin 128 = .ok (.aload_n 0, 1) := by decide +kernel
theorem dX5_begin_129 : decode cX5_begin 129 = .ok (.iload_n 2, 1) := by decide +kernel
theorem dX5_begin_130 : decode cX5_begin 130 = .ok (.invokevirtual 140, 3) := by decide +kernel
theorem dX5_begin_133 : decode cX5_begin 133 = .ok (.goto 5, 3) := by decide +kernel
theorem dX5_begin_136 : decode cX5_begin 136 = .ok (.lload 5, 2) := by decide +kernel
theorem dX5_begin_138 : decode cX5_begin 138 = .ok (.lstore 5, 2) := by decide +kernel
theorem dX5_begin_140 : decode cX5_begin 140 = .ok (.iinc 7 1, 3) := by decide +kernel
theorem dX5_begin_143 : decode cX5_begin 143 = .ok (.goto (-102), 3) := by decide +kernel
theorem dX5_begin_146 : decode cX5_begin 146 = .ok (.iload_n 3, 1) := by decide +kernel
theorem dX5_begin_147 : decode cX5_begin 147 = .ok (.ifCond .ne 8, 3) := by decide +kernel
theorem dX5_begin_150 : decode cX5_begin 150 = .ok (.iload 4, 2) := by decide +kernel
theorem dX5_begin_152 : decode cX5_begin 152 = .ok (.goto 15, 3) := by decide +kernel
theorem dX5_begin_155 : decode cX5_begin 155 = .ok (.ldc2_w 109, 3) := by decide +kernel
theorem dX5_begin_158 : decode cX5_begin 158 = .ok (.lload 5, 2) := by decide +kernel
theorem dX5_begin_160 : decode cX5_begin 160 = .ok (.lsub, 1) := by decide +kernel
theorem dX5_begin_161 : decode cX5_begin 161 = .ok (.ldc2_w 109, 3) := by decide +kernel
theorem dX5_begin_164 : decode cX5_begin 164 = .ok (.invokestatic 134, 3) := by decide +kernel
theorem dX5_begin_167 : decode cX5_begin 167 = .ok (.ireturn, 1) := by decide +kernel
theorem dX5_over_0 : decode cX5_over 0 = .ok (.iload_n 1, 1) := by decide +kernel
theorem dX5_over_1 : decode cX5_over 1 = .ok (.iconst 0, 1) := by decide +kernel
theorem dX5_over_2 : decode cX5_over 2 = .ok (.iconst 1, 1) := by decide +kernel
theorem dX5_over_3 : decode cX5_over 3 = .ok (.invokestatic 47, 3) := by decide +kernel
theorem dX5_over_6 : decode cX5_over 6 = .ok (.ifCond .ne 5, 3) := by decide +kernel
theorem dX5_over_9 : decode cX5_over 9 = .ok (.iconst (-1), 1) := by decide +kernel
theorem dX5_over_10 : decode cX5_over 10 = .ok (.ireturn, 1) := by decide +kernel
theorem dX5_over_11 : decode cX5_over 11 = .ok (.iconst 0, 1) := by decide +kernel
theorem dX5_over_12 : decode cX5_over 12 = .ok (.istore_n 2, 1) := by decide +kernel
theorem dX5_over_13 : decode cX5_over 13 = .ok (.aload_n 0, 1) := by decide +kernel
theorem dX5_over_14 : decode cX5_over 14 = .ok (.aload_n 0, 1) := by decide +kernel
theorem dX5_over_15 : decode cX5_over 15 = .ok (.getfield 16, 3) := by decide +kernel
theorem dX5_over_18 : decode cX5_over 18 = .ok (.iconst 0, 1) := by decide +kernel
theorem dX5_over_19 : decode cX5_over 19 = .ok (.iaload, 1) := by decide +kernel
theorem dX5_over_20 : decode cX5_over 20 = .ok (.aload_n 0, 1) := by decide +kernel
theorem dX5_over_21 : decode cX5_over 21 = .ok (.getfield 16, 3) := by decide +kernel
theorem dX5_over_24 : decode cX5_over 24 = .ok (.iconst 1, 1) := by decide +kernel
theorem dX5_over_25 : decode cX5_over 25 = .ok (.iaload, 1) := by decide +kernel
theorem dX5_over_26 : decode cX5_over 26 = .ok (.invokevirtual 148, 3) := by decide +kernel
theorem dX5_over_29 : decode cX5_over 29 = .ok (.lstore_n 3, 1) := by decide +kernel
theorem dX5_over_30 : decode cX5_over 30 = .ok (.iconst 1, 1) := by decide +kernel
theorem dX5_over_31 : decode cX5_over 31 = .ok (.istore 5, 2) := by decide +kernel
theorem dX5_over_33 : decode cX5_over 33 = .ok (.iload 5, 2) := by decide +kernel
theorem dX5_over_35 : decode cX5_over 35 = .ok (.bipush 10, 2) := by decide +kernel
theorem dX5_over_37 : decode cX5_over 37 = .ok (.if_icmp .gt 127, 3) := by decide +kernel
theorem dX5_over_40 : decode cX5_over 40 = .ok (.iconst 0, 1) := by decide +kernel
theorem dX5_over_41 : decode cX5_over 41 = .ok (.istore 6, 2) := by decide +kernel
theorem dX5_over_43 : decode cX5_over 43 = .ok (.iload 6, 2) := by decide +kernel
theorem dX5_over_45 : decode cX5_over 45 = .ok (.iconst 2, 1) := by decide +kernel
theorem dX5_over_46 : decode cX5_over 46 = .ok (.if_icmp .ge 112, 3) := by decide +kernel
theorem dX5_over_49 : decode cX5_over 49 = .ok (.iload 6, 2) := by decide +kernel
theorem dX5_over_51 : decode cX5_over 51 = .ok (.ifCond .ne 8, 3) := by decide +kernel
theorem dX5_over_54 : decode cX5_over 54 = .ok (.iload 5, 2) := by decide +kernel
theorem dX5_over_56 : decode cX5_over 56 = .ok (.goto 6, 3) := by decide +kernel
theorem dX5_over_59 : decode cX5_over 59 = .ok (.iload 5, 2) := by decide +kernel
theorem dX5_over_61 : decode cX5_over 61 = .ok (.ineg, 1) := by decide +kernel
theorem dX5_over_62 : decode cX5_over 62 = .ok (.istore 7, 2) := by decide +kernel
theorem dX5_over_64 : decode cX5_over 64 = .ok (.aload_n 0, 1) := by decide +kernel
theorem dX5_over_65 : decode cX5_over 65 = .ok (.getfield 16, 3) := by decide +kernel
theorem dX5_over_68 : decode cX5_over 68 = .ok (.iconst 0, 1) := by decide +kernel
theorem dX5_over_69 : decode cX5_over 69 = .ok (.iaload, 1) := by decide +kernel
theorem dX5_over_70 : decode cX5_over 70 = .ok (.iload 7, 2) := by decide +kernel
theorem dX5_over_72 : decode cX5_over 72 = .ok (.isub, 1) := by decide +kernel
theorem dX5_over_73 : decode cX5_over 73 = .ok (.iconst 0, 1) := by decide +kernel
theorem dX5_over_74 : decode cX5_over 74 = .ok (.bipush 10, 2) := by decide +kernel
theorem dX5_over_76 : decode cX5_over 76 = .ok (.invokestatic 47, 3) := by decide +kernel
theorem dX5_over_79 : decode cX5_over 79 = .ok (.ifCond .eq 73, 3) := by decide +kernel
theorem dX5_over_82 : decode cX5_over 82 = .ok (.aload_n 0, 1) := by decide +kernel
theorem dX5_over_83 : decode cX5_over 83 = .ok (.getfield 16, 3) := by decide +kernel
theorem dX5_over_86 : decode cX5_over 86 = .ok (.iconst 1, 1) := by decide +kernel
theorem dX5_over_87 : decode cX5_over 87 = .ok (.iaload, 1) := by decide +kernel
theorem dX5_over_88 : decode cX5_over 88 = .ok (.iload 7, 2) := by decide +kernel
theorem dX5_over_90 : decode cX5_over 90 = .ok (.iadd, 1) := by decide +kernel
theorem dX5_over_91 : decode cX5_over 91 = .ok (.iconst 0, 1) := by decide +kernel
theorem dX5_over_92 : decode cX5_over 92 = .ok (.bipush 10, 2) := by decide +kernel
theorem dX5_over_94 : decode cX5_over 94 = .ok (.invokestatic 47, 3) := by decide +kernel
theorem dX5_over_97 : decode cX5_over 97 = .ok (.ifCond .eq 55, 3) := by decide +kernel
theorem dX5_over_100 : decode cX5_over 100 = .ok (.aload_n 0, 1) := by decide +kernel
theorem dX5_over_101 : decode cX5_over 101 = .ok (.aload_n 0, 1) := by decide +kernel
theorem dX5_over_102 : decode cX5_over 102 = .ok (.getfield 16, 3) := by decide +kernel
theorem dX5_over_105 : decode cX5_over 105 = .ok (.iconst 0, 1) := by decide +kernel
theorem dX5_over_106 : decode cX5_over 106 = .ok (.iaload, 1) := by decide +kernel
theorem dX5_over_107 : decode cX5_over 107 = .ok (.iload 7, 2) := by decide +kernel
theorem dX5_over_109 : decode cX5_over 109 = .ok (.isub, 1) := by decide +kernel
theorem dX5_over_110 : decode cX5_over 110 = .ok (.aload_n 0, 1) := by decide +kernel
theorem dX5_over_111 : decode cX5_over 111 = .ok (.getfield 16, 3) := by decide +kernel
theorem dX5_over_114 : decode cX5_over 114 = .ok (.iconst 1, 1) := by decide +kernel
theorem dX5_over_115 : decode cX5_over 115 = .ok (.iaload, 1) := by decide +kernel
theorem dX5_over_116 : decode cX5_over 116 = .ok (.iload 7, 2) := by decide +kernel
theorem dX5_over_118 : decode cX5_over 118 = .ok (.iadd, 1) := by decide +kernel
theorem dX5_over_119 : decode cX5_over 119 = .ok (.invokevirtual 148, 3) := by decide +kernel
theorem dX5_over_122 : decode cX5_over 122 = .ok (.lstore 8, 2) := by decide +kernel
theorem dX5_over_124 : decode cX5_over 124 = .ok (.lload 8, 2) := by decide +kernel
theorem dX5_over_126 : decode cX5_over 126 = .ok (.lload_n 3, 1) := by decide +kernel
theorem dX5_over_127 : decode cX5_over 127 = .ok (.lcmp, 1) := by decide +kernel
theorem dX5_over_128 : decode cX5_over 128 = .ok (.ifCond .le 8, 3) := by decide +kernel
theorem dX5_over_131 : decode cX5_over 131 = .ok (.iload 7, 2) := by decide +kernel
theorem dX5_over_133 : decode cX5_over 133 = .ok (.goto 4, 3) := by decide +kernel
theorem dX5_over_136 : decode cX5_over 136 = .ok (.iload_n 2, 1) := by decide +kernel
theorem dX5_over_137 : decode cX5_over 137 = .ok (.istore_n 2, 1) := by decide +kernel
theorem dX5_over_138 : decode cX5_over 138 = .ok (.lload 8, 2) := by decide +kernel
theorem dX5_over_140 : decode cX5_over 140 = .ok (.lload_n 3, 1) := by decide +kernel
theorem dX5_over_141 : decode cX5_over 141 = .ok (.lcmp, 1) := by decide +kernel
theorem dX5_over_142 : decode cX5_over 142 = .ok (.ifCond .le 8, 3) := by decide +kernel
theorem dX5_over_145 : decode cX5_over 145 = .ok (.lload 8, 2) := by decide +kernel
theorem dX5_over_147 : decode cX5_over 147 = .ok (.goto 4, 3) := by decide +kernel
theorem dX5_over_150 : decode cX5_over 150 = .ok (.lload_n 3, 1) := by decide +kernel
theorem dX5_over_151 : decode cX5_over 151 = .ok (.lstore_n 3, 1) := by decide +kernel
theorem dX5_over_152 : decode cX5_over 152 = .ok (.iinc 6 1, 3) := by decide +kernel
theorem dX5_over_155 : decode cX5_over 155 = .ok (.goto (-112), 3) := by decide +kernel
theorem dX5_over_158 : decode cX5_over 158 = .ok (.iinc 5 1, 3) := by decide +kernel
theorem dX5_over_161 : decode cX5_over 161 = .ok (.goto (-128), 3) := by decide +kernel
theorem dX5_over_164 : decode cX5_over 164 = .ok (.iload_n 1, 1) := by decide +kernel
theorem dX5_over_165 : decode cX5_over 165 = .ok (.ifCond .ne 10, 3) := by decide +kernel
theorem dX5_over_168 : decode cX5_over 168 = .ok (.iload_n 2, 1) := by decide +kernel
theorem dX5_over_169 : decode cX5_over 169 = .ok (.bipush 10, 2) := by decide +kernel
theorem dX5_over_171 : decode cX5_over 171 = .ok (.iadd, 1) := by decide +kernel
theorem dX5_over_172 : decode cX5_over 172 = .ok (.goto 13, 3) := by decide +kernel
theorem dX5_over_175 : decode cX5_over 175 = .ok (.ldc2_w 138, 3) := by decide +kernel
theorem dX5_over_178 : decode cX5_over 178 = .ok (.lload_n 3, 1) := by decide +kernel
theorem dX5_over_179 : decode cX5_over 179 = .ok (.lmul, 1) := by decide +kernel
theorem dX5_over_180 : decode cX5_over 180 = .ok (.ldc2_w 109, 3) := by decide +kernel
theorem dX5_over_183 : decode cX5_over 183 = .ok (.ldiv, 1) := by decide +kernel
theorem dX5_over_184 : decode cX5_over 184 = .ok (.l2i, 1) := by decide +kernel
theorem dX5_over_185 : decode cX5_over 185 = .ok (.ireturn, 1) := by decide +kernel
theorem dX5_seen_0 : decode cX5_seen 0 = .ok (.iload_n 1, 1) := by decide +kernel
theorem dX5_seen_1 : decode cX5_seen 1 = .ok (.iconst 0, 1) := by decide +kernel
theorem dX5_seen_2 : decode cX5_seen 2 = .ok (.bipush 10, 2) := by decide +kernel
theorem dX5_seen_4 : decode cX5_seen 4 = .ok (.invokestatic 47, 3) := by decide +kernel
theorem dX5_seen_7 : decode cX5_seen 7 = .ok (.ifCond .eq 13, 3) := by decide +kernel
theorem dX5_seen_10 : decode cX5_seen 10 = .ok (.iload_n 2, 1) := by decide +kernel
theorem dX5_seen_11 : decode cX5_seen 11 = .ok (.iconst 0, 1) := by decide +kernel
theorem dX5_seen_12 : decode cX5_seen 12 = .ok (.bipush 10, 2) := by decide +kernel
theorem dX5_seen_14 : decode cX5_seen 14 = .ok (.invokestatic 47, 3) := by decide +kernel
theorem dX5_seen_17 : decode cX5_seen 17 = .ok (.ifCond .ne 5, 3) := by decide +kernel
theorem dX5_seen_20 : decode cX5_seen 20 = .ok (.iconst (-1), 1) := by decide +kernel
theorem dX5_seen_21 : decode cX5_seen 21 = .ok (.ireturn, 1) := by decide +kernel
theorem dX5_seen_22 : decode cX5_seen 22 = .ok (.aload_n 0, 1) := by decide +kernel
theorem dX5_seen_23 : decode cX5_seen 23 = .ok (.getfield 89, 3) := by decide +kernel
theorem dX5_seen_26 : decode cX5_seen 26 = .ok (.bipush 6, 2) := by decide +kernel
theorem dX5_seen_28 : decode cX5_seen 28 = .ok (.if_icmp .ne 6, 3) := by decide +kernel
theorem dX5_seen_31 : decode cX5_seen 31 = .ok (.bipush (-3), 2) := by decide +kernel
theorem dX5_seen_33 : decode cX5_seen 33 = .ok (.ireturn, 1) := by decide +kernel
theorem dX5_seen_34 : decode cX5_seen 34 = .ok (.aload_n 0, 1) := by decide +kernel
theorem dX5_seen_35 : decode cX5_seen 35 = .ok (.getfield 25, 3) := by decide +kernel
theorem dX5_seen_38 : decode cX5_seen 38 = .ok (.aload_n 0, 1) := by decide +kernel
theorem dX5_seen_39 : decode cX5_seen 39 = .ok (.getfield 89, 3) := by decide +kernel
theorem dX5_seen_42 : decode cX5_seen 42 = .ok (.bipush 11, 2) := by decide +kernel
theorem dX5_seen_44 : decode cX5_seen 44 = .ok (.iload_n 1, 1) := by decide +kernel
theorem dX5_seen_45 : decode cX5_seen 45 = .ok (.imul, 1) := by decide +kernel
theorem dX5_seen_46 : decode cX5_seen 46 = .ok (.iload_n 2, 1) := by decide +kernel
theorem dX5_seen_47 : decode cX5_seen 47 = .ok (.iadd, 1) := by decide +kernel
theorem dX5_seen_48 : decode cX5_seen 48 = .ok (.iastore, 1) := by decide +kernel
theorem dX5_seen_49 : decode cX5_seen 49 = .ok (.aload_n 0, 1) := by decide +kernel
theorem dX5_seen_50 : decode cX5_seen 50 = .ok (.dup, 1) := by decide +kernel
theorem dX5_seen_51 : decode cX5_seen 51 = .ok (.getfield 89, 3) := by decide +kernel
theorem dX5_seen_54 : decode cX5_seen 54 = .ok (.iconst 1, 1) := by decide +kernel
theorem dX5_seen_55 : decode cX5_seen 55 = .ok (.iadd, 1) := by decide +kernel
theorem dX5_seen_56 : decode cX5_seen 56 = .ok (.putfield 89, 3) := by decide +kernel
theorem dX5_seen_59 : decode cX5_seen 59 = .ok (.aload_n 0, 1) := by decide +kernel
theorem dX5_seen_60 : decode cX5_seen 60 = .ok (.getfield 89, 3) := by decide +kernel
theorem dX5_seen_63 : decode cX5_seen 63 = .ok (.ireturn, 1) := by decide +kernel
theorem dX5_forget_0 : decode cX5_forget 0 = .ok (.aload_n 0, 1) := by decide +kernel
theorem dX5_forget_1 : decode cX5_forget 1 = .ok (.getfield 89, 3) := by decide +kernel
theorem dX5_forget_4 : decode cX5_forget 4 = .ok (.istore_n 1, 1) := by decide +kernel
theorem dX5_forget_5 : decode cX5_forget 5 = .ok (.aload_n 0, 1) := by decide +kernel
theorem dX5_forget_6 : decode cX5_forget 6 = .ok (.iconst 0, 1) := by decide +kernel
theorem dX5_forget_7 : decode cX5_forget 7 = .ok (.putfield 89, 3) := by decide +kernel
theorem dX5_forget_10 : decode cX5_forget 10 = .ok (.iload_n 1, 1) := by decide +kernel
theorem dX5_forget_11 : decode cX5_forget 11 = .ok (.ireturn, 1) := by decide +kernel
theorem dX5_sightsBy_0 : decode cX5_sightsBy 0 = .ok (.iconst 1, 1) := by decide +kernel
theorem dX5_sightsBy_1 : decode cX5_sightsBy 1 = .ok (.istore_n 3, 1) := by decide +kernel
theorem dX5_sightsBy_2 : decode cX5_sightsBy 2 = .ok (.iconst 0, 1) := by decide +kernel
theorem dX5_sightsBy_3 : decode cX5_sightsBy 3 = .ok (.istore 4, 2) := by decide +kernel
theorem dX5_sightsBy_5 : decode cX5_sightsBy 5 = .ok (.iload 4, 2) := by decide +kernel
theorem dX5_sightsBy_7 : decode cX5_sightsBy 7 = .ok (.aload_n 0, 1) := by decide +kernel
theorem dX5_sightsBy_8 : decode cX5_sightsBy 8 = .ok (.getfield 89, 3) := by decide +kernel
theorem dX5_sightsBy_11 : decode cX5_sightsBy 11 = .ok (.if_icmp .ge 66, 3) := by decide +kernel
theorem dX5_sightsBy_14 : decode cX5_sightsBy 14 = .ok (.iload_n 3, 1) := by decide +kernel
theorem dX5_sightsBy_15 : decode cX5_sightsBy 15 = .ok (.ifCond .eq 54, 3) := by decide +kernel
theorem dX5_sightsBy_18 : decode cX5_sightsBy 18 = .ok (.aload_n 0, 1) := by decide +kernel
theorem dX5_sightsBy_19 : decode cX5_sightsBy 19 = .ok (.getfield 25, 3) := by decide +kernel
theorem dX5_sightsBy_22 : decode cX5_sightsBy 22 = .ok (.iload 4, 2) := by decide +kernel
theorem dX5_sightsBy_24 : decode cX5_sightsBy 24 = .ok (.iaload, 1) := by decide +kernel
theorem dX5_sightsBy_25 : decode cX5_sightsBy 25 = .ok (.bipush 11, 2) := by decide +kernel
theorem dX5_sightsBy_27 : decode cX5_sightsBy 27 = .ok (.idiv, 1) := by decide +kernel
theorem dX5_sightsBy_28 : decode cX5_sightsBy 28 = .ok (.aload_n 0, 1) := by decide +kernel
theorem dX5_sightsBy_29 : decode cX5_sightsBy 29 = .ok (.getfield 25, 3) := by decide +kernel
theorem dX5_sightsBy_32 : decode cX5_sightsBy 32 = .ok (.iload 4, 2) := by decide +kernel
theorem dX5_sightsBy_34 : decode cX5_sightsBy 34 = .ok (.iaload, 1) := by decide +kernel
theorem dX5_sightsBy_35 : decode cX5_sightsBy 35 = .ok (.bipush 11, 2) := by decide +kernel
theorem dX5_sightsBy_37 : decode cX5_sightsBy 37 = .ok (.irem, 1) := by decide +kernel
theorem dX5_sightsBy_38 : decode cX5_sightsBy 38 = .ok (.iadd, 1) := by decide +kernel
theorem dX5_sightsBy_39 : decode cX5_sightsBy 39 = .ok (.aload_n 0, 1) := by decide +kernel
theorem dX5_sightsBy_40 : decode cX5_sightsBy 40 = .ok (.getfield 80, 3) := by decide +kernel
theorem dX5_sightsBy_43 : decode cX5_sightsBy 43 = .ok (.iload 4, 2) := by decide +kernel
theorem dX5_sightsBy_45 : decode cX5_sightsBy 45 = .ok (.iconst 1, 1) := by decide +kernel
theorem dX5_sightsBy_46 : decode cX5_sightsBy 46 = .ok (.iadd, 1) := by decide +kernel
theorem dX5_sightsBy_47 : decode cX5_sightsBy 47 = .ok (.imul, 1) := by decide +kernel
theorem dX5_sightsBy_48 : decode cX5_sightsBy 48 = .ok (.iadd, 1) := by decide +kernel
theorem dX5_sightsBy_49 : decode cX5_sightsBy 49 = .ok (.aload_n 0, 1) := by decide +kernel
theorem dX5_sightsBy_50 : decode cX5_sightsBy 50 = .ok (.getfield 16, 3) := by decide +kernel
theorem dX5_sightsBy_53 : decode cX5_sightsBy 53 = .ok (.iconst 0, 1) := by decide +kernel
theorem dX5_sightsBy_54 : decode cX5_sightsBy 54 = .ok (.iaload, 1) := by decide +kernel
theorem dX5_sightsBy_55 : decode cX5_sightsBy 55 = .ok (.aload_n 0, 1) := by decide +kernel
theorem dX5_sightsBy_56 : decode cX5_sightsBy 56 = .ok (.getfield 16, 3) := by decide +kernel
theorem dX5_sightsBy_59 : decode cX5_sightsBy 59 = .ok (.iconst 1, 1) := by decide +kernel
theorem dX5_sightsBy_60 : decode cX5_sightsBy 60 = .ok (.iaload, 1) := by decide +kernel
theorem dX5_sightsBy_61 : decode cX5_sightsBy 61 = .ok (.iadd, 1) := by decide +kernel
theorem dX5_sightsBy_62 : decode cX5_sightsBy 62 = .ok (.if_icmp .ne 7, 3) := by decide +kernel
theorem dX5_sightsBy_65 : decode cX5_sightsBy 65 = .ok (.iconst 1, 1) := by decide +kernel
theorem dX5_sightsBy_66 : decode cX5_sightsBy 66 = .ok (.goto 4, 3) := by decide +kernel
theorem dX5_sightsBy_69 : decode cX5_sightsBy 69 = .ok (.iconst 0, 1) := by decide +kernel
theorem dX5_sightsBy_70 : decode cX5_sightsBy 70 = .ok (.istore_n 3, 1) := by decide +kernel
theorem dX5_sightsBy_71 : decode cX5_sightsBy 71 = .ok (.iinc 4 1, 3) := by decide +kernel
theorem dX5_sightsBy_74 : decode cX5_sightsBy 74 = .ok (.goto (-69), 3) := by decide +kernel
theorem dX5_sightsBy_77 : decode cX5_sightsBy 77 = .ok (.iload_n 3, 1) := by decide +kernel
theorem dX5_sightsBy_78 : decode cX5_sightsBy 78 = .ok (.ifCond .ne 5, 3) := by decide +kernel
theorem dX5_sightsBy_81 : decode cX5_sightsBy 81 = .ok (.lconst 0, 1) := by decide +kernel
theorem dX5_sightsBy_82 : decode cX5_sightsBy 82 = .ok (.lreturn, 1) := by decide +kernel
theorem dX5_sightsBy_83 : decode cX5_sightsBy 83 = .ok (.aload_n 0, 1) := by decide +kernel
theorem dX5_sightsBy_84 : decode cX5_sightsBy 84 = .ok (.invokevirtual 106, 3) := by decide +kernel
theorem dX5_sightsBy_87 : decode cX5_sightsBy 87 = .ok (.aload_n 0, 1) := by decide +kernel
theorem dX5_sightsBy_88 : decode cX5_sightsBy 88 = .ok (.aload_n 0, 1) := by decide +kernel
theorem dX5_sightsBy_89 : decode cX5_sightsBy 89 = .ok (.getfield 16, 3) := by decide +kernel
theorem dX5_sightsBy_92 : decode cX5_sightsBy 92 = .ok (.iconst 0, 1) := by decide +kernel
theorem dX5_sightsBy_93 : decode cX5_sightsBy 93 = .ok (.iaload, 1) := by decide +kernel
theorem dX5_sightsBy_94 : decode cX5_sightsBy 94 = .ok (.aload_n 0, 1) := by decide +kernel
theorem dX5_sightsBy_95 : decode cX5_sightsBy 95 = .ok (.getfield 16, 3) := by decide +kernel
theorem dX5_sightsBy_98 : decode cX5_sightsBy 98 = .ok (.iconst 1, 1) := by decide +kernel
theorem dX5_sightsBy_99 : decode cX5_sightsBy 99 = .ok (.iaload, 1) := by decide +kernel
theorem dX5_sightsBy_100 : decode cX5_sightsBy 100 = .ok (.aload_n 0, 1) := by decide +kernel
theorem dX5_sightsBy_101 : decode cX5_sightsBy 101 = .ok (.getfield 16, 3) := by decide +kernel
theorem dX5_sightsBy_104 : decode cX5_sightsBy 104 = .ok (.iconst 2, 1) := by decide +kernel
theorem dX5_sightsBy_105 : decode cX5_sightsBy 105 = .ok (.iaload, 1) := by decide +kernel
theorem dX5_sightsBy_106 : decode cX5_sightsBy 106 = .ok (.invokevirtual 111, 3) := by decide +kernel
theorem dX5_sightsBy_109 : decode cX5_sightsBy 109 = .ok (.lconst 1, 1) := by decide +kernel
theorem dX5_sightsBy_110 : decode cX5_sightsBy 110 = .ok (.lstore 4, 2) := by decide +kernel
theorem dX5_sightsBy_112 : decode cX5_sightsBy 112 = .ok (.iconst 0, 1) := by decide +kernel
theorem dX5_sightsBy_113 : decode cX5_sightsBy 113 = .ok (.istore 6, 2) := by decide +kernel
theorem dX5_sightsBy_115 : decode cX5_sightsBy 115 = .ok (.iload 6, 2) := by decide +kernel
theorem dX5_sightsBy_117 : decode cX5_sightsBy 117 = .ok (.aload_n 0, 1) := by decide +kernel
theorem dX5_sightsBy_118 : decode cX5_sightsBy 118 = .ok (.getfield 89, 3) := by decide +kernel
theorem dX5_sightsBy_121 : decode cX5_sightsBy 121 = .ok (.if_icmp .ge 100, 3) := by decide +kernel
theorem dX5_sightsBy_124 : decode cX5_sightsBy 124 = .ok (.iconst 0, 1) := by decide +kernel
theorem dX5_sightsBy_125 : decode cX5_sightsBy 125 = .ok (.istore 7, 2) := by decide +kernel
theorem dX5_sightsBy_127 : decode cX5_sightsBy 127 = .ok (.iload 7, 2) := by decide +kernel
theorem dX5_sightsBy_129 : decode cX5_sightsBy 129 = .ok (.aload_n 0, 1) := by decide +kernel
theorem dX5_sightsBy_130 : decode cX5_sightsBy 130 = .ok (.getfield 80, 3) := by decide +kernel
theorem dX5_sightsBy_133 : decode cX5_sightsBy 133 = .ok (.if_icmp .ge 18, 3) := by decide +kernel
theorem dX5_sightsBy_136 : decode cX5_sightsBy 136 = .ok (.aload_n 0, 1) := by decide +kernel
theorem dX5_sightsBy_137 : decode cX5_sightsBy 137 = .ok (.iload_n 1, 1) := by decide +kernel
theorem dX5_sightsBy_138 : decode cX5_sightsBy 138 = .ok (.iload_n 2, 1) := by decide +kernel
theorem dX5_sightsBy_139 : decode cX5_sightsBy 139 = .ok (.iconst 0, 1) := by decide +kernel
theorem dX5_sightsBy_140 : decode cX5_sightsBy 140 = .ok (.iconst 0, 1) := by decide +kernel
theorem dX5_sightsBy_141 : decode cX5_sightsBy 141 = .ok (.lconst 0, 1) := by decide +kernel
theorem dX5_sightsBy_142 : decode cX5_sightsBy 142 = .ok (.invokevirtual 117, 3) := by decide +kernel
theorem dX5_sightsBy_145 : decode cX5_sightsBy 145 = .ok (.iinc 7 1, 3) := by decide +kernel
theorem dX5_sightsBy_148 : decode cX5_sightsBy 148 = .ok (.goto (-21), 3) := by decide +kernel
theorem dX5_sightsBy_151 : decode cX5_sightsBy 151 = .ok (.lconst 0, 1) := by decide +kernel
theorem dX5_sightsBy_152 : decode cX5_sightsBy 152 = .ok (.lstore 4, 2) := by decide +kernel
theorem dX5_sightsBy_154 : decode cX5_sightsBy 154 = .ok (.iconst 0, 1) := by decide +kernel
theorem dX5_sightsBy_155 : decode cX5_sightsBy 155 = .ok (.istore 7, 2) := by decide +kernel
theorem dX5_sightsBy_157 : decode cX5_sightsBy 157 = .ok (.iload 7, 2) := by decide +kernel
theorem dX5_sightsBy_159 : decode cX5_sightsBy 159 = .ok (.sipush 363, 3) := by decide +kernel
theorem dX5_sightsBy_162 : decode cX5_sightsBy 162 = .ok (.if_icmp .ge 53, 3) := by decide +kernel
theorem dX5_sightsBy_165 : decode cX5_sightsBy 165 = .ok (.aload_n 0, 1) := by decide +kernel
theorem dX5_sightsBy_166 : decode cX5_sightsBy 166 = .ok (.getfield 28, 3) := by decide +kernel
theorem dX5_sightsBy_169 : decode cX5_sightsBy 169 = .ok (.iload 7, 2) := by decide +kernel
theorem dX5_sightsBy_171 : decode cX5_sightsBy 171 = .ok (.iload 7, 2) := by decide +kernel
theorem dX5_sightsBy_173 : decode cX5_sightsBy 173 = .ok (.iconst 3, 1) := by decide +kernel
theorem dX5_sightsBy_174 : decode cX5_sightsBy 174 = .ok (.idiv, 1) := by decide +kernel
theorem dX5_sightsBy_175 : decode cX5_sightsBy 175 = .ok (.aload_n 0, 1) := by decide +kernel
theorem dX5_sightsBy_176 : decode cX5_sightsBy 176 = .ok (.getfield 25, 3) := by decide +kernel
theorem dX5_sightsBy_179 : decode cX5_sightsBy 179 = .ok (.iload 6, 2) := by decide +kernel
theorem dX5_sightsBy_181 : decode cX5_sightsBy 181 = .ok (.iaload, 1) := by decide +kernel
theorem dX5_sightsBy_182 : decode cX5_sightsBy 182 = .ok (.if_icmp .ne 13, 3) := by decide +kernel
theorem dX5_sightsBy_185 : decode cX5_sightsBy 185 = .ok (.aload_n 0, 1) := by decide +kernel
theorem dX5_sightsBy_186 : decode cX5_sightsBy 186 = .ok (.getfield 28, 3) := by decide +kernel
theorem dX5_sightsBy_189 : decode cX5_sightsBy 189 = .ok (.iload 7, 2) := by decide +kernel
theorem dX5_sightsBy_191 : decode cX5_sightsBy 191 = .ok (.laload, 1) := by decide +kernel
theorem dX5_sightsBy_192 : decode cX5_sightsBy 192 = .ok (.goto 4, 3) := by decide +kernel
theorem dX5_sightsBy_195 : decode cX5_sightsBy 195 = .ok (.lconst 0, 1) := by decide +kernel
theorem dX5_sightsBy_196 : decode cX5_sightsBy 196 = .ok (.lastore, 1) := by decide +kernel
theorem dX5_sightsBy_197 : decode cX5_sightsBy 197 = .ok (.lload 4, 2) := by decide +kernel
theorem dX5_sightsBy_199 : decode cX5_sightsBy 199 = .ok (.aload_n 0, 1) := by decide +kernel
theorem dX5_sightsBy_200 : decode cX5_sightsBy 200 = .ok (.getfield 28, 3) := by decide +kernel
theorem dX5_sightsBy_203 : decode cX5_sightsBy 203 = .ok (.iload 7, 2) := by decide +kernel
theorem dX5_sightsBy_205 : decode cX5_sightsBy 205 = .ok (.laload, 1) := by decide +kernel
theorem dX5_sightsBy_206 : decode cX5_sightsBy 206 = .ok (.ladd, 1) := by decide +kernel
theorem dX5_sightsBy_207 : decode cX5_sightsBy 207 = .ok (.lstore 4, 2) := by decide +kernel
theorem dX5_sightsBy_209 : decode cX5_sightsBy 209 = .ok (.iinc 7 1, 3) := by decide +kernel
theorem dX5_sightsBy_212 : decode cX5_sightsBy 212 = .ok (.goto (-55), 3) := by decide +kernel
theorem dX5_sightsBy_215 : decode cX5_sightsBy 215 = .ok (.iinc 6 1, 3) := by decide +kernel
theorem dX5_sightsBy_218 : decode cX5_sightsBy 218 = .ok (.goto (-103), 3) := by decide +kernel
theorem dX5_sightsBy_221 : decode cX5_sightsBy 221 = .ok (.lload 4, 2) := by decide +kernel
theorem dX5_sightsBy_223 : decode cX5_sightsBy 223 = .ok (.lreturn, 1) := by decide +kernel
theorem dX5_fits_0 : decode cX5_fits 0 = .ok (.iconst 0, 1) := by decide +kernel
theorem dX5_fits_1 : decode cX5_fits 1 = .ok (.istore_n 1, 1) := by decide +kernel
theorem dX5_fits_2 : decode cX5_fits 2 = .ok (.iconst 0, 1) := by decide +kernel
theorem dX5_fits_3 : decode cX5_fits 3 = .ok (.istore_n 2, 1) := by decide +kernel
theorem dX5_fits_4 : decode cX5_fits 4 = .ok (.iload_n 2, 1) := by decide +kernel
theorem dX5_fits_5 : decode cX5_fits 5 = .ok (.iconst 4, 1) := by decide +kernel
theorem dX5_fits_6 : decode cX5_fits 6 = .ok (.if_icmp .ge 43, 3) := by decide +kernel
theorem dX5_fits_9 : decode cX5_fits 9 = .ok (.iconst 0, 1) := by decide +kernel
theorem dX5_fits_10 : decode cX5_fits 10 = .ok (.istore_n 3, 1) := by decide +kernel
theorem dX5_fits_11 : decode cX5_fits 11 = .ok (.iload_n 3, 1) := by decide +kernel
theorem dX5_fits_12 : decode cX5_fits 12 = .ok (.iconst 5, 1) := by decide +kernel
theorem dX5_fits_13 : decode cX5_fits 13 = .ok (.if_icmp .ge 30, 3) := by decide +kernel
theorem dX5_fits_16 : decode cX5_fits 16 = .ok (.iload_n 1, 1) := by decide +kernel
theorem dX5_fits_17 : decode cX5_fits 17 = .ok (.aload_n 0, 1) := by decide +kernel
theorem dX5_fits_18 : decode cX5_fits 18 = .ok (.iload_n 2, 1) := by decide +kernel
theorem dX5_fits_19 : decode cX5_fits 19 = .ok (.iload_n 3, 1) := by decide +kernel
theorem dX5_fits_20 : decode cX5_fits 20 = .ok (.invokevirtual 152, 3) := by decide +kernel
theorem dX5_fits_23 : decode cX5_fits 23 = .ok (.lconst 0, 1) := by decide +kernel
theorem dX5_fits_24 : decode cX5_fits 24 = .ok (.lcmp, 1) := by decide +kernel
theorem dX5_fits_25 : decode cX5_fits 25 = .ok (.ifCond .le 9, 3) := by decide +kernel
theorem dX5_fits_28 : decode cX5_fits 28 = .ok (.iconst 1, 1) := by decide +kernel
theorem dX5_fits_29 : decode cX5_fits 29 = .ok (.iload_n 2, 1) := by decide +kernel
theorem dX5_fits_30 : decode cX5_fits 30 = .ok (.ishl, 1) := by decide +kernel
theorem dX5_fits_31 : decode cX5_fits 31 = .ok (.goto 4, 3) := by decide +kernel
theorem dX5_fits_34 : decode cX5_fits 34 = .ok (.iconst 0, 1) := by decide +kernel
theorem dX5_fits_35 : decode cX5_fits 35 = .ok (.ior, 1) := by decide +kernel
theorem dX5_fits_36 : decode cX5_fits 36 = .ok (.istore_n 1, 1) := by decide +kernel
theorem dX5_fits_37 : decode cX5_fits 37 = .ok (.iinc 3 1, 3) := by decide +kernel
theorem dX5_fits_40 : decode cX5_fits 40 = .ok (.goto (-29), 3) := by decide +kernel
theorem dX5_fits_43 : decode cX5_fits 43 = .ok (.iinc 2 1, 3) := by decide +kernel
theorem dX5_fits_46 : decode cX5_fits 46 = .ok (.goto (-42), 3) := by decide +kernel
theorem dX5_fits_49 : decode cX5_fits 49 = .ok (.iload_n 1, 1) := by decide +kernel
theorem dX5_fits_50 : decode cX5_fits 50 = .ok (.ireturn, 1) := by decide +kernel
theorem dX5_asLikely_0 : decode cX5_asLikely 0 = .ok (.iload_n 1, 1) := by decide +kernel
theorem dX5_asLikely_1 : decode cX5_asLikely 1 = .ok (.iconst 0, 1) := by decide +kernel
theorem dX5_asLikely_2 : decode cX5_asLikely 2 = .ok (.iconst 3, 1) := by decide +kernel
theorem dX5_asLikely_3 : decode cX5_asLikely 3 = .ok (.invokestatic 47, 3) := by decide +kernel
theorem dX5_asLikely_6 : decode cX5_asLikely 6 = .ok (.ifCond .eq 12, 3) := by decide +kernel
theorem dX5_asLikely_9 : decode cX5_asLikely 9 = .ok (.iload_n 2, 1) := by decide +kernel
theorem dX5_asLikely_10 : decode cX5_asLikely 10 = .ok (.iconst 0, 1) := by decide +kernel
theorem dX5_asLikely_11 : decode cX5_asLikely 11 = .ok (.iconst 1, 1) := by decide +kernel
theorem dX5_asLikely_12 : decode cX5_asLikely 12 = .ok (.invokestatic 47, 3) := by decide +kernel
theorem dX5_asLikely_15 : decode cX5_asLikely 15 = .ok (.ifCond .ne 5, 3) := by decide +kernel
theorem dX5_asLikely_18 : decode cX5_asLikely 18 = .ok (.iconst (-1), 1) := by decide +kernel
theorem dX5_asLikely_19 : decode cX5_asLikely 19 = .ok (.ireturn, 1) := by decide +kernel
theorem dX5_asLikely_20 : decode cX5_asLikely 20 = .ok (.bipush (-4), 2) := by decide +kernel
theorem dX5_asLikely_22 : decode cX5_asLikely 22 = .ok (.istore_n 3, 1) := by decide +kernel
theorem dX5_asLikely_23 : decode cX5_asLikely 23 = .ok (.lconst 0, 1) := by decide +kernel
theorem dX5_asLikely_24 : decode cX5_asLikely 24 = .ok (.lstore 4, 2) := by decide +kernel
theorem dX5_asLikely_26 : decode cX5_asLikely 26 = .ok (.iconst 0, 1) := by decide +kernel
theorem dX5_asLikely_27 : decode cX5_asLikely 27 = .ok (.istore 6, 2) := by decide +kernel
theorem dX5_asLikely_29 : decode cX5_asLikely 29 = .ok (.iload 6, 2) := by decide +kernel
theorem dX5_asLikely_31 : decode cX5_asLikely 31 = .ok (.iconst 5, 1) := by decide +kernel
theorem dX5_asLikely_32 : decode cX5_asLikely 32 = .ok (.if_icmp .ge 50, 3) := by decide +kernel
theorem dX5_asLikely_35 : decode cX5_asLikely 35 = .ok (.aload_n 0, 1) := by decide +kernel
theorem dX5_asLikely_36 : decode cX5_asLikely 36 = .ok (.iload_n 1, 1) := by decide +kernel
theorem dX5_asLikely_37 : decode cX5_asLikely 37 = .ok (.iload 6, 2) := by decide +kernel
theorem dX5_asLikely_39 : decode cX5_asLikely 39 = .ok (.invokevirtual 152, 3) := by decide +kernel
theorem dX5_asLikely_42 : decode cX5_asLikely 42 = .ok (.lstore 7, 2) := by decide +kernel
theorem dX5_asLikely_44 : decode cX5_asLikely 44 = .ok (.lload 7, 2) := by decide +kernel
theorem dX5_asLikely_46 : decode cX5_asLikely 46 = .ok (.lload 4, 2) := by decide +kernel
theorem dX5_asLikely_48 : decode cX5_asLikely 48 = .ok (.lcmp, 1) := by decide +kernel
theorem dX5_asLikely_49 : decode cX5_asLikely 49 = .ok (.ifCond .le 8, 3) := by decide +kernel
theorem dX5_asLikely_52 : decode cX5_asLikely 52 = .ok (.iload 6, 2) := by decide +kernel
theorem dX5_asLikely_54 : decode cX5_asLikely 54 = .ok (.goto 4, 3) := by decide +kernel
theorem dX5_asLikely_57 : decode cX5_asLikely 57 = .ok (.iload_n 3, 1) := by decide +kernel
theorem dX5_asLikely_58 : decode cX5_asLikely 58 = .ok (.istore_n 3, 1) := by decide +kernel
theorem dX5_asLikely_59 : decode cX5_asLikely 59 = .ok (.lload 7, 2) := by decide +kernel
theorem dX5_asLikely_61 : decode cX5_asLikely 61 = .ok (.lload 4, 2) := by decide +kernel
theorem dX5_asLikely_63 : decode cX5_asLikely 63 = .ok (.lcmp, 1) := by decide +kernel
theorem dX5_asLikely_64 : decode cX5_asLikely 64 = .ok (.ifCond .le 8, 3) := by decide +kernel
theorem dX5_asLikely_67 : decode cX5_asLikely 67 = .ok (.lload 7, 2) := by decide +kernel
theorem dX5_asLikely_69 : decode cX5_asLikely 69 = .ok (.goto 5, 3) := by decide +kernel
theorem dX5_asLikely_72 : decode cX5_asLikely 72 = .ok (.lload 4, 2) := by decide +kernel
theorem dX5_asLikely_74 : decode cX5_asLikely 74 = .ok (.lstore 4, 2) := by decide +kernel
theorem dX5_asLikely_76 : decode cX5_asLikely 76 = .ok (.iinc 6 1, 3) := by decide +kernel
theorem dX5_asLikely_79 : decode cX5_asLikely 79 = .ok (.goto (-50), 3) := by decide +kernel
theorem dX5_asLikely_82 : decode cX5_asLikely 82 = .ok (.lconst 1, 1) := by decide +kernel
theorem dX5_asLikely_83 : decode cX5_asLikely 83 = .ok (.lstore 6, 2) := by decide +kernel
theorem dX5_asLikely_85 : decode cX5_asLikely 85 = .ok (.iconst 0, 1) := by decide +kernel
theorem dX5_asLikely_86 : decode cX5_asLikely 86 = .ok (.istore 8, 2) := by decide +kernel
theorem dX5_asLikely_88 : decode cX5_asLikely 88 = .ok (.iload 8, 2) := by decide +kernel
theorem dX5_asLikely_90 : decode cX5_asLikely 90 = .ok (.aload_n 0, 1) := by decide +kernel
theorem dX5_asLikely_91 : decode cX5_asLikely 91 = .ok (.getfield 80, 3) := by decide +kernel
theorem dX5_asLikely_94 : decode cX5_asLikely 94 = .ok (.aload_n 0, 1) := by decide +kernel
theorem dX5_asLikely_95 : decode cX5_asLikely 95 = .ok (.getfield 89, 3) := by decide +kernel
theorem dX5_asLikely_98 : decode cX5_asLikely 98 = .ok (.imul, 1) := by decide +kernel
theorem dX5_asLikely_99 : decode cX5_asLikely 99 = .ok (.if_icmp .ge 23, 3) := by decide +kernel
theorem dX5_asLikely_102 : decode cX5_asLikely 102 = .ok (.iload_n 3, 1) := by decide +kernel
theorem dX5_asLikely_103 : decode cX5_asLikely 103 = .ok (.bipush (-4), 2) := by decide +kernel
theorem dX5_asLikely_105 : decode cX5_asLikely 105 = .ok (.if_icmp .eq 17, 3) := by decide +kernel
theorem dX5_asLikely_108 : decode cX5_asLikely 108 = .ok (.lload 6, 2) := by decide +kernel
theorem dX5_asLikely_110 : decode cX5_asLikely 110 = .ok (.ldc2_w 115, 3) := by decide +kernel
theorem dX5_asLikely_113 : decode cX5_asLikely 113 = .ok (.lmul, 1) := by decide +kernel
theorem dX5_asLikely_114 : decode cX5_asLikely 114 = .ok (.lstore 6, 2) := by decide +kernel
theorem dX5_asLikely_116 : decode cX5_asLikely 116 = .ok (.iinc 8 1, 3) := by decide +kernel
theorem dX5_asLikely_119 : decode cX5_asLikely 119 = .ok (.goto (-31), 3) := by decide +kernel
theorem dX5_asLikely_122 : decode cX5_asLikely 122 = .ok (.iload_n 2, 1) := by decide +kernel
theorem dX5_asLikely_123 : decode cX5_asLikely 123 = .ok (.ifCond .eq 9, 3) := by decide +kernel
theorem dX5_asLikely_126 : decode cX5_asLikely 126 = .ok (.iload_n 3, 1) := by decide +kernel
theorem dX5_asLikely_127 : decode cX5_asLikely 127 = .ok (.bipush (-4), 2) := by decide +kernel
theorem dX5_asLikely_129 : decode cX5_asLikely 129 = .ok (.if_icmp .ne 7, 3) := by decide +kernel
theorem dX5_asLikely_132 : decode cX5_asLikely 132 = .ok (.iload_n 3, 1) := by decide +kernel
theorem dX5_asLikely_133 : decode cX5_asLikely 133 = .ok (.goto 10, 3) := by decide +kernel
theorem dX5_asLikely_136 : decode cX5_asLikely 136 = .ok (.lload 4, 2) := by decide +kernel
theorem dX5_asLikely_138 : decode cX5_asLikely 138 = .ok (.lload 6, 2) := by decide +kernel
theorem dX5_asLikely_140 : decode cX5_asLikely 140 = .ok (.invokestatic 134, 3) := by decide +kernel
theorem dX5_asLikely_143 : decode cX5_asLikely 143 = .ok (.ireturn, 1) := by decide +kernel
theorem dX5_evenings_0 : decode cX5_evenings 0 = .ok (.iload_n 1, 1) := by decide +kernel
theorem dX5_evenings_1 : decode cX5_evenings 1 = .ok (.iconst 1, 1) := by decide +kernel
theorem dX5_evenings_2 : decode cX5_evenings 2 = .ok (.sipush 9999, 3) := by decide +kernel
theorem dX5_evenings_5 : decode cX5_evenings 5 = .ok (.invokestatic 47, 3) := by decide +kernel
theorem dX5_evenings_8 : decode cX5_evenings 8 = .ok (.ifCond .ne 5, 3) := by decide +kernel
theorem dX5_evenings_11 : decode cX5_evenings 11 = .ok (.iconst (-1), 1) := by decide +kernel
theorem dX5_evenings_12 : decode cX5_evenings 12 = .ok (.ireturn, 1) := by decide +kernel
theorem dX5_evenings_13 : decode cX5_evenings 13 = .ok (.aload_n 0, 1) := by decide +kernel
theorem dX5_evenings_14 : decode cX5_evenings 14 = .ok (.iconst 0, 1) := by decide +kernel
theorem dX5_evenings_15 : decode cX5_evenings 15 = .ok (.invokevirtual 130, 3) := by decide +kernel
theorem dX5_evenings_18 : decode cX5_evenings 18 = .ok (.iconst 0, 1) := by decide +kernel
theorem dX5_evenings_19 : decode cX5_evenings 19 = .ok (.istore_n 2, 1) := by decide +kernel
theorem dX5_evenings_20 : decode cX5_evenings 20 = .ok (.iconst 1, 1) := by decide +kernel
theorem dX5_evenings_21 : decode cX5_evenings 21 = .ok (.istore_n 3, 1) := by decide +kernel
theorem dX5_evenings_22 : decode cX5_evenings 22 = .ok (.iload_n 3, 1) := by decide +kernel
theorem dX5_evenings_23 : decode cX5_evenings 23 = .ok (.bipush 8, 2) := by decide +kernel
theorem dX5_evenings_25 : decode cX5_evenings 25 = .ok (.if_icmp .ge 63, 3) := by decide +kernel
theorem dX5_evenings_28 : decode cX5_evenings 28 = .ok (.ldc2_w 109, 3) := by decide +kernel
theorem dX5_evenings_31 : decode cX5_evenings 31 = .ok (.aload_n 0, 1) := by decide +kernel
theorem dX5_evenings_32 : decode cX5_evenings 32 = .ok (.aload_n 0, 1) := by decide +kernel
theorem dX5_evenings_33 : decode cX5_evenings 33 = .ok (.getfield 80, 3) := by decide +kernel
theorem dX5_evenings_36 : decode cX5_evenings 36 = .ok (.iload_n 3, 1) := by decide +kernel
theorem dX5_evenings_37 : decode cX5_evenings 37 = .ok (.imul, 1) := by decide +kernel
theorem dX5_evenings_38 : decode cX5_evenings 38 = .ok (.bipush 21, 2) := by decide +kernel
theorem dX5_evenings_40 : decode cX5_evenings 40 = .ok (.if_icmp .le 8, 3) := by decide +kernel
theorem dX5_evenings_43 : decode cX5_evenings 43 = .ok (.bipush 21, 2) := by decide +kernel
theorem dX5_evenings_45 : decode cX5_evenings 45 = .ok (.goto 9, 3) := by decide +kernel
theorem dX5_evenings_48 : decode cX5_evenings 48 = .ok (.aload_n 0, 1) := by decide +kernel
theorem dX5_evenings_49 : decode cX5_evenings 49 = .ok (.getfield 80, 3) := by decide +kernel
theorem dX5_evenings_52 : decode cX5_evenings 52 = .ok (.iload_n 3, 1) := by decide +kernel
theorem dX5_evenings_53 : decode cX5_evenings 53 = .ok (.imul, 1) := by decide +kernel
theorem dX5_evenings_54 : decode cX5_evenings 54 = .ok (.invokevirtual 140, 3) := by decide +kernel
theorem dX5_evenings_57 : decode cX5_evenings 57 = .ok (.lsub, 1) := by decide +kernel
theorem dX5_evenings_58 : decode cX5_evenings 58 = .ok (.lstore 4, 2) := by decide +kernel
theorem dX5_evenings_60 : decode cX5_evenings 60 = .ok (.ldc2_w 125, 3) := by decide +kernel
theorem dX5_evenings_63 : decode cX5_evenings 63 = .ok (.lload 4, 2) := by decide +kernel
theorem dX5_evenings_65 : decode cX5_evenings 65 = .ok (.lmul, 1) := by decide +kernel
theorem dX5_evenings_66 : decode cX5_evenings 66 = .ok (.iload_n 1, 1) := by decide +kernel
theorem dX5_evenings_67 : decode cX5_evenings 67 = .ok (.i2l, 1) := by decide +kernel
theorem dX5_evenings_68 : decode cX5_evenings 68 = .ok (.ldc2_w 109, 3) := by decide +kernel
theorem dX5_evenings_71 : decode cX5_evenings 71 = .ok (.lmul, 1) := by decide +kernel
theorem dX5_evenings_72 : decode cX5_evenings 72 = .ok (.lcmp, 1) := by decide +kernel
theorem dX5_evenings_73 : decode cX5_evenings 73 = .ok (.ifCond .le 7, 3) := by decide +kernel
theorem dX5_evenings_76 : decode cX5_evenings 76 = .ok (.iload_n 3, 1) := by decide +kernel
theorem dX5_evenings_77 : decode cX5_evenings 77 = .ok (.goto 4, 3) := by decide +kernel
theorem dX5_evenings_80 : decode cX5_evenings 80 = .ok (.iload_n 2, 1) := by decide +kernel
theorem dX5_evenings_81 : decode cX5_evenings 81 = .ok (.istore_n 2, 1) := by decide +kernel
theorem dX5_evenings_82 : decode cX5_evenings 82 = .ok (.iinc 3 1, 3) := by decide +kernel
theorem dX5_evenings_85 : decode cX5_evenings 85 = .ok (.goto (-63), 3) := by decide +kernel
theorem dX5_evenings_88 : decode cX5_evenings 88 = .ok (.iload_n 2, 1) := by decide +kernel
theorem dX5_evenings_89 : decode cX5_evenings 89 = .ok (.ireturn, 1) := by decide +kernel
theorem dX5_which_0 : decode cX5_which 0 = .ok (.aload_n 0, 1) := by decide +kernel
theorem dX5_which_1 : decode cX5_which 1 = .ok (.iconst 0, 1) := by decide +kernel
theorem dX5_which_2 : decode cX5_which 2 = .ok (.invokevirtual 130, 3) := by decide +kernel
theorem dX5_which_5 : decode cX5_which 5 = .ok (.aload_n 0, 1) := by decide +kernel
theorem dX5_which_6 : decode cX5_which 6 = .ok (.getfield 102, 3) := by decide +kernel
theorem dX5_which_9 : decode cX5_which 9 = .ok (.ldc2_w 109, 3) := by decide +kernel
theorem dX5_which_12 : decode cX5_which 12 = .ok (.invokestatic 134, 3) := by decide +kernel
theorem dX5_which_15 : decode cX5_which 15 = .ok (.ireturn, 1) := by decide +kernel
theorem dX5_better_0 : decode cX5_better 0 = .ok (.iload_n 1, 1) := by decide +kernel
theorem dX5_better_1 : decode cX5_better 1 = .ok (.iconst 0, 1) := by decide +kernel
theorem dX5_better_2 : decode cX5_better 2 = .ok (.iconst 3, 1) := by decide +kernel
theorem dX5_better_3 : decode cX5_better 3 = .ok (.invokestatic 47, 3) := by decide +kernel
theorem dX5_better_6 : decode cX5_better 6 = .ok (.ifCond .eq 31, 3) := by decide +kernel
theorem dX5_better_9 : decode cX5_better 9 = .ok (.iload_n 2, 1) := by decide +kernel
theorem dX5_better_10 : decode cX5_better 10 = .ok (.iconst 0, 1) := by decide +kernel
theorem dX5_better_11 : decode cX5_better 11 = .ok (.iconst 4, 1) := by decide +kernel
theorem dX5_better_12 : decode cX5_better 12 = .ok (.invokestatic 47, 3) := by decide +kernel
theorem dX5_better_15 : decode cX5_better 15 = .ok (.ifCond .eq 22, 3) := by decide +kernel
theorem dX5_better_18 : decode cX5_better 18 = .ok (.iload_n 3, 1) := by decide +kernel
theorem dX5_better_19 : decode cX5_better 19 = .ok (.iconst 0, 1) := by decide +kernel
theorem dX5_better_20 : decode cX5_better 20 = .ok (.iconst 3, 1) := by decide +kernel
theorem dX5_better_21 : decode cX5_better 21 = .ok (.invokestatic 47, 3) := by decide +kernel
theorem dX5_better_24 : decode cX5_better 24 = .ok (.ifCond .eq 13, 3) := by decide +kernel
theorem dX5_better_27 : decode cX5_better 27 = .ok (.iload 4, 2) := by decide +kernel
theorem dX5_better_29 : decode cX5_better 29 = .ok (.iconst 0, 1) := by decide +kernel
theorem dX5_better_30 : decode cX5_better 30 = .ok (.iconst 4, 1) := by decide +kernel
theorem dX5_better_31 : decode cX5_better 31 = .ok (.invokestatic 47, 3) := by decide +kernel
theorem dX5_better_34 : decode cX5_better 34 = .ok (.ifCond .ne 5, 3) := by decide +kernel
theorem dX5_better_37 : decode cX5_better 37 = .ok (.iconst (-1), 1) := by decide +kernel
theorem dX5_better_38 : decode cX5_better 38 = .ok (.ireturn, 1) := by decide +kernel
theorem dX5_better_39 : decode cX5_better 39 = .ok (.aload_n 0, 1) := by decide +kernel
theorem dX5_better_40 : decode cX5_better 40 = .ok (.aload_n 0, 1) := by decide +kernel
theorem dX5_better_41 : decode cX5_better 41 = .ok (.getfield 16, 3) := by decide +kernel
theorem dX5_better_44 : decode cX5_better 44 = .ok (.iconst 0, 1) := by decide +kernel
theorem dX5_better_45 : decode cX5_better 45 = .ok (.iaload, 1) := by decide +kernel
theorem dX5_better_46 : decode cX5_better 46 = .ok (.aload_n 0, 1) := by decide +kernel
theorem dX5_better_47 : decode cX5_better 47 = .ok (.getfield 16, 3) := by decide +kernel
theorem dX5_better_50 : decode cX5_better 50 = .ok (.iconst 1, 1) := by decide +kernel
theorem dX5_better_51 : decode cX5_better 51 = .ok (.iaload, 1) := by decide +kernel
theorem dX5_better_52 : decode cX5_better 52 = .ok (.iload_n 1, 1) := by decide +kernel
theorem dX5_better_53 : decode cX5_better 53 = .ok (.iload_n 2, 1) := by decide +kernel
theorem dX5_better_54 : decode cX5_better 54 = .ok (.iconst 0, 1) := by decide +kernel
theorem dX5_better_55 : decode cX5_better 55 = .ok (.invokevirtual 121, 3) := by decide +kernel
theorem dX5_better_58 : decode cX5_better 58 = .ok (.aload_n 0, 1) := by decide +kernel
theorem dX5_better_59 : decode cX5_better 59 = .ok (.invokevirtual 144, 3) := by decide +kernel
theorem dX5_better_62 : decode cX5_better 62 = .ok (.lstore 5, 2) := by decide +kernel
theorem dX5_better_64 : decode cX5_better 64 = .ok (.aload_n 0, 1) := by decide +kernel
theorem dX5_better_65 : decode cX5_better 65 = .ok (.aload_n 0, 1) := by decide +kernel
theorem dX5_better_66 : decode cX5_better 66 = .ok (.getfield 16, 3) := by decide +kernel
theorem dX5_better_69 : decode cX5_better 69 = .ok (.iconst 0, 1) := by decide +kernel
theorem dX5_better_70 : decode cX5_better 70 = .ok (.iaload, 1) := by decide +kernel
theorem dX5_better_71 : decode cX5_better 71 = .ok (.aload_n 0, 1) := by decide +kernel
theorem dX5_better_72 : decode cX5_better 72 = .ok (.getfield 16, 3) := by decide +kernel
theorem dX5_better_75 : decode cX5_better 75 = .ok (.iconst 1, 1) := by decide +kernel
theorem dX5_better_76 : decode cX5_better 76 = .ok (.iaload, 1) := by decide +kernel
theorem dX5_better_77 : decode cX5_better 77 = .ok (.iload_n 3, 1) := by decide +kernel
theorem dX5_better_78 : decode cX5_better 78 = .ok (.iload 4, 2) := by decide +kernel
theorem dX5_better_80 : decode cX5_better 80 = .ok (.iconst 0, 1) := by decide +kernel
theorem dX5_better_81 : decode cX5_better 81 = .ok (.invokevirtual 121, 3) := by decide +kernel
theorem dX5_better_84 : decode cX5_better 84 = .ok (.aload_n 0, 1) := by decide +kernel
theorem dX5_better_85 : decode cX5_better 85 = .ok (.invokevirtual 144, 3) := by decide +kernel
theorem dX5_better_88 : decode cX5_better 88 = .ok (.lstore 7, 2) := by decide +kernel
theorem dX5_better_90 : decode cX5_better 90 = .ok (.lload 5, 2) := by decide +kernel
theorem dX5_better_92 : decode cX5_better 92 = .ok (.lload 7, 2) := by decide +kernel
theorem dX5_better_94 : decode cX5_better 94 = .ok (.lcmp, 1) := by decide +kernel
theorem dX5_better_95 : decode cX5_better 95 = .ok (.ifCond .le 7, 3) := by decide +kernel
theorem dX5_better_98 : decode cX5_better 98 = .ok (.iconst 1, 1) := by decide +kernel
theorem dX5_better_99 : decode cX5_better 99 = .ok (.goto 16, 3) := by decide +kernel
theorem dX5_better_102 : decode cX5_better 102 = .ok (.lload 5, 2) := by decide +kernel
theorem dX5_better_104 : decode cX5_better 104 = .ok (.lload 7, 2) := by decide +kernel
theorem dX5_better_106 : decode cX5_better 106 = .ok (.lcmp, 1) := by decide +kernel
theorem dX5_better_107 : decode cX5_better 107 = .ok (.ifCond .ge 7, 3) := by decide +kernel
theorem dX5_better_110 : decode cX5_better 110 = .ok (.iconst 2, 1) := by decide +kernel
theorem dX5_better_111 : decode cX5_better 111 = .ok (.goto 4, 3) := by decide +kernel
theorem dX5_better_114 : decode cX5_better 114 = .ok (.iconst 0, 1) := by decide +kernel
theorem dX5_better_115 : decode cX5_better 115 = .ok (.ireturn, 1) := by decide +kernel
theorem dX5_coat_0 : decode cX5_coat 0 = .ok (.iload_n 1, 1) := by decide +kernel
theorem dX5_coat_1 : decode cX5_coat 1 = .ok (.iconst 0, 1) := by decide +kernel
theorem dX5_coat_2 : decode cX5_coat 2 = .ok (.sipush 9999, 3) := by decide +kernel
theorem dX5_coat_5 : decode cX5_coat 5 = .ok (.invokestatic 47, 3) := by decide +kernel
theorem dX5_coat_8 : decode cX5_coat 8 = .ok (.ifCond .eq 22, 3) := by decide +kernel
theorem dX5_coat_11 : decode cX5_coat 11 = .ok (.iload_n 2, 1) := by decide +kernel
theorem dX5_coat_12 : decode cX5_coat 12 = .ok (.iconst 1, 1) := by decide +kernel
theorem dX5_coat_13 : decode cX5_coat 13 = .ok (.bipush 60, 2) := by decide +kernel
theorem dX5_coat_15 : decode cX5_coat 15 = .ok (.invokestatic 47, 3) := by decide +kernel
theorem dX5_coat_18 : decode cX5_coat 18 = .ok (.ifCond .eq 12, 3) := by decide +kernel
theorem dX5_coat_21 : decode cX5_coat 21 = .ok (.iload_n 3, 1) := by decide +kernel
theorem dX5_coat_22 : decode cX5_coat 22 = .ok (.iconst 0, 1) := by decide +kernel
theorem dX5_coat_23 : decode cX5_coat 23 = .ok (.iconst 1, 1) := by decide +kernel
theorem dX5_coat_24 : decode cX5_coat 24 = .ok (.invokestatic 47, 3) := by decide +kernel
theorem dX5_coat_27 : decode cX5_coat 27 = .ok (.ifCond .ne 5, 3) := by decide +kernel
theorem dX5_coat_30 : decode cX5_coat 30 = .ok (.iconst (-1), 1) := by decide +kernel
theorem dX5_coat_31 : decode cX5_coat 31 = .ok (.ireturn, 1) := by decide +kernel
theorem dX5_coat_32 : decode cX5_coat 32 = .ok (.aload_n 0, 1) := by decide +kernel
theorem dX5_coat_33 : decode cX5_coat 33 = .ok (.getfield 16, 3) := by decide +kernel
theorem dX5_coat_36 : decode cX5_coat 36 = .ok (.iconst 0, 1) := by decide +kernel
theorem dX5_coat_37 : decode cX5_coat 37 = .ok (.iaload, 1) := by decide +kernel
theorem dX5_coat_38 : decode cX5_coat 38 = .ok (.istore 4, 2) := by decide +kernel
theorem dX5_coat_40 : decode cX5_coat 40 = .ok (.aload_n 0, 1) := by decide +kernel
theorem dX5_coat_41 : decode cX5_coat 41 = .ok (.getfield 16, 3) := by decide +kernel
theorem dX5_coat_44 : decode cX5_coat 44 = .ok (.iconst 1, 1) := by decide +kernel
theorem dX5_coat_45 : decode cX5_coat 45 = .ok (.iaload, 1) := by decide +kernel
theorem dX5_coat_46 : decode cX5_coat 46 = .ok (.istore 5, 2) := by decide +kernel
theorem dX5_coat_48 : decode cX5_coat 48 = .ok (.aload_n 0, 1) := by decide +kernel
theorem dX5_coat_49 : decode cX5_coat 49 = .ok (.getfield 16, 3) := by decide +kernel
theorem dX5_coat_52 : decode cX5_coat 52 = .ok (.iconst 2, 1) := by decide +kernel
theorem dX5_coat_53 : decode cX5_coat 53 = .ok (.iaload, 1) := by decide +kernel
theorem dX5_coat_54 : decode cX5_coat 54 = .ok (.istore 6, 2) := by decide +kernel
theorem dX5_coat_56 : decode cX5_coat 56 = .ok (.iconst 0, 1) := by decide +kernel
theorem dX5_coat_57 : decode cX5_coat 57 = .ok (.istore 7, 2) := by decide +kernel
theorem dX5_coat_59 : decode cX5_coat 59 = .ok (.iconst 0, 1) := by decide +kernel
theorem dX5_coat_60 : decode cX5_coat 60 = .ok (.istore 8, 2) := by decide +kernel
theorem dX5_coat_62 : decode cX5_coat 62 = .ok (.iload 8, 2) := by decide +kernel
theorem dX5_coat_64 : decode cX5_coat 64 = .ok (.iload_n 2, 1) := by decide +kernel
theorem dX5_coat_65 : decode cX5_coat 65 = .ok (.if_icmp .ge 151, 3) := by decide +kernel
theorem dX5_coat_68 : decode cX5_coat 68 = .ok (.ldc2_w 155, 3) := by decide +kernel
theorem dX5_coat_71 : decode cX5_coat 71 = .ok (.iload_n 1, 1) := by decide +kernel
theorem dX5_coat_72 : decode cX5_coat 72 = .ok (.i2l, 1) := by decide +kernel
theorem dX5_coat_73 : decode cX5_coat 73 = .ok (.lmul, 1) := by decide +kernel
theorem dX5_coat_74 : decode cX5_coat 74 = .ok (.ldc2_w 157, 3) := by decide +kernel
theorem dX5_coat_77 : decode cX5_coat 77 = .ok (.iload 8, 2) := by decide +kernel
theorem dX5_coat_79 : decode cX5_coat 79 = .ok (.i2l, 1) := by decide +kernel
theorem dX5_coat_80 : decode cX5_coat 80 = .ok (.lmul, 1) := by decide +kernel
theorem dX5_coat_81 : decode cX5_coat 81 = .ok (.ladd, 1) := by decide +kernel
theorem dX5_coat_82 : decode cX5_coat 82 = .ok (.lconst 1, 1) := by decide +kernel
theorem dX5_coat_83 : decode cX5_coat 83 = .ok (.ladd, 1) := by decide +kernel
theorem dX5_coat_84 : decode cX5_coat 84 = .ok (.lstore 9, 2) := by decide +kernel
theorem dX5_coat_86 : decode cX5_coat 86 = .ok (.lload 9, 2) := by decide +kernel
theorem dX5_coat_88 : decode cX5_coat 88 = .ok (.lload 9, 2) := by decide +kernel
theorem dX5_coat_90 : decode cX5_coat 90 = .ok (.lmul, 1) := by decide +kernel
theorem dX5_coat_91 : decode cX5_coat 91 = .ok (.ldc2_w 159, 3) := by decide +kernel
theorem dX5_coat_94 : decode cX5_coat 94 = .ok (.lrem, 1) := by decide +kernel
theorem dX5_coat_95 : decode cX5_coat 95 = .ok (.l2i, 1) := by decide +kernel
theorem dX5_coat_96 : decode cX5_coat 96 = .ok (.bipush 8, 2) := by decide +kernel
theorem dX5_coat_98 : decode cX5_coat 98 = .ok (.idiv, 1) := by decide +kernel
theorem dX5_coat_99 : decode cX5_coat 99 = .ok (.istore 11, 2) := by decide +kernel
theorem dX5_coat_101 : decode cX5_coat 101 = .ok (.iload 11, 2) := by decide +kernel
theorem dX5_coat_103 : decode cX5_coat 103 = .ok (.iconst 4, 1) := by decide +kernel
theorem dX5_coat_104 : decode cX5_coat 104 = .ok (.irem, 1) := by decide +kernel
theorem dX5_coat_105 : decode cX5_coat 105 = .ok (.iload 4, 2) := by decide +kernel
theorem dX5_coat_107 : decode cX5_coat 107 = .ok (.iload 5, 2) := by decide +kernel
theorem dX5_coat_109 : decode cX5_coat 109 = .ok (.iload 6, 2) := by decide +kernel
theorem dX5_coat_111 : decode cX5_coat 111 = .ok (.aload_n 0, 1) := by decide +kernel
theorem dX5_coat_112 : decode cX5_coat 112 = .ok (.getfield 16, 3) := by decide +kernel
theorem dX5_coat_115 : decode cX5_coat 115 = .ok (.iconst 3, 1) := by decide +kernel
theorem dX5_coat_116 : decode cX5_coat 116 = .ok (.iaload, 1) := by decide +kernel
theorem dX5_coat_117 : decode cX5_coat 117 = .ok (.aload_n 0, 1) := by decide +kernel
theorem dX5_coat_118 : decode cX5_coat 118 = .ok (.getfield 16, 3) := by decide +kernel
theorem dX5_coat_121 : decode cX5_coat 121 = .ok (.iconst 4, 1) := by decide +kernel
theorem dX5_coat_122 : decode cX5_coat 122 = .ok (.iaload, 1) := by decide +kernel
theorem dX5_coat_123 : decode cX5_coat 123 = .ok (.invokestatic 92, 3) := by decide +kernel
theorem dX5_coat_126 : decode cX5_coat 126 = .ok (.if_icmp .ge 7, 3) := by decide +kernel
theorem dX5_coat_129 : decode cX5_coat 129 = .ok (.iconst 0, 1) := by decide +kernel
theorem dX5_coat_130 : decode cX5_coat 130 = .ok (.goto 4, 3) := by decide +kernel
theorem dX5_coat_133 : decode cX5_coat 133 = .ok (.iconst 1, 1) := by decide +kernel
theorem dX5_coat_134 : decode cX5_coat 134 = .ok (.istore 6, 2) := by decide +kernel
theorem dX5_coat_136 : decode cX5_coat 136 = .ok (.iload 6, 2) := by decide +kernel
theorem dX5_coat_138 : decode cX5_coat 138 = .ok (.ifCond .ne 8, 3) := by decide +kernel
theorem dX5_coat_141 : decode cX5_coat 141 = .ok (.iload 4, 2) := by decide +kernel
theorem dX5_coat_143 : decode cX5_coat 143 = .ok (.goto 5, 3) := by decide +kernel
theorem dX5_coat_146 : decode cX5_coat 146 = .ok (.iload 5, 2) := by decide +kernel
theorem dX5_coat_148 : decode cX5_coat 148 = .ok (.istore 12, 2) := by decide +kernel
theorem dX5_coat_150 : decode cX5_coat 150 = .ok (.iload 7, 2) := by decide +kernel
theorem dX5_coat_152 : decode cX5_coat 152 = .ok (.iload 12, 2) := by decide +kernel
theorem dX5_coat_154 : decode cX5_coat 154 = .ok (.ifCond .ne 7, 3) := by decide +kernel
theorem dX5_coat_157 : decode cX5_coat 157 = .ok (.iconst 1, 1) := by decide +kernel
theorem dX5_coat_158 : decode cX5_coat 158 = .ok (.goto 4, 3) := by decide +kernel
theorem dX5_coat_161 : decode cX5_coat 161 = .ok (.iconst 0, 1) := by decide +kernel
theorem dX5_coat_162 : decode cX5_coat 162 = .ok (.iadd, 1) := by decide +kernel
theorem dX5_coat_163 : decode cX5_coat 163 = .ok (.istore 7, 2) := by decide +kernel
theorem dX5_coat_165 : decode cX5_coat 165 = .ok (.iload 12, 2) := by decide +kernel
theorem dX5_coat_167 : decode cX5_coat 167 = .ok (.ifCond .ne 8, 3) := by decide +kernel
theorem dX5_coat_170 : decode cX5_coat 170 = .ok (.bipush 10, 2) := by decide +kernel
theorem dX5_coat_172 : decode cX5_coat 172 = .ok (.goto 7, 3) := by decide +kernel
theorem dX5_coat_175 : decode cX5_coat 175 = .ok (.iload 12, 2) := by decide +kernel
theorem dX5_coat_177 : decode cX5_coat 177 = .ok (.iconst 1, 1) := by decide +kernel
theorem dX5_coat_178 : decode cX5_coat 178 = .ok (.isub, 1) := by decide +kernel
theorem dX5_coat_179 : decode cX5_coat 179 = .ok (.istore 12, 2) := by decide +kernel
theorem dX5_coat_181 : decode cX5_coat 181 = .ok (.iload 6, 2) := by decide +kernel
theorem dX5_coat_183 : decode cX5_coat 183 = .ok (.ifCond .ne 8, 3) := by decide +kernel
theorem dX5_coat_186 : decode cX5_coat 186 = .ok (.iload 12, 2) := by decide +kernel
theorem dX5_coat_188 : decode cX5_coat 188 = .ok (.goto 5, 3) := by decide +kernel
theorem dX5_coat_191 : decode cX5_coat 191 = .ok (.iload 4, 2) := by decide +kernel
theorem dX5_coat_193 : decode cX5_coat 193 = .ok (.istore 4, 2) := by decide +kernel
theorem dX5_coat_195 : decode cX5_coat 195 = .ok (.iload 6, 2) := by decide +kernel
theorem dX5_coat_197 : decode cX5_coat 197 = .ok (.iconst 1, 1) := by decide +kernel
theorem dX5_coat_198 : decode cX5_coat 198 = .ok (.if_icmp .ne 8, 3) := by decide +kernel
theorem dX5_coat_201 : decode cX5_coat 201 = .ok (.iload 12, 2) := by decide +kernel
theorem dX5_coat_203 : decode cX5_coat 203 = .ok (.goto 5, 3) := by decide +kernel
theorem dX5_coat_206 : decode cX5_coat 206 = .ok (.iload 5, 2) := by decide +kernel
theorem dX5_coat_208 : decode cX5_coat 208 = .ok (.istore 5, 2) := by decide +kernel
theorem dX5_coat_210 : decode cX5_coat 210 = .ok (.iinc 8 1, 3) := by decide +kernel
theorem dX5_coat_213 : decode cX5_coat 213 = .ok (.goto (-151), 3) := by decide +kernel
theorem dX5_coat_216 : decode cX5_coat 216 = .ok (.iload_n 3, 1) := by decide +kernel
theorem dX5_coat_217 : decode cX5_coat 217 = .ok (.ifCond .ne 8, 3) := by decide +kernel
theorem dX5_coat_220 : decode cX5_coat 220 = .ok (.iload 7, 2) := by decide +kernel
theorem dX5_coat_222 : decode cX5_coat 222 = .ok (.goto 8, 3) := by decide +kernel
theorem dX5_coat_225 : decode cX5_coat 225 = .ok (.iload 4, 2) := by decide +kernel
theorem dX5_coat_227 : decode cX5_coat 227 = .ok (.iload 5, 2) := by decide +kernel
theorem dX5_coat_229 : decode cX5_coat 229 = .ok (.iadd, 1) := by decide +kernel
theorem dX5_coat_230 : decode cX5_coat 230 = .ok (.ireturn, 1) := by decide +kernel
theorem dX5_keep_0 : decode cX5_keep 0 = .ok (.aload_n 0, 1) := by decide +kernel
theorem dX5_keep_1 : decode cX5_keep 1 = .ok (.getfield 86, 3) := by decide +kernel
theorem dX5_keep_4 : decode cX5_keep 4 = .ok (.iconst 2, 1) := by decide +kernel
theorem dX5_keep_5 : decode cX5_keep 5 = .ok (.if_icmp .ne 6, 3) := by decide +kernel
theorem dX5_keep_8 : decode cX5_keep 8 = .ok (.bipush (-3), 2) := by decide +kernel
theorem dX5_keep_10 : decode cX5_keep 10 = .ok (.ireturn, 1) := by decide +kernel
theorem dX5_keep_11 : decode cX5_keep 11 = .ok (.iconst 0, 1) := by decide +kernel
theorem dX5_keep_12 : decode cX5_keep 12 = .ok (.istore_n 1, 1) := by decide +kernel
theorem dX5_keep_13 : decode cX5_keep 13 = .ok (.iload_n 1, 1) := by decide +kernel
theorem dX5_keep_14 : decode cX5_keep 14 = .ok (.iconst 5, 1) := by decide +kernel
theorem dX5_keep_15 : decode cX5_keep 15 = .ok (.if_icmp .ge 28, 3) := by decide +kernel
theorem dX5_keep_18 : decode cX5_keep 18 = .ok (.aload_n 0, 1) := by decide +kernel
theorem dX5_keep_19 : decode cX5_keep 19 = .ok (.getfield 22, 3) := by decide +kernel
theorem dX5_keep_22 : decode cX5_keep 22 = .ok (.iconst 5, 1) := by decide +kernel
theorem dX5_keep_23 : decode cX5_keep 23 = .ok (.aload_n 0, 1) := by decide +kernel
theorem dX5_keep_24 : decode cX5_keep 24 = .ok (.getfield 86, 3) := by decide +kernel
theorem dX5_keep_27 : decode cX5_keep 27 = .ok (.imul, 1) := by decide +kernel
theorem dX5_keep_28 : decode cX5_keep 28 = .ok (.iload_n 1, 1) := by decide +kernel
theorem dX5_keep_29 : decode cX5_keep 29 = .ok (.iadd, 1) := by decide +kernel
theorem dX5_keep_30 : decode cX5_keep 30 = .ok (.aload_n 0, 1) := by decide +kernel
theorem dX5_keep_31 : decode cX5_keep 31 = .ok (.getfield 16, 3) := by decide +kernel
theorem dX5_keep_34 : decode cX5_keep 34 = .ok (.iload_n 1, 1) := by decide +kernel
theorem dX5_keep_35 : decode cX5_keep 35 = .ok (.iaload, 1) := by decide +kernel
theorem dX5_keep_36 : decode cX5_keep 36 = .ok (.iastore, 1) := by decide +kernel
theorem dX5_keep_37 : decode cX5_keep 37 = .ok (.iinc 1 1, 3) := by decide +kernel
theorem dX5_keep_40 : decode cX5_keep 40 = .ok (.goto (-27), 3) := by decide +kernel
theorem dX5_keep_43 : decode cX5_keep 43 = .ok (.aload_n 0, 1) := by decide +kernel
theorem dX5_keep_44 : decode cX5_keep 44 = .ok (.dup, 1) := by decide +kernel
theorem dX5_keep_45 : decode cX5_keep 45 = .ok (.getfield 86, 3) := by decide +kernel
theorem dX5_keep_48 : decode cX5_keep 48 = .ok (.iconst 1, 1) := by decide +kernel
theorem dX5_keep_49 : decode cX5_keep 49 = .ok (.iadd, 1) := by decide +kernel
theorem dX5_keep_50 : decode cX5_keep 50 = .ok (.putfield 86, 3) := by decide +kernel
theorem dX5_keep_53 : decode cX5_keep 53 = .ok (.aload_n 0, 1) := by decide +kernel
theorem dX5_keep_54 : decode cX5_keep 54 = .ok (.getfield 86, 3) := by decide +kernel
theorem dX5_keep_57 : decode cX5_keep 57 = .ok (.ireturn, 1) := by decide +kernel
theorem dX5_back_0 : decode cX5_back 0 = .ok (.aload_n 0, 1) := by decide +kernel
theorem dX5_back_1 : decode cX5_back 1 = .ok (.getfield 86, 3) := by decide +kernel
theorem dX5_back_4 : decode cX5_back 4 = .ok (.ifCond .ne 6, 3) := by decide +kernel
theorem dX5_back_7 : decode cX5_back 7 = .ok (.bipush (-2), 2) := by decide +kernel
theorem dX5_back_9 : decode cX5_back 9 = .ok (.ireturn, 1) := by decide +kernel
theorem dX5_back_10 : decode cX5_back 10 = .ok (.aload_n 0, 1) := by decide +kernel
theorem dX5_back_11 : decode cX5_back 11 = .ok (.dup, 1) := by decide +kernel
theorem dX5_back_12 : decode cX5_back 12 = .ok (.getfield 86, 3) := by decide +kernel
theorem dX5_back_15 : decode cX5_back 15 = .ok (.iconst 1, 1) := by decide +kernel
theorem dX5_back_16 : decode cX5_back 16 = .ok (.isub, 1) := by decide +kernel
theorem dX5_back_17 : decode cX5_back 17 = .ok (.putfield 86, 3) := by decide +kernel
theorem dX5_back_20 : decode cX5_back 20 = .ok (.iconst 0, 1) := by decide +kernel
theorem dX5_back_21 : decode cX5_back 21 = .ok (.istore_n 1, 1) := by decide +kernel
theorem dX5_back_22 : decode cX5_back 22 = .ok (.iload_n 1, 1) := by decide +kernel
theorem dX5_back_23 : decode cX5_back 23 = .ok (.iconst 5, 1) := by decide +kernel
theorem dX5_back_24 : decode cX5_back 24 = .ok (.if_icmp .ge 28, 3) := by decide +kernel
theorem dX5_back_27 : decode cX5_back 27 = .ok (.aload_n 0, 1) := by decide +kernel
theorem dX5_back_28 : decode cX5_back 28 = .ok (.getfield 16, 3) := by decide +kernel
theorem dX5_back_31 : decode cX5_back 31 = .ok (.iload_n 1, 1) := by decide +kernel
theorem dX5_back_32 : decode cX5_back 32 = .ok (.aload_n 0, 1) := by decide +kernel
theorem dX5_back_33 : decode cX5_back 33 = .ok (.getfield 22, 3) := by decide +kernel
theorem dX5_back_36 : decode cX5_back 36 = .ok (.iconst 5, 1) := by decide +kernel
theorem dX5_back_37 : decode cX5_back 37 = .ok (.aload_n 0, 1) := by decide +kernel
theorem dX5_back_38 : decode cX5_back 38 = .ok (.getfield 86, 3) := by decide +kernel
theorem dX5_back_41 : decode cX5_back 41 = .ok (.imul, 1) := by decide +kernel
theorem dX5_back_42 : decode cX5_back 42 = .ok (.iload_n 1, 1) := by decide +kernel
theorem dX5_back_43 : decode cX5_back 43 = .ok (.iadd, 1) := by decide +kernel
theorem dX5_back_44 : decode cX5_back 44 = .ok (.iaload, 1) := by decide +kernel
theorem dX5_back_45 : decode cX5_back 45 = .ok (.iastore, 1) := by decide +kernel
theorem dX5_back_46 : decode cX5_back 46 = .ok (.iinc 1 1, 3) := by decide +kernel
theorem dX5_back_49 : decode cX5_back 49 = .ok (.goto (-27), 3) := by decide +kernel
theorem dX5_back_52 : decode cX5_back 52 = .ok (.aload_n 0, 1) := by decide +kernel
theorem dX5_back_53 : decode cX5_back 53 = .ok (.iconst 0, 1) := by decide +kernel
theorem dX5_back_54 : decode cX5_back 54 = .ok (.putfield 83, 3) := by decide +kernel
theorem dX5_back_57 : decode cX5_back 57 = .ok (.aload_n 0, 1) := by decide +kernel
theorem dX5_back_58 : decode cX5_back 58 = .ok (.getfield 86, 3) := by decide +kernel
theorem dX5_back_61 : decode cX5_back 61 = .ok (.ireturn, 1) := by decide +kernel
theorem dX5_count_0 : decode cX5_count 0 = .ok (.iload_n 1, 1) := by decide +kernel
theorem dX5_count_1 : decode cX5_count 1 = .ok (.tableswitch 111 0 8 #[51, 65, 72, 79, 84, 91, 96, 101, 106], 51) := by decide +kernel
theorem dX5_count_52 : decode cX5_count 52 = .ok (.aload_n 0, 1) := by decide +kernel
theorem dX5_count_53 : decode cX5_count 53 = .ok (.getfield 16, 3) := by decide +kernel
theorem dX5_count_56 : decode cX5_count 56 = .ok (.iconst 0, 1) := by decide +kernel
theorem dX5_count_57 : decode cX5_count 57 = .ok (.iaload, 1) := by decide +kernel
theorem dX5_count_58 : decode cX5_count 58 = .ok (.aload_n 0, 1) := by decide +kernel
theorem dX5_count_59 : decode cX5_count 59 = .ok (.getfield 16, 3) := by decide +kernel
theorem dX5_count_62 : decode cX5_count 62 = .ok (.iconst 1, 1) := by decide +kernel
theorem dX5_count_63 : decode cX5_count 63 = .ok (.iaload, 1) := by decide +kernel
theorem dX5_count_64 : decode cX5_count 64 = .ok (.iadd, 1) := by decide +kernel
theorem dX5_count_65 : decode cX5_count 65 = .ok (.ireturn, 1) := by decide +kernel
theorem dX5_count_66 : decode cX5_count 66 = .ok (.aload_n 0, 1) := by decide +kernel
theorem dX5_count_67 : decode cX5_count 67 = .ok (.getfield 16, 3) := by decide +kernel
theorem dX5_count_70 : decode cX5_count 70 = .ok (.iconst 3, 1) := by decide +kernel
theorem dX5_count_71 : decode cX5_count 71 = .ok (.iaload, 1) := by decide +kernel
theorem dX5_count_72 : decode cX5_count 72 = .ok (.ireturn, 1) := by decide +kernel
theorem dX5_count_73 : decode cX5_count 73 = .ok (.aload_n 0, 1) := by decide +kernel
theorem dX5_count_74 : decode cX5_count 74 = .ok (.getfield 16, 3) := by decide +kernel
theorem dX5_count_77 : decode cX5_count 77 = .ok (.iconst 4, 1) := by decide +kernel
theorem dX5_count_78 : decode cX5_count 78 = .ok (.iaload, 1) := by decide +kernel
theorem dX5_count_79 : decode cX5_count 79 = .ok (.ireturn, 1) := by decide +kernel
theorem dX5_count_80 : decode cX5_count 80 = .ok (.aload_n 0, 1) := by decide +kernel
theorem dX5_count_81 : decode cX5_count 81 = .ok (.getfield 80, 3) := by decide +kernel
theorem dX5_count_84 : decode cX5_count 84 = .ok (.ireturn, 1) := by decide +kernel
theorem dX5_count_85 : decode cX5_count 85 = .ok (.aload_n 0, 1) := by decide +kernel
theorem dX5_count_86 : decode cX5_count 86 = .ok (.getfield 16, 3) := by decide +kernel
theorem dX5_count_89 : decode cX5_count 89 = .ok (.iconst 2, 1) := by decide +kernel
theorem dX5_count_90 : decode cX5_count 90 = .ok (.iaload, 1) := by decide +kernel
theorem dX5_count_91 : decode cX5_count 91 = .ok (.ireturn, 1) := by decide +kernel
theorem dX5_count_92 : decode cX5_count 92 = .ok (.aload_n 0, 1) := by decide +kernel
theorem dX5_count_93 : decode cX5_count 93 = .ok (.getfield 89, 3) := by decide +kernel
theorem dX5_count_96 : decode cX5_count 96 = .ok (.ireturn, 1) := by decide +kernel
theorem dX5_count_97 : decode cX5_count 97 = .ok (.aload_n 0, 1) := by decide +kernel
theorem dX5_count_98 : decode cX5_count 98 = .ok (.getfield 83, 3) := by decide +kernel
theorem dX5_count_101 : decode cX5_count 101 = .ok (.ireturn, 1) := by decide +kernel
theorem dX5_count_102 : decode cX5_count 102 = .ok (.aload_n 0, 1) := by decide +kernel
theorem dX5_count_103 : decode cX5_count 103 = .ok (.getfield 86, 3) := by decide +kernel
theorem dX5_count_106 : decode cX5_count 106 = .ok (.ireturn, 1) := by decide +kernel
theorem dX5_count_107 : decode cX5_count 107 = .ok (.aload_n 0, 1) := by decide +kernel
theorem dX5_count_108 : decode cX5_count 108 = .ok (.getfield 51, 3) := by decide +kernel
theorem dX5_count_111 : decode cX5_count 111 = .ok (.ireturn, 1) := by decide +kernel
theorem dX5_count_112 : decode cX5_count 112 = .ok (.iconst (-1), 1) := by decide +kernel
theorem dX5_count_113 : decode cX5_count 113 = .ok (.ireturn, 1) := by decide +kernel
