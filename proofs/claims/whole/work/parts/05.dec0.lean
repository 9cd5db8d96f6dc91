theorem dX0_init_0 : decode cX0_init 0 = .ok (.aload_n 0, 1) := by decide +kernel
theorem dX0_init_1 : decode cX0_init 1 = .ok (.invokespecial 3, 3) := by decide +kernel
theorem dX0_init_4 : decode cX0_init 4 = .ok (.return_, 1) := by decide +kernel
theorem dX0_copyFrom_0 : decode cX0_copyFrom 0 = .ok (.aload_n 0, 1) := by decide +kernel
theorem dX0_copyFrom_1 : decode cX0_copyFrom 1 = .ok (.aload_n 1, 1) := by decide +kernel
theorem dX0_copyFrom_2 : decode cX0_copyFrom 2 = .ok (.getfield 9, 3) := by decide +kernel
theorem dX0_copyFrom_5 : decode cX0_copyFrom 5 = .ok (.putfield 9, 3) := by decide +kernel
theorem dX0_copyFrom_8 : decode cX0_copyFrom 8 = .ok (.aload_n 0, 1) := by decide +kernel
theorem dX0_copyFrom_9 : decode cX0_copyFrom 9 = .ok (.aload_n 1, 1) := by decide +kernel
theorem dX0_copyFrom_10 : decode cX0_copyFrom 10 = .ok (.getfield 15, 3) := by decide +kernel
theorem dX0_copyFrom_13 : decode cX0_copyFrom 13 = .ok (.putfield 15, 3) := by decide +kernel
theorem dX0_copyFrom_16 : decode cX0_copyFrom 16 = .ok (.aload_n 0, 1) := by decide +kernel
theorem dX0_copyFrom_17 : decode cX0_copyFrom 17 = .ok (.aload_n 1, 1) := by decide +kernel
theorem dX0_copyFrom_18 : decode cX0_copyFrom 18 = .ok (.getfield 18, 3) := by decide +kernel
theorem dX0_copyFrom_21 : decode cX0_copyFrom 21 = .ok (.putfield 18, 3) := by decide +kernel
theorem dX0_copyFrom_24 : decode cX0_copyFrom 24 = .ok (.aload_n 0, 1) := by decide +kernel
theorem dX0_copyFrom_25 : decode cX0_copyFrom 25 = .ok (.aload_n 1, 1) := by decide +kernel
theorem dX0_copyFrom_26 : decode cX0_copyFrom 26 = .ok (.getfield 21, 3) := by decide +kernel
theorem dX0_copyFrom_29 : decode cX0_copyFrom 29 = .ok (.putfield 21, 3) := by decide +kernel
theorem dX0_copyFrom_32 : decode cX0_copyFrom 32 = .ok (.aload_n 0, 1) := by decide +kernel
theorem dX0_copyFrom_33 : decode cX0_copyFrom 33 = .ok (.aload_n 1, 1) := by decide +kernel
theorem dX0_copyFrom_34 : decode cX0_copyFrom 34 = .ok (.getfield 24, 3) := by decide +kernel
theorem dX0_copyFrom_37 : decode cX0_copyFrom 37 = .ok (.putfield 24, 3) := by decide +kernel
theorem dX0_copyFrom_40 : decode cX0_copyFrom 40 = .ok (.return_, 1) := by decide +kernel
theorem dX0_setBoxes_0 : decode cX0_setBoxes 0 = .ok (.aload_n 0, 1) := by decide +kernel
theorem dX0_setBoxes_1 : decode cX0_setBoxes 1 = .ok (.iload_n 1, 1) := by decide +kernel
theorem dX0_setBoxes_2 : decode cX0_setBoxes 2 = .ok (.putfield 9, 3) := by decide +kernel
theorem dX0_setBoxes_5 : decode cX0_setBoxes 5 = .ok (.aload_n 0, 1) := by decide +kernel
theorem dX0_setBoxes_6 : decode cX0_setBoxes 6 = .ok (.iload_n 2, 1) := by decide +kernel
theorem dX0_setBoxes_7 : decode cX0_setBoxes 7 = .ok (.putfield 15, 3) := by decide +kernel
theorem dX0_setBoxes_10 : decode cX0_setBoxes 10 = .ok (.return_, 1) := by decide +kernel
theorem dX0_setBox_0 : decode cX0_setBox 0 = .ok (.iload_n 1, 1) := by decide +kernel
theorem dX0_setBox_1 : decode cX0_setBox 1 = .ok (.ifCond .ne 11, 3) := by decide +kernel
theorem dX0_setBox_4 : decode cX0_setBox 4 = .ok (.aload_n 0, 1) := by decide +kernel
theorem dX0_setBox_5 : decode cX0_setBox 5 = .ok (.iload_n 2, 1) := by decide +kernel
theorem dX0_setBox_6 : decode cX0_setBox 6 = .ok (.putfield 9, 3) := by decide +kernel
theorem dX0_setBox_9 : decode cX0_setBox 9 = .ok (.goto 8, 3) := by decide +kernel
theorem dX0_setBox_12 : decode cX0_setBox 12 = .ok (.aload_n 0, 1) := by decide +kernel
theorem dX0_setBox_13 : decode cX0_setBox 13 = .ok (.iload_n 2, 1) := by decide +kernel
theorem dX0_setBox_14 : decode cX0_setBox 14 = .ok (.putfield 15, 3) := by decide +kernel
theorem dX0_setBox_17 : decode cX0_setBox 17 = .ok (.return_, 1) := by decide +kernel
theorem dX0_setHand_0 : decode cX0_setHand 0 = .ok (.aload_n 0, 1) := by decide +kernel
theorem dX0_setHand_1 : decode cX0_setHand 1 = .ok (.iload_n 1, 1) := by decide +kernel
theorem dX0_setHand_2 : decode cX0_setHand 2 = .ok (.putfield 21, 3) := by decide +kernel
theorem dX0_setHand_5 : decode cX0_setHand 5 = .ok (.aload_n 0, 1) := by decide +kernel
theorem dX0_setHand_6 : decode cX0_setHand 6 = .ok (.iload_n 2, 1) := by decide +kernel
theorem dX0_setHand_7 : decode cX0_setHand 7 = .ok (.putfield 24, 3) := by decide +kernel
theorem dX0_setHand_10 : decode cX0_setHand 10 = .ok (.return_, 1) := by decide +kernel
theorem dX0_inBox_0 : decode cX0_inBox 0 = .ok (.iload_n 1, 1) := by decide +kernel
theorem dX0_inBox_1 : decode cX0_inBox 1 = .ok (.ifCond .ne 10, 3) := by decide +kernel
theorem dX0_inBox_4 : decode cX0_inBox 4 = .ok (.aload_n 0, 1) := by decide +kernel
theorem dX0_inBox_5 : decode cX0_inBox 5 = .ok (.getfield 9, 3) := by decide +kernel
theorem dX0_inBox_8 : decode cX0_inBox 8 = .ok (.goto 7, 3) := by decide +kernel
theorem dX0_inBox_11 : decode cX0_inBox 11 = .ok (.aload_n 0, 1) := by decide +kernel
theorem dX0_inBox_12 : decode cX0_inBox 12 = .ok (.getfield 15, 3) := by decide +kernel
theorem dX0_inBox_15 : decode cX0_inBox 15 = .ok (.ireturn, 1) := by decide +kernel
theorem dX0_matches_0 : decode cX0_matches 0 = .ok (.aload_n 0, 1) := by decide +kernel
theorem dX0_matches_1 : decode cX0_matches 1 = .ok (.getfield 9, 3) := by decide +kernel
theorem dX0_matches_4 : decode cX0_matches 4 = .ok (.aload_n 0, 1) := by decide +kernel
theorem dX0_matches_5 : decode cX0_matches 5 = .ok (.getfield 15, 3) := by decide +kernel
theorem dX0_matches_8 : decode cX0_matches 8 = .ok (.iadd, 1) := by decide +kernel
theorem dX0_matches_9 : decode cX0_matches 9 = .ok (.ireturn, 1) := by decide +kernel
theorem dX0_quartersToLeft_0 : decode cX0_quartersToLeft 0 = .ok (.aload_n 0, 1) := by decide +kernel
theorem dX0_quartersToLeft_1 : decode cX0_quartersToLeft 1 = .ok (.getfield 21, 3) := by decide +kernel
theorem dX0_quartersToLeft_4 : decode cX0_quartersToLeft 4 = .ok (.aload_n 0, 1) := by decide +kernel
theorem dX0_quartersToLeft_5 : decode cX0_quartersToLeft 5 = .ok (.getfield 24, 3) := by decide +kernel
theorem dX0_quartersToLeft_8 : decode cX0_quartersToLeft 8 = .ok (.aload_n 0, 1) := by decide +kernel
theorem dX0_quartersToLeft_9 : decode cX0_quartersToLeft 9 = .ok (.getfield 9, 3) := by decide +kernel
theorem dX0_quartersToLeft_12 : decode cX0_quartersToLeft 12 = .ok (.aload_n 0, 1) := by decide +kernel
theorem dX0_quartersToLeft_13 : decode cX0_quartersToLeft 13 = .ok (.getfield 15, 3) := by decide +kernel
theorem dX0_quartersToLeft_16 : decode cX0_quartersToLeft 16 = .ok (.aload_n 0, 1) := by decide +kernel
theorem dX0_quartersToLeft_17 : decode cX0_quartersToLeft 17 = .ok (.getfield 18, 3) := by decide +kernel
theorem dX0_quartersToLeft_20 : decode cX0_quartersToLeft 20 = .ok (.invokestatic 27, 3) := by decide +kernel
theorem dX0_quartersToLeft_23 : decode cX0_quartersToLeft 23 = .ok (.ireturn, 1) := by decide +kernel
theorem dX0_draw_0 : decode cX0_draw 0 = .ok (.aload_n 0, 1) := by decide +kernel
theorem dX0_draw_1 : decode cX0_draw 1 = .ok (.iload_n 1, 1) := by decide +kernel
theorem dX0_draw_2 : decode cX0_draw 2 = .ok (.putfield 18, 3) := by decide +kernel
theorem dX0_draw_5 : decode cX0_draw 5 = .ok (.aload_n 0, 1) := by decide +kernel
theorem dX0_draw_6 : decode cX0_draw 6 = .ok (.iload_n 1, 1) := by decide +kernel
theorem dX0_draw_7 : decode cX0_draw 7 = .ok (.invokevirtual 31, 3) := by decide +kernel
theorem dX0_draw_10 : decode cX0_draw 10 = .ok (.istore_n 2, 1) := by decide +kernel
theorem dX0_draw_11 : decode cX0_draw 11 = .ok (.iload_n 2, 1) := by decide +kernel
theorem dX0_draw_12 : decode cX0_draw 12 = .ok (.ifCond .ne 5, 3) := by decide +kernel
theorem dX0_draw_15 : decode cX0_draw 15 = .ok (.iconst 0, 1) := by decide +kernel
theorem dX0_draw_16 : decode cX0_draw 16 = .ok (.ireturn, 1) := by decide +kernel
theorem dX0_draw_17 : decode cX0_draw 17 = .ok (.aload_n 0, 1) := by decide +kernel
theorem dX0_draw_18 : decode cX0_draw 18 = .ok (.iload_n 1, 1) := by decide +kernel
theorem dX0_draw_19 : decode cX0_draw 19 = .ok (.iload_n 2, 1) := by decide +kernel
theorem dX0_draw_20 : decode cX0_draw 20 = .ok (.iconst 1, 1) := by decide +kernel
theorem dX0_draw_21 : decode cX0_draw 21 = .ok (.isub, 1) := by decide +kernel
theorem dX0_draw_22 : decode cX0_draw 22 = .ok (.invokevirtual 35, 3) := by decide +kernel
theorem dX0_draw_25 : decode cX0_draw 25 = .ok (.iconst 1, 1) := by decide +kernel
theorem dX0_draw_26 : decode cX0_draw 26 = .ok (.ireturn, 1) := by decide +kernel
theorem dX1_init_0 : decode cX1_init 0 = .ok (.aload_n 0, 1) := by decide +kernel
theorem dX1_init_1 : decode cX1_init 1 = .ok (.invokespecial 1, 3) := by decide +kernel
theorem dX1_init_4 : decode cX1_init 4 = .ok (.aload_n 0, 1) := by decide +kernel
theorem dX1_init_5 : decode cX1_init 5 = .ok (.iconst 0, 1) := by decide +kernel
theorem dX1_init_6 : decode cX1_init 6 = .ok (.putfield 7, 3) := by decide +kernel
theorem dX1_init_9 : decode cX1_init 9 = .ok (.aload_n 0, 1) := by decide +kernel
theorem dX1_init_10 : decode cX1_init 10 = .ok (.iload_n 1, 1) := by decide +kernel
theorem dX1_init_11 : decode cX1_init 11 = .ok (.iconst 1, 1) := by decide +kernel
theorem dX1_init_12 : decode cX1_init 12 = .ok (.invokestatic 13, 3) := by decide +kernel
theorem dX1_init_15 : decode cX1_init 15 = .ok (.anewarray 19, 3) := by decide +kernel
theorem dX1_init_18 : decode cX1_init 18 = .ok (.putfield 21, 3) := by decide +kernel
theorem dX1_init_21 : decode cX1_init 21 = .ok (.iconst 0, 1) := by decide +kernel
theorem dX1_init_22 : decode cX1_init 22 = .ok (.istore_n 2, 1) := by decide +kernel
theorem dX1_init_23 : decode cX1_init 23 = .ok (.iload_n 2, 1) := by decide +kernel
theorem dX1_init_24 : decode cX1_init 24 = .ok (.aload_n 0, 1) := by decide +kernel
theorem dX1_init_25 : decode cX1_init 25 = .ok (.getfield 21, 3) := by decide +kernel
theorem dX1_init_28 : decode cX1_init 28 = .ok (.arraylength, 1) := by decide +kernel
theorem dX1_init_29 : decode cX1_init 29 = .ok (.if_icmp .ge 22, 3) := by decide +kernel
theorem dX1_init_32 : decode cX1_init 32 = .ok (.aload_n 0, 1) := by decide +kernel
theorem dX1_init_33 : decode cX1_init 33 = .ok (.getfield 21, 3) := by decide +kernel
theorem dX1_init_36 : decode cX1_init 36 = .ok (.iload_n 2, 1) := by decide +kernel
theorem dX1_init_37 : decode cX1_init 37 = .ok (.new 19, 3) := by decide +kernel
theorem dX1_init_40 : decode cX1_init 40 = .ok (.dup, 1) := by decide +kernel
theorem dX1_init_41 : decode cX1_init 41 = .ok (.invokespecial 25, 3) := by decide +kernel
theorem dX1_init_44 : decode cX1_init 44 = .ok (.aastore, 1) := by decide +kernel
theorem dX1_init_45 : decode cX1_init 45 = .ok (.iinc 2 1, 3) := by decide +kernel
theorem dX1_init_48 : decode cX1_init 48 = .ok (.goto (-25), 3) := by decide +kernel
theorem dX1_init_51 : decode cX1_init 51 = .ok (.return_, 1) := by decide +kernel
theorem dX1_size_0 : decode cX1_size 0 = .ok (.aload_n 0, 1) := by decide +kernel
theorem dX1_size_1 : decode cX1_size 1 = .ok (.getfield 7, 3) := by decide +kernel
theorem dX1_size_4 : decode cX1_size 4 = .ok (.ireturn, 1) := by decide +kernel
theorem dX1_isFull_0 : decode cX1_isFull 0 = .ok (.aload_n 0, 1) := by decide +kernel
theorem dX1_isFull_1 : decode cX1_isFull 1 = .ok (.getfield 7, 3) := by decide +kernel
theorem dX1_isFull_4 : decode cX1_isFull 4 = .ok (.aload_n 0, 1) := by decide +kernel
theorem dX1_isFull_5 : decode cX1_isFull 5 = .ok (.getfield 21, 3) := by decide +kernel
theorem dX1_isFull_8 : decode cX1_isFull 8 = .ok (.arraylength, 1) := by decide +kernel
theorem dX1_isFull_9 : decode cX1_isFull 9 = .ok (.if_icmp .lt 7, 3) := by decide +kernel
theorem dX1_isFull_12 : decode cX1_isFull 12 = .ok (.iconst 1, 1) := by decide +kernel
theorem dX1_isFull_13 : decode cX1_isFull 13 = .ok (.goto 4, 3) := by decide +kernel
theorem dX1_isFull_16 : decode cX1_isFull 16 = .ok (.iconst 0, 1) := by decide +kernel
theorem dX1_isFull_17 : decode cX1_isFull 17 = .ok (.ireturn, 1) := by decide +kernel
theorem dX1_clear_0 : decode cX1_clear 0 = .ok (.aload_n 0, 1) := by decide +kernel
theorem dX1_clear_1 : decode cX1_clear 1 = .ok (.iconst 0, 1) := by decide +kernel
theorem dX1_clear_2 : decode cX1_clear 2 = .ok (.putfield 7, 3) := by decide +kernel
theorem dX1_clear_5 : decode cX1_clear 5 = .ok (.return_, 1) := by decide +kernel
theorem dX1_put_0 : decode cX1_put 0 = .ok (.aload_n 0, 1) := by decide +kernel
theorem dX1_put_1 : decode cX1_put 1 = .ok (.invokevirtual 26, 3) := by decide +kernel
theorem dX1_put_4 : decode cX1_put 4 = .ok (.ifCond .eq 7, 3) := by decide +kernel
theorem dX1_put_7 : decode cX1_put 7 = .ok (.aload_n 0, 1) := by decide +kernel
theorem dX1_put_8 : decode cX1_put 8 = .ok (.invokevirtual 30, 3) := by decide +kernel
theorem dX1_put_11 : decode cX1_put 11 = .ok (.aload_n 0, 1) := by decide +kernel
theorem dX1_put_12 : decode cX1_put 12 = .ok (.getfield 7, 3) := by decide +kernel
theorem dX1_put_15 : decode cX1_put 15 = .ok (.iconst 0, 1) := by decide +kernel
theorem dX1_put_16 : decode cX1_put 16 = .ok (.aload_n 0, 1) := by decide +kernel
theorem dX1_put_17 : decode cX1_put 17 = .ok (.getfield 21, 3) := by decide +kernel
theorem dX1_put_20 : decode cX1_put 20 = .ok (.arraylength, 1) := by decide +kernel
theorem dX1_put_21 : decode cX1_put 21 = .ok (.iconst 1, 1) := by decide +kernel
theorem dX1_put_22 : decode cX1_put 22 = .ok (.isub, 1) := by decide +kernel
theorem dX1_put_23 : decode cX1_put 23 = .ok (.invokestatic 33, 3) := by decide +kernel
theorem dX1_put_26 : decode cX1_put 26 = .ok (.ifCond .eq 26, 3) := by decide +kernel
theorem dX1_put_29 : decode cX1_put 29 = .ok (.aload_n 0, 1) := by decide +kernel
theorem dX1_put_30 : decode cX1_put 30 = .ok (.getfield 21, 3) := by decide +kernel
theorem dX1_put_33 : decode cX1_put 33 = .ok (.aload_n 0, 1) := by decide +kernel
theorem dX1_put_34 : decode cX1_put 34 = .ok (.getfield 7, 3) := by decide +kernel
theorem dX1_put_37 : decode cX1_put 37 = .ok (.aaload, 1) := by decide +kernel
theorem dX1_put_38 : decode cX1_put 38 = .ok (.aload_n 1, 1) := by decide +kernel
theorem dX1_put_39 : decode cX1_put 39 = .ok (.invokevirtual 39, 3) := by decide +kernel
theorem dX1_put_42 : decode cX1_put 42 = .ok (.aload_n 0, 1) := by decide +kernel
theorem dX1_put_43 : decode cX1_put 43 = .ok (.dup, 1) := by decide +kernel
theorem dX1_put_44 : decode cX1_put 44 = .ok (.getfield 7, 3) := by decide +kernel
theorem dX1_put_47 : decode cX1_put 47 = .ok (.iconst 1, 1) := by decide +kernel
theorem dX1_put_48 : decode cX1_put 48 = .ok (.iadd, 1) := by decide +kernel
theorem dX1_put_49 : decode cX1_put 49 = .ok (.putfield 7, 3) := by decide +kernel
theorem dX1_put_52 : decode cX1_put 52 = .ok (.return_, 1) := by decide +kernel
theorem dX1_takeLast_0 : decode cX1_takeLast 0 = .ok (.aload_n 0, 1) := by decide +kernel
theorem dX1_takeLast_1 : decode cX1_takeLast 1 = .ok (.getfield 7, 3) := by decide +kernel
theorem dX1_takeLast_4 : decode cX1_takeLast 4 = .ok (.iconst 1, 1) := by decide +kernel
theorem dX1_takeLast_5 : decode cX1_takeLast 5 = .ok (.aload_n 0, 1) := by decide +kernel
theorem dX1_takeLast_6 : decode cX1_takeLast 6 = .ok (.getfield 21, 3) := by decide +kernel
theorem dX1_takeLast_9 : decode cX1_takeLast 9 = .ok (.arraylength, 1) := by decide +kernel
theorem dX1_takeLast_10 : decode cX1_takeLast 10 = .ok (.invokestatic 33, 3) := by decide +kernel
theorem dX1_takeLast_13 : decode cX1_takeLast 13 = .ok (.ifCond .ne 5, 3) := by decide +kernel
theorem dX1_takeLast_16 : decode cX1_takeLast 16 = .ok (.iconst 0, 1) := by decide +kernel
theorem dX1_takeLast_17 : decode cX1_takeLast 17 = .ok (.ireturn, 1) := by decide +kernel
theorem dX1_takeLast_18 : decode cX1_takeLast 18 = .ok (.aload_n 0, 1) := by decide +kernel
theorem dX1_takeLast_19 : decode cX1_takeLast 19 = .ok (.dup, 1) := by decide +kernel
theorem dX1_takeLast_20 : decode cX1_takeLast 20 = .ok (.getfield 7, 3) := by decide +kernel
theorem dX1_takeLast_23 : decode cX1_takeLast 23 = .ok (.iconst 1, 1) := by decide +kernel
theorem dX1_takeLast_24 : decode cX1_takeLast 24 = .ok (.isub, 1) := by decide +kernel
theorem dX1_takeLast_25 : decode cX1_takeLast 25 = .ok (.putfield 7, 3) := by decide +kernel
theorem dX1_takeLast_28 : decode cX1_takeLast 28 = .ok (.aload_n 1, 1) := by decide +kernel
theorem dX1_takeLast_29 : decode cX1_takeLast 29 = .ok (.aload_n 0, 1) := by decide +kernel
theorem dX1_takeLast_30 : decode cX1_takeLast 30 = .ok (.getfield 21, 3) := by decide +kernel
theorem dX1_takeLast_33 : decode cX1_takeLast 33 = .ok (.aload_n 0, 1) := by decide +kernel
theorem dX1_takeLast_34 : decode cX1_takeLast 34 = .ok (.getfield 7, 3) := by decide +kernel
theorem dX1_takeLast_37 : decode cX1_takeLast 37 = .ok (.aaload, 1) := by decide +kernel
theorem dX1_takeLast_38 : decode cX1_takeLast 38 = .ok (.invokevirtual 39, 3) := by decide +kernel
theorem dX1_takeLast_41 : decode cX1_takeLast 41 = .ok (.iconst 1, 1) := by decide +kernel
theorem dX1_takeLast_42 : decode cX1_takeLast 42 = .ok (.ireturn, 1) := by decide +kernel
theorem dX1_dropOldest_0 : decode cX1_dropOldest 0 = .ok (.iconst 1, 1) := by decide +kernel
theorem dX1_dropOldest_1 : decode cX1_dropOldest 1 = .ok (.istore_n 1, 1) := by decide +kernel
theorem dX1_dropOldest_2 : decode cX1_dropOldest 2 = .ok (.iload_n 1, 1) := by decide +kernel
theorem dX1_dropOldest_3 : decode cX1_dropOldest 3 = .ok (.aload_n 0, 1) := by decide +kernel
theorem dX1_dropOldest_4 : decode cX1_dropOldest 4 = .ok (.getfield 21, 3) := by decide +kernel
theorem dX1_dropOldest_7 : decode cX1_dropOldest 7 = .ok (.arraylength, 1) := by decide +kernel
theorem dX1_dropOldest_8 : decode cX1_dropOldest 8 = .ok (.if_icmp .ge 26, 3) := by decide +kernel
theorem dX1_dropOldest_11 : decode cX1_dropOldest 11 = .ok (.aload_n 0, 1) := by decide +kernel
theorem dX1_dropOldest_12 : decode cX1_dropOldest 12 = .ok (.getfield 21, 3) := by decide +kernel
theorem dX1_dropOldest_15 : decode cX1_dropOldest 15 = .ok (.iload_n 1, 1) := by decide +kernel
theorem dX1_dropOldest_16 : decode cX1_dropOldest 16 = .ok (.iconst 1, 1) := by decide +kernel
theorem dX1_dropOldest_17 : decode cX1_dropOldest 17 = .ok (.isub, 1) := by decide +kernel
theorem dX1_dropOldest_18 : decode cX1_dropOldest 18 = .ok (.aaload, 1) := by decide +kernel
theorem dX1_dropOldest_19 : decode cX1_dropOldest 19 = .ok (.aload_n 0, 1) := by decide +kernel
theorem dX1_dropOldest_20 : decode cX1_dropOldest 20 = .ok (.getfield 21, 3) := by decide +kernel
theorem dX1_dropOldest_23 : decode cX1_dropOldest 23 = .ok (.iload_n 1, 1) := by decide +kernel
theorem dX1_dropOldest_24 : decode cX1_dropOldest 24 = .ok (.aaload, 1) := by decide +kernel
theorem dX1_dropOldest_25 : decode cX1_dropOldest 25 = .ok (.invokevirtual 39, 3) := by decide +kernel
theorem dX1_dropOldest_28 : decode cX1_dropOldest 28 = .ok (.iinc 1 1, 3) := by decide +kernel
theorem dX1_dropOldest_31 : decode cX1_dropOldest 31 = .ok (.goto (-29), 3) := by decide +kernel
theorem dX1_dropOldest_34 : decode cX1_dropOldest 34 = .ok (.aload_n 0, 1) := by decide +kernel
theorem dX1_dropOldest_35 : decode cX1_dropOldest 35 = .ok (.aload_n 0, 1) := by decide +kernel
theorem dX1_dropOldest_36 : decode cX1_dropOldest 36 = .ok (.getfield 21, 3) := by decide +kernel
theorem dX1_dropOldest_39 : decode cX1_dropOldest 39 = .ok (.arraylength, 1) := by decide +kernel
theorem dX1_dropOldest_40 : decode cX1_dropOldest 40 = .ok (.iconst 1, 1) := by decide +kernel
theorem dX1_dropOldest_41 : decode cX1_dropOldest 41 = .ok (.isub, 1) := by decide +kernel
theorem dX1_dropOldest_42 : decode cX1_dropOldest 42 = .ok (.putfield 7, 3) := by decide +kernel
theorem dX1_dropOldest_45 : decode cX1_dropOldest 45 = .ok (.return_, 1) := by decide +kernel
theorem dX2_init_0 : decode cX2_init 0 = .ok (.aload_n 0, 1) := by decide +kernel
theorem dX2_init_1 : decode cX2_init 1 = .ok (.invokespecial 3, 3) := by decide +kernel
theorem dX2_init_4 : decode cX2_init 4 = .ok (.aload_n 0, 1) := by decide +kernel
theorem dX2_init_5 : decode cX2_init 5 = .ok (.sipush 200, 3) := by decide +kernel
theorem dX2_init_8 : decode cX2_init 8 = .ok (.newarray .char, 2) := by decide +kernel
theorem dX2_init_10 : decode cX2_init 10 = .ok (.putfield 9, 3) := by decide +kernel
theorem dX2_init_13 : decode cX2_init 13 = .ok (.aload_n 0, 1) := by decide +kernel
theorem dX2_init_14 : decode cX2_init 14 = .ok (.iconst 0, 1) := by decide +kernel
theorem dX2_init_15 : decode cX2_init 15 = .ok (.putfield 15, 3) := by decide +kernel
theorem dX2_init_18 : decode cX2_init 18 = .ok (.aload_n 0, 1) := by decide +kernel
theorem dX2_init_19 : decode cX2_init 19 = .ok (.iconst 0, 1) := by decide +kernel
theorem dX2_init_20 : decode cX2_init 20 = .ok (.putfield 19, 3) := by decide +kernel
theorem dX2_init_23 : decode cX2_init 23 = .ok (.aload_n 0, 1) := by decide +kernel
theorem dX2_init_24 : decode cX2_init 24 = .ok (.iconst 0, 1) := by decide +kernel
theorem dX2_init_25 : decode cX2_init 25 = .ok (.putfield 22, 3) := by decide +kernel
theorem dX2_init_28 : decode cX2_init 28 = .ok (.aload_n 0, 1) := by decide +kernel
theorem dX2_init_29 : decode cX2_init 29 = .ok (.iconst 0, 1) := by decide +kernel
theorem dX2_init_30 : decode cX2_init 30 = .ok (.putfield 25, 3) := by decide +kernel
theorem dX2_init_33 : decode cX2_init 33 = .ok (.aload_n 0, 1) := by decide +kernel
theorem dX2_init_34 : decode cX2_init 34 = .ok (.new 28, 3) := by decide +kernel
theorem dX2_init_37 : decode cX2_init 37 = .ok (.dup, 1) := by decide +kernel
theorem dX2_init_38 : decode cX2_init 38 = .ok (.invokespecial 30, 3) := by decide +kernel
theorem dX2_init_41 : decode cX2_init 41 = .ok (.putfield 31, 3) := by decide +kernel
theorem dX2_init_44 : decode cX2_init 44 = .ok (.aload_n 0, 1) := by decide +kernel
theorem dX2_init_45 : decode cX2_init 45 = .ok (.iconst 0, 1) := by decide +kernel
theorem dX2_init_46 : decode cX2_init 46 = .ok (.putfield 35, 3) := by decide +kernel
theorem dX2_init_49 : decode cX2_init 49 = .ok (.return_, 1) := by decide +kernel
theorem dX2_size_0 : decode cX2_size 0 = .ok (.aload_n 0, 1) := by decide +kernel
theorem dX2_size_1 : decode cX2_size 1 = .ok (.getfield 15, 3) := by decide +kernel
theorem dX2_size_4 : decode cX2_size 4 = .ok (.ireturn, 1) := by decide +kernel
theorem dX2_clear_0 : decode cX2_clear 0 = .ok (.aload_n 0, 1) := by decide +kernel
theorem dX2_clear_1 : decode cX2_clear 1 = .ok (.iconst 0, 1) := by decide +kernel
theorem dX2_clear_2 : decode cX2_clear 2 = .ok (.putfield 15, 3) := by decide +kernel
theorem dX2_clear_5 : decode cX2_clear 5 = .ok (.return_, 1) := by decide +kernel
theorem dX2_append_0 : decode cX2_append 0 = .ok (.aload_n 0, 1) := by decide +kernel
theorem dX2_append_1 : decode cX2_append 1 = .ok (.getfield 15, 3) := by decide +kernel
theorem dX2_append_4 : decode cX2_append 4 = .ok (.iconst 0, 1) := by decide +kernel
theorem dX2_append_5 : decode cX2_append 5 = .ok (.sipush 199, 3) := by decide +kernel
theorem dX2_append_8 : decode cX2_append 8 = .ok (.invokestatic 38, 3) := by decide +kernel
theorem dX2_append_11 : decode cX2_append 11 = .ok (.ifCond .ne 5, 3) := by decide +kernel
theorem dX2_append_14 : decode cX2_append 14 = .ok (.iconst 0, 1) := by decide +kernel
theorem dX2_append_15 : decode cX2_append 15 = .ok (.ireturn, 1) := by decide +kernel
theorem dX2_append_16 : decode cX2_append 16 = .ok (.aload_n 0, 1) := by decide +kernel
theorem dX2_append_17 : decode cX2_append 17 = .ok (.getfield 9, 3) := by decide +kernel
theorem dX2_append_20 : decode cX2_append 20 = .ok (.aload_n 0, 1) := by decide +kernel
theorem dX2_append_21 : decode cX2_append 21 = .ok (.getfield 15, 3) := by decide +kernel
theorem dX2_append_24 : decode cX2_append 24 = .ok (.iload_n 1, 1) := by decide +kernel
theorem dX2_append_25 : decode cX2_append 25 = .ok (.castore, 1) := by decide +kernel
theorem dX2_append_26 : decode cX2_append 26 = .ok (.aload_n 0, 1) := by decide +kernel
theorem dX2_append_27 : decode cX2_append 27 = .ok (.dup, 1) := by decide +kernel
theorem dX2_append_28 : decode cX2_append 28 = .ok (.getfield 15, 3) := by decide +kernel
theorem dX2_append_31 : decode cX2_append 31 = .ok (.iconst 1, 1) := by decide +kernel
theorem dX2_append_32 : decode cX2_append 32 = .ok (.iadd, 1) := by decide +kernel
theorem dX2_append_33 : decode cX2_append 33 = .ok (.putfield 15, 3) := by decide +kernel
theorem dX2_append_36 : decode cX2_append 36 = .ok (.iconst 1, 1) := by decide +kernel
theorem dX2_append_37 : decode cX2_append 37 = .ok (.ireturn, 1) := by decide +kernel
theorem dX2_firstFault_0 : decode cX2_firstFault 0 = .ok (.aload_n 0, 1) := by decide +kernel
theorem dX2_firstFault_1 : decode cX2_firstFault 1 = .ok (.getfield 31, 3) := by decide +kernel
theorem dX2_firstFault_4 : decode cX2_firstFault 4 = .ok (.bipush 10, 2) := by decide +kernel
theorem dX2_firstFault_6 : decode cX2_firstFault 6 = .ok (.bipush 10, 2) := by decide +kernel
theorem dX2_firstFault_8 : decode cX2_firstFault 8 = .ok (.invokevirtual 42, 3) := by decide +kernel
theorem dX2_firstFault_11 : decode cX2_firstFault 11 = .ok (.aload_n 0, 1) := by decide +kernel
theorem dX2_firstFault_12 : decode cX2_firstFault 12 = .ok (.getfield 31, 3) := by decide +kernel
theorem dX2_firstFault_15 : decode cX2_firstFault 15 = .ok (.iconst 0, 1) := by decide +kernel
theorem dX2_firstFault_16 : decode cX2_firstFault 16 = .ok (.iconst 2, 1) := by decide +kernel
theorem dX2_firstFault_17 : decode cX2_firstFault 17 = .ok (.invokevirtual 46, 3) := by decide +kernel
theorem dX2_firstFault_20 : decode cX2_firstFault 20 = .ok (.aload_n 0, 1) := by decide +kernel
theorem dX2_firstFault_21 : decode cX2_firstFault 21 = .ok (.getfield 31, 3) := by decide +kernel
theorem dX2_firstFault_24 : decode cX2_firstFault 24 = .ok (.iconst 2, 1) := by decide +kernel
theorem dX2_firstFault_25 : decode cX2_firstFault 25 = .ok (.putfield 49, 3) := by decide +kernel
theorem dX2_firstFault_28 : decode cX2_firstFault 28 = .ok (.aload_n 0, 1) := by decide +kernel
theorem dX2_firstFault_29 : decode cX2_firstFault 29 = .ok (.iconst 3, 1) := by decide +kernel
theorem dX2_firstFault_30 : decode cX2_firstFault 30 = .ok (.putfield 35, 3) := by decide +kernel
theorem dX2_firstFault_33 : decode cX2_firstFault 33 = .ok (.aload_n 0, 1) := by decide +kernel
theorem dX2_firstFault_34 : decode cX2_firstFault 34 = .ok (.iconst 0, 1) := by decide +kernel
theorem dX2_firstFault_35 : decode cX2_firstFault 35 = .ok (.putfield 19, 3) := by decide +kernel
theorem dX2_firstFault_38 : decode cX2_firstFault 38 = .ok (.iconst 0, 1) := by decide +kernel
theorem dX2_firstFault_39 : decode cX2_firstFault 39 = .ok (.istore_n 1, 1) := by decide +kernel
theorem dX2_firstFault_40 : decode cX2_firstFault 40 = .ok (.iload_n 1, 1) := by decide +kernel
theorem dX2_firstFault_41 : decode cX2_firstFault 41 = .ok (.sipush 200, 3) := by decide +kernel
theorem dX2_firstFault_44 : decode cX2_firstFault 44 = .ok (.if_icmp .ge 34, 3) := by decide +kernel
theorem dX2_firstFault_47 : decode cX2_firstFault 47 = .ok (.aload_n 0, 1) := by decide +kernel
theorem dX2_firstFault_48 : decode cX2_firstFault 48 = .ok (.getfield 19, 3) := by decide +kernel
theorem dX2_firstFault_51 : decode cX2_firstFault 51 = .ok (.aload_n 0, 1) := by decide +kernel
theorem dX2_firstFault_52 : decode cX2_firstFault 52 = .ok (.getfield 15, 3) := by decide +kernel
theorem dX2_firstFault_55 : decode cX2_firstFault 55 = .ok (.if_icmp .ge 23, 3) := by decide +kernel
theorem dX2_firstFault_58 : decode cX2_firstFault 58 = .ok (.aload_n 0, 1) := by decide +kernel
theorem dX2_firstFault_59 : decode cX2_firstFault 59 = .ok (.getfield 19, 3) := by decide +kernel
theorem dX2_firstFault_62 : decode cX2_firstFault 62 = .ok (.istore_n 2, 1) := by decide +kernel
theorem dX2_firstFault_63 : decode cX2_firstFault 63 = .ok (.aload_n 0, 1) := by decide +kernel
theorem dX2_firstFault_64 : decode cX2_firstFault 64 = .ok (.invokevirtual 52, 3) := by decide +kernel
theorem dX2_firstFault_67 : decode cX2_firstFault 67 = .ok (.ifCond .ne 5, 3) := by decide +kernel
theorem dX2_firstFault_70 : decode cX2_firstFault 70 = .ok (.iload_n 2, 1) := by decide +kernel
theorem dX2_firstFault_71 : decode cX2_firstFault 71 = .ok (.ireturn, 1) := by decide +kernel
theorem dX2_firstFault_72 : decode cX2_firstFault 72 = .ok (.iinc 1 1, 3) := by decide +kernel
theorem dX2_firstFault_75 : decode cX2_firstFault 75 = .ok (.goto (-35), 3) := by decide +kernel
theorem dX2_firstFault_78 : decode cX2_firstFault 78 = .ok (.bipush (-4), 2) := by decide +kernel
theorem dX2_firstFault_80 : decode cX2_firstFault 80 = .ok (.ireturn, 1) := by decide +kernel
theorem dX2_readItem_0 : decode cX2_readItem 0 = .ok (.aload_n 0, 1) := by decide +kernel
theorem dX2_readItem_1 : decode cX2_readItem 1 = .ok (.invokevirtual 56, 3) := by decide +kernel
theorem dX2_readItem_4 : decode cX2_readItem 4 = .ok (.istore_n 1, 1) := by decide +kernel
theorem dX2_readItem_5 : decode cX2_readItem 5 = .ok (.aload_n 0, 1) := by decide +kernel
theorem dX2_readItem_6 : decode cX2_readItem 6 = .ok (.dup, 1) := by decide +kernel
theorem dX2_readItem_7 : decode cX2_readItem 7 = .ok (.getfield 19, 3) := by decide +kernel
theorem dX2_readItem_10 : decode cX2_readItem 10 = .ok (.iconst 1, 1) := by decide +kernel
theorem dX2_readItem_11 : decode cX2_readItem 11 = .ok (.iadd, 1) := by decide +kernel
theorem dX2_readItem_12 : decode cX2_readItem 12 = .ok (.putfield 19, 3) := by decide +kernel
theorem dX2_readItem_15 : decode cX2_readItem 15 = .ok (.iload_n 1, 1) := by decide +kernel
theorem dX2_readItem_16 : decode cX2_readItem 16 = .ok (.lookupswitch 124 #[(98, 44), (101, 104), (104, 64), (108, 84)], 44) := by decide +kernel
theorem dX2_readItem_60 : decode cX2_readItem 60 = .ok (.aload_n 0, 1) := by decide +kernel
theorem dX2_readItem_61 : decode cX2_readItem 61 = .ok (.invokevirtual 60, 3) := by decide +kernel
theorem dX2_readItem_64 : decode cX2_readItem 64 = .ok (.ifCond .eq 14, 3) := by decide +kernel
theorem dX2_readItem_67 : decode cX2_readItem 67 = .ok (.aload_n 0, 1) := by decide +kernel
theorem dX2_readItem_68 : decode cX2_readItem 68 = .ok (.invokevirtual 63, 3) := by decide +kernel
theorem dX2_readItem_71 : decode cX2_readItem 71 = .ok (.ifCond .eq 7, 3) := by decide +kernel
theorem dX2_readItem_74 : decode cX2_readItem 74 = .ok (.iconst 1, 1) := by decide +kernel
theorem dX2_readItem_75 : decode cX2_readItem 75 = .ok (.goto 4, 3) := by decide +kernel
theorem dX2_readItem_78 : decode cX2_readItem 78 = .ok (.iconst 0, 1) := by decide +kernel
theorem dX2_readItem_79 : decode cX2_readItem 79 = .ok (.ireturn, 1) := by decide +kernel
theorem dX2_readItem_80 : decode cX2_readItem 80 = .ok (.aload_n 0, 1) := by decide +kernel
theorem dX2_readItem_81 : decode cX2_readItem 81 = .ok (.invokevirtual 60, 3) := by decide +kernel
theorem dX2_readItem_84 : decode cX2_readItem 84 = .ok (.ifCond .eq 14, 3) := by decide +kernel
theorem dX2_readItem_87 : decode cX2_readItem 87 = .ok (.aload_n 0, 1) := by decide +kernel
theorem dX2_readItem_88 : decode cX2_readItem 88 = .ok (.invokevirtual 66, 3) := by decide +kernel
theorem dX2_readItem_91 : decode cX2_readItem 91 = .ok (.ifCond .eq 7, 3) := by decide +kernel
theorem dX2_readItem_94 : decode cX2_readItem 94 = .ok (.iconst 1, 1) := by decide +kernel
theorem dX2_readItem_95 : decode cX2_readItem 95 = .ok (.goto 4, 3) := by decide +kernel
theorem dX2_readItem_98 : decode cX2_readItem 98 = .ok (.iconst 0, 1) := by decide +kernel
theorem dX2_readItem_99 : decode cX2_readItem 99 = .ok (.ireturn, 1) := by decide +kernel
theorem dX2_readItem_100 : decode cX2_readItem 100 = .ok (.aload_n 0, 1) := by decide +kernel
theorem dX2_readItem_101 : decode cX2_readItem 101 = .ok (.invokevirtual 69, 3) := by decide +kernel
theorem dX2_readItem_104 : decode cX2_readItem 104 = .ok (.ifCond .eq 14, 3) := by decide +kernel
theorem dX2_readItem_107 : decode cX2_readItem 107 = .ok (.aload_n 0, 1) := by decide +kernel
theorem dX2_readItem_108 : decode cX2_readItem 108 = .ok (.invokevirtual 72, 3) := by decide +kernel
theorem dX2_readItem_111 : decode cX2_readItem 111 = .ok (.ifCond .eq 7, 3) := by decide +kernel
theorem dX2_readItem_114 : decode cX2_readItem 114 = .ok (.iconst 1, 1) := by decide +kernel
theorem dX2_readItem_115 : decode cX2_readItem 115 = .ok (.goto 4, 3) := by decide +kernel
theorem dX2_readItem_118 : decode cX2_readItem 118 = .ok (.iconst 0, 1) := by decide +kernel
theorem dX2_readItem_119 : decode cX2_readItem 119 = .ok (.ireturn, 1) := by decide +kernel
theorem dX2_readItem_120 : decode cX2_readItem 120 = .ok (.aload_n 0, 1) := by decide +kernel
theorem dX2_readItem_121 : decode cX2_readItem 121 = .ok (.invokevirtual 69, 3) := by decide +kernel
theorem dX2_readItem_124 : decode cX2_readItem 124 = .ok (.ifCond .eq 14, 3) := by decide +kernel
theorem dX2_readItem_127 : decode cX2_readItem 127 = .ok (.aload_n 0, 1) := by decide +kernel
theorem dX2_readItem_128 : decode cX2_readItem 128 = .ok (.invokevirtual 75, 3) := by decide +kernel
theorem dX2_readItem_131 : decode cX2_readItem 131 = .ok (.ifCond .eq 7, 3) := by decide +kernel
theorem dX2_readItem_134 : decode cX2_readItem 134 = .ok (.iconst 1, 1) := by decide +kernel
theorem dX2_readItem_135 : decode cX2_readItem 135 = .ok (.goto 4, 3) := by decide +kernel
theorem dX2_readItem_138 : decode cX2_readItem 138 = .ok (.iconst 0, 1) := by decide +kernel
theorem dX2_readItem_139 : decode cX2_readItem 139 = .ok (.ireturn, 1) := by decide +kernel
theorem dX2_readItem_140 : decode cX2_readItem 140 = .ok (.iconst 0, 1) := by decide +kernel
theorem dX2_readItem_141 : decode cX2_readItem 141 = .ok (.ireturn, 1) := by decide +kernel
theorem dX2_tellBoxes_0 : decode cX2_tellBoxes 0 = .ok (.aload_n 0, 1) := by decide +kernel
theorem dX2_tellBoxes_1 : decode cX2_tellBoxes 1 = .ok (.getfield 31, 3) := by decide +kernel
theorem dX2_tellBoxes_4 : decode cX2_tellBoxes 4 = .ok (.aload_n 0, 1) := by decide +kernel
theorem dX2_tellBoxes_5 : decode cX2_tellBoxes 5 = .ok (.getfield 22, 3) := by decide +kernel
theorem dX2_tellBoxes_8 : decode cX2_tellBoxes 8 = .ok (.aload_n 0, 1) := by decide +kernel
theorem dX2_tellBoxes_9 : decode cX2_tellBoxes 9 = .ok (.getfield 25, 3) := by decide +kernel
theorem dX2_tellBoxes_12 : decode cX2_tellBoxes 12 = .ok (.invokevirtual 42, 3) := by decide +kernel
theorem dX2_tellBoxes_15 : decode cX2_tellBoxes 15 = .ok (.aload_n 0, 1) := by decide +kernel
theorem dX2_tellBoxes_16 : decode cX2_tellBoxes 16 = .ok (.getfield 22, 3) := by decide +kernel
theorem dX2_tellBoxes_19 : decode cX2_tellBoxes 19 = .ok (.iconst 0, 1) := by decide +kernel
theorem dX2_tellBoxes_20 : decode cX2_tellBoxes 20 = .ok (.bipush 10, 2) := by decide +kernel
theorem dX2_tellBoxes_22 : decode cX2_tellBoxes 22 = .ok (.invokestatic 38, 3) := by decide +kernel
theorem dX2_tellBoxes_25 : decode cX2_tellBoxes 25 = .ok (.ifCond .eq 20, 3) := by decide +kernel
theorem dX2_tellBoxes_28 : decode cX2_tellBoxes 28 = .ok (.aload_n 0, 1) := by decide +kernel
theorem dX2_tellBoxes_29 : decode cX2_tellBoxes 29 = .ok (.getfield 25, 3) := by decide +kernel
theorem dX2_tellBoxes_32 : decode cX2_tellBoxes 32 = .ok (.iconst 0, 1) := by decide +kernel
theorem dX2_tellBoxes_33 : decode cX2_tellBoxes 33 = .ok (.bipush 10, 2) := by decide +kernel
theorem dX2_tellBoxes_35 : decode cX2_tellBoxes 35 = .ok (.invokestatic 38, 3) := by decide +kernel
theorem dX2_tellBoxes_38 : decode cX2_tellBoxes 38 = .ok (.ifCond .eq 7, 3) := by decide +kernel
theorem dX2_tellBoxes_41 : decode cX2_tellBoxes 41 = .ok (.iconst 1, 1) := by decide +kernel
theorem dX2_tellBoxes_42 : decode cX2_tellBoxes 42 = .ok (.goto 4, 3) := by decide +kernel
theorem dX2_tellBoxes_45 : decode cX2_tellBoxes 45 = .ok (.iconst 0, 1) := by decide +kernel
theorem dX2_tellBoxes_46 : decode cX2_tellBoxes 46 = .ok (.ireturn, 1) := by decide +kernel
theorem dX2_tellHand_0 : decode cX2_tellHand 0 = .ok (.aload_n 0, 1) := by decide +kernel
theorem dX2_tellHand_1 : decode cX2_tellHand 1 = .ok (.getfield 31, 3) := by decide +kernel
theorem dX2_tellHand_4 : decode cX2_tellHand 4 = .ok (.aload_n 0, 1) := by decide +kernel
theorem dX2_tellHand_5 : decode cX2_tellHand 5 = .ok (.getfield 22, 3) := by decide +kernel
theorem dX2_tellHand_8 : decode cX2_tellHand 8 = .ok (.aload_n 0, 1) := by decide +kernel
theorem dX2_tellHand_9 : decode cX2_tellHand 9 = .ok (.getfield 25, 3) := by decide +kernel
theorem dX2_tellHand_12 : decode cX2_tellHand 12 = .ok (.invokevirtual 46, 3) := by decide +kernel
theorem dX2_tellHand_15 : decode cX2_tellHand 15 = .ok (.aload_n 0, 1) := by decide +kernel
theorem dX2_tellHand_16 : decode cX2_tellHand 16 = .ok (.getfield 22, 3) := by decide +kernel
theorem dX2_tellHand_19 : decode cX2_tellHand 19 = .ok (.aload_n 0, 1) := by decide +kernel
theorem dX2_tellHand_20 : decode cX2_tellHand 20 = .ok (.getfield 25, 3) := by decide +kernel
theorem dX2_tellHand_23 : decode cX2_tellHand 23 = .ok (.invokestatic 78, 3) := by decide +kernel
theorem dX2_tellHand_26 : decode cX2_tellHand 26 = .ok (.ireturn, 1) := by decide +kernel
theorem dX2_tellLast_0 : decode cX2_tellLast 0 = .ok (.aload_n 0, 1) := by decide +kernel
theorem dX2_tellLast_1 : decode cX2_tellLast 1 = .ok (.getfield 31, 3) := by decide +kernel
theorem dX2_tellLast_4 : decode cX2_tellLast 4 = .ok (.aload_n 0, 1) := by decide +kernel
theorem dX2_tellLast_5 : decode cX2_tellLast 5 = .ok (.getfield 22, 3) := by decide +kernel
theorem dX2_tellLast_8 : decode cX2_tellLast 8 = .ok (.putfield 49, 3) := by decide +kernel
theorem dX2_tellLast_11 : decode cX2_tellLast 11 = .ok (.aload_n 0, 1) := by decide +kernel
theorem dX2_tellLast_12 : decode cX2_tellLast 12 = .ok (.getfield 22, 3) := by decide +kernel
theorem dX2_tellLast_15 : decode cX2_tellLast 15 = .ok (.invokestatic 82, 3) := by decide +kernel
theorem dX2_tellLast_18 : decode cX2_tellLast 18 = .ok (.ireturn, 1) := by decide +kernel
theorem dX2_tellEvening_0 : decode cX2_tellEvening 0 = .ok (.aload_n 0, 1) := by decide +kernel
theorem dX2_tellEvening_1 : decode cX2_tellEvening 1 = .ok (.aload_n 0, 1) := by decide +kernel
theorem dX2_tellEvening_2 : decode cX2_tellEvening 2 = .ok (.getfield 22, 3) := by decide +kernel
theorem dX2_tellEvening_5 : decode cX2_tellEvening 5 = .ok (.putfield 35, 3) := by decide +kernel
theorem dX2_tellEvening_8 : decode cX2_tellEvening 8 = .ok (.aload_n 0, 1) := by decide +kernel
theorem dX2_tellEvening_9 : decode cX2_tellEvening 9 = .ok (.getfield 22, 3) := by decide +kernel
theorem dX2_tellEvening_12 : decode cX2_tellEvening 12 = .ok (.iconst 1, 1) := by decide +kernel
theorem dX2_tellEvening_13 : decode cX2_tellEvening 13 = .ok (.bipush 9, 2) := by decide +kernel
theorem dX2_tellEvening_15 : decode cX2_tellEvening 15 = .ok (.invokestatic 38, 3) := by decide +kernel
theorem dX2_tellEvening_18 : decode cX2_tellEvening 18 = .ok (.ireturn, 1) := by decide +kernel
theorem dX2_readOne_0 : decode cX2_readOne 0 = .ok (.aload_n 0, 1) := by decide +kernel
theorem dX2_readOne_1 : decode cX2_readOne 1 = .ok (.aload_n 0, 1) := by decide +kernel
theorem dX2_readOne_2 : decode cX2_readOne 2 = .ok (.invokevirtual 86, 3) := by decide +kernel
theorem dX2_readOne_5 : decode cX2_readOne 5 = .ok (.putfield 22, 3) := by decide +kernel
theorem dX2_readOne_8 : decode cX2_readOne 8 = .ok (.aload_n 0, 1) := by decide +kernel
theorem dX2_readOne_9 : decode cX2_readOne 9 = .ok (.getfield 22, 3) := by decide +kernel
theorem dX2_readOne_12 : decode cX2_readOne 12 = .ok (.ifCond .lt 16, 3) := by decide +kernel
theorem dX2_readOne_15 : decode cX2_readOne 15 = .ok (.aload_n 0, 1) := by decide +kernel
theorem dX2_readOne_16 : decode cX2_readOne 16 = .ok (.bipush 59, 2) := by decide +kernel
theorem dX2_readOne_18 : decode cX2_readOne 18 = .ok (.invokevirtual 90, 3) := by decide +kernel
theorem dX2_readOne_21 : decode cX2_readOne 21 = .ok (.ifCond .eq 7, 3) := by decide +kernel
theorem dX2_readOne_24 : decode cX2_readOne 24 = .ok (.iconst 1, 1) := by decide +kernel
theorem dX2_readOne_25 : decode cX2_readOne 25 = .ok (.goto 4, 3) := by decide +kernel
theorem dX2_readOne_28 : decode cX2_readOne 28 = .ok (.iconst 0, 1) := by decide +kernel
theorem dX2_readOne_29 : decode cX2_readOne 29 = .ok (.ireturn, 1) := by decide +kernel
theorem dX2_readTwo_0 : decode cX2_readTwo 0 = .ok (.aload_n 0, 1) := by decide +kernel
theorem dX2_readTwo_1 : decode cX2_readTwo 1 = .ok (.aload_n 0, 1) := by decide +kernel
theorem dX2_readTwo_2 : decode cX2_readTwo 2 = .ok (.invokevirtual 86, 3) := by decide +kernel
theorem dX2_readTwo_5 : decode cX2_readTwo 5 = .ok (.putfield 22, 3) := by decide +kernel
theorem dX2_readTwo_8 : decode cX2_readTwo 8 = .ok (.aload_n 0, 1) := by decide +kernel
theorem dX2_readTwo_9 : decode cX2_readTwo 9 = .ok (.getfield 22, 3) := by decide +kernel
theorem dX2_readTwo_12 : decode cX2_readTwo 12 = .ok (.ifCond .lt 12, 3) := by decide +kernel
theorem dX2_readTwo_15 : decode cX2_readTwo 15 = .ok (.aload_n 0, 1) := by decide +kernel
theorem dX2_readTwo_16 : decode cX2_readTwo 16 = .ok (.bipush 44, 2) := by decide +kernel
theorem dX2_readTwo_18 : decode cX2_readTwo 18 = .ok (.invokevirtual 90, 3) := by decide +kernel
theorem dX2_readTwo_21 : decode cX2_readTwo 21 = .ok (.ifCond .ne 5, 3) := by decide +kernel
theorem dX2_readTwo_24 : decode cX2_readTwo 24 = .ok (.iconst 0, 1) := by decide +kernel
theorem dX2_readTwo_25 : decode cX2_readTwo 25 = .ok (.ireturn, 1) := by decide +kernel
theorem dX2_readTwo_26 : decode cX2_readTwo 26 = .ok (.aload_n 0, 1) := by decide +kernel
theorem dX2_readTwo_27 : decode cX2_readTwo 27 = .ok (.aload_n 0, 1) := by decide +kernel
theorem dX2_readTwo_28 : decode cX2_readTwo 28 = .ok (.invokevirtual 86, 3) := by decide +kernel
theorem dX2_readTwo_31 : decode cX2_readTwo 31 = .ok (.putfield 25, 3) := by decide +kernel
theorem dX2_readTwo_34 : decode cX2_readTwo 34 = .ok (.aload_n 0, 1) := by decide +kernel
theorem dX2_readTwo_35 : decode cX2_readTwo 35 = .ok (.getfield 25, 3) := by decide +kernel
theorem dX2_readTwo_38 : decode cX2_readTwo 38 = .ok (.ifCond .lt 16, 3) := by decide +kernel
theorem dX2_readTwo_41 : decode cX2_readTwo 41 = .ok (.aload_n 0, 1) := by decide +kernel
theorem dX2_readTwo_42 : decode cX2_readTwo 42 = .ok (.bipush 59, 2) := by decide +kernel
theorem dX2_readTwo_44 : decode cX2_readTwo 44 = .ok (.invokevirtual 90, 3) := by decide +kernel
theorem dX2_readTwo_47 : decode cX2_readTwo 47 = .ok (.ifCond .eq 7, 3) := by decide +kernel
theorem dX2_readTwo_50 : decode cX2_readTwo 50 = .ok (.iconst 1, 1) := by decide +kernel
theorem dX2_readTwo_51 : decode cX2_readTwo 51 = .ok (.goto 4, 3) := by decide +kernel
theorem dX2_readTwo_54 : decode cX2_readTwo 54 = .ok (.iconst 0, 1) := by decide +kernel
theorem dX2_readTwo_55 : decode cX2_readTwo 55 = .ok (.ireturn, 1) := by decide +kernel
theorem dX2_readNumber_0 : decode cX2_readNumber 0 = .ok (.aload_n 0, 1) := by decide +kernel
theorem dX2_readNumber_1 : decode cX2_readNumber 1 = .ok (.invokevirtual 94, 3) := by decide +kernel
theorem dX2_readNumber_4 : decode cX2_readNumber 4 = .ok (.istore_n 1, 1) := by decide +kernel
theorem dX2_readNumber_5 : decode cX2_readNumber 5 = .ok (.iload_n 1, 1) := by decide +kernel
theorem dX2_readNumber_6 : decode cX2_readNumber 6 = .ok (.ifCond .ge 5, 3) := by decide +kernel
theorem dX2_readNumber_9 : decode cX2_readNumber 9 = .ok (.iconst (-1), 1) := by decide +kernel
theorem dX2_readNumber_10 : decode cX2_readNumber 10 = .ok (.ireturn, 1) := by decide +kernel
theorem dX2_readNumber_11 : decode cX2_readNumber 11 = .ok (.aload_n 0, 1) := by decide +kernel
theorem dX2_readNumber_12 : decode cX2_readNumber 12 = .ok (.invokevirtual 94, 3) := by decide +kernel
theorem dX2_readNumber_15 : decode cX2_readNumber 15 = .ok (.istore_n 2, 1) := by decide +kernel
theorem dX2_readNumber_16 : decode cX2_readNumber 16 = .ok (.iload_n 2, 1) := by decide +kernel
theorem dX2_readNumber_17 : decode cX2_readNumber 17 = .ok (.ifCond .ge 7, 3) := by decide +kernel
theorem dX2_readNumber_20 : decode cX2_readNumber 20 = .ok (.iload_n 1, 1) := by decide +kernel
theorem dX2_readNumber_21 : decode cX2_readNumber 21 = .ok (.goto 9, 3) := by decide +kernel
theorem dX2_readNumber_24 : decode cX2_readNumber 24 = .ok (.bipush 10, 2) := by decide +kernel
theorem dX2_readNumber_26 : decode cX2_readNumber 26 = .ok (.iload_n 1, 1) := by decide +kernel
theorem dX2_readNumber_27 : decode cX2_readNumber 27 = .ok (.imul, 1) := by decide +kernel
theorem dX2_readNumber_28 : decode cX2_readNumber 28 = .ok (.iload_n 2, 1) := by decide +kernel
theorem dX2_readNumber_29 : decode cX2_readNumber 29 = .ok (.iadd, 1) := by decide +kernel
theorem dX2_readNumber_30 : decode cX2_readNumber 30 = .ok (.ireturn, 1) := by decide +kernel
theorem dX2_readFigure_0 : decode cX2_readFigure 0 = .ok (.aload_n 0, 1) := by decide +kernel
theorem dX2_readFigure_1 : decode cX2_readFigure 1 = .ok (.invokevirtual 56, 3) := by decide +kernel
theorem dX2_readFigure_4 : decode cX2_readFigure 4 = .ok (.istore_n 1, 1) := by decide +kernel
theorem dX2_readFigure_5 : decode cX2_readFigure 5 = .ok (.iload_n 1, 1) := by decide +kernel
theorem dX2_readFigure_6 : decode cX2_readFigure 6 = .ok (.bipush 48, 2) := by decide +kernel
theorem dX2_readFigure_8 : decode cX2_readFigure 8 = .ok (.if_icmp .lt 9, 3) := by decide +kernel
theorem dX2_readFigure_11 : decode cX2_readFigure 11 = .ok (.iload_n 1, 1) := by decide +kernel
theorem dX2_readFigure_12 : decode cX2_readFigure 12 = .ok (.bipush 57, 2) := by decide +kernel
theorem dX2_readFigure_14 : decode cX2_readFigure 14 = .ok (.if_icmp .le 5, 3) := by decide +kernel
theorem dX2_readFigure_17 : decode cX2_readFigure 17 = .ok (.iconst (-1), 1) := by decide +kernel
theorem dX2_readFigure_18 : decode cX2_readFigure 18 = .ok (.ireturn, 1) := by decide +kernel
theorem dX2_readFigure_19 : decode cX2_readFigure 19 = .ok (.aload_n 0, 1) := by decide +kernel
theorem dX2_readFigure_20 : decode cX2_readFigure 20 = .ok (.dup, 1) := by decide +kernel
theorem dX2_readFigure_21 : decode cX2_readFigure 21 = .ok (.getfield 19, 3) := by decide +kernel
theorem dX2_readFigure_24 : decode cX2_readFigure 24 = .ok (.iconst 1, 1) := by decide +kernel
theorem dX2_readFigure_25 : decode cX2_readFigure 25 = .ok (.iadd, 1) := by decide +kernel
theorem dX2_readFigure_26 : decode cX2_readFigure 26 = .ok (.putfield 19, 3) := by decide +kernel
theorem dX2_readFigure_29 : decode cX2_readFigure 29 = .ok (.iload_n 1, 1) := by decide +kernel
theorem dX2_readFigure_30 : decode cX2_readFigure 30 = .ok (.bipush 48, 2) := by decide +kernel
theorem dX2_readFigure_32 : decode cX2_readFigure 32 = .ok (.isub, 1) := by decide +kernel
theorem dX2_readFigure_33 : decode cX2_readFigure 33 = .ok (.ireturn, 1) := by decide +kernel
theorem dX2_readSign_0 : decode cX2_readSign 0 = .ok (.aload_n 0, 1) := by decide +kernel
theorem dX2_readSign_1 : decode cX2_readSign 1 = .ok (.invokevirtual 56, 3) := by decide +kernel
theorem dX2_readSign_4 : decode cX2_readSign 4 = .ok (.iload_n 1, 1) := by decide +kernel
theorem dX2_readSign_5 : decode cX2_readSign 5 = .ok (.if_icmp .eq 5, 3) := by decide +kernel
theorem dX2_readSign_8 : decode cX2_readSign 8 = .ok (.iconst 0, 1) := by decide +kernel
theorem dX2_readSign_9 : decode cX2_readSign 9 = .ok (.ireturn, 1) := by decide +kernel
theorem dX2_readSign_10 : decode cX2_readSign 10 = .ok (.aload_n 0, 1) := by decide +kernel
theorem dX2_readSign_11 : decode cX2_readSign 11 = .ok (.dup, 1) := by decide +kernel
theorem dX2_readSign_12 : decode cX2_readSign 12 = .ok (.getfield 19, 3) := by decide +kernel
theorem dX2_readSign_15 : decode cX2_readSign 15 = .ok (.iconst 1, 1) := by decide +kernel
theorem dX2_readSign_16 : decode cX2_readSign 16 = .ok (.iadd, 1) := by decide +kernel
theorem dX2_readSign_17 : decode cX2_readSign 17 = .ok (.putfield 19, 3) := by decide +kernel
theorem dX2_readSign_20 : decode cX2_readSign 20 = .ok (.iconst 1, 1) := by decide +kernel
theorem dX2_readSign_21 : decode cX2_readSign 21 = .ok (.ireturn, 1) := by decide +kernel
theorem dX2_letterHere_0 : decode cX2_letterHere 0 = .ok (.aload_n 0, 1) := by decide +kernel
theorem dX2_letterHere_1 : decode cX2_letterHere 1 = .ok (.getfield 19, 3) := by decide +kernel
theorem dX2_letterHere_4 : decode cX2_letterHere 4 = .ok (.ifCond .lt 36, 3) := by decide +kernel
theorem dX2_letterHere_7 : decode cX2_letterHere 7 = .ok (.aload_n 0, 1) := by decide +kernel
theorem dX2_letterHere_8 : decode cX2_letterHere 8 = .ok (.getfield 19, 3) := by decide +kernel
theorem dX2_letterHere_11 : decode cX2_letterHere 11 = .ok (.aload_n 0, 1) := by decide +kernel
theorem dX2_letterHere_12 : decode cX2_letterHere 12 = .ok (.getfield 15, 3) := by decide +kernel
theorem dX2_letterHere_15 : decode cX2_letterHere 15 = .ok (.if_icmp .ge 25, 3) := by decide +kernel
theorem dX2_letterHere_18 : decode cX2_letterHere 18 = .ok (.aload_n 0, 1) := by decide +kernel
theorem dX2_letterHere_19 : decode cX2_letterHere 19 = .ok (.getfield 19, 3) := by decide +kernel
theorem dX2_letterHere_22 : decode cX2_letterHere 22 = .ok (.sipush 200, 3) := by decide +kernel
theorem dX2_letterHere_25 : decode cX2_letterHere 25 = .ok (.if_icmp .ge 15, 3) := by decide +kernel
theorem dX2_letterHere_28 : decode cX2_letterHere 28 = .ok (.aload_n 0, 1) := by decide +kernel
theorem dX2_letterHere_29 : decode cX2_letterHere 29 = .ok (.getfield 9, 3) := by decide +kernel
theorem dX2_letterHere_32 : decode cX2_letterHere 32 = .ok (.aload_n 0, 1) := by decide +kernel
theorem dX2_letterHere_33 : decode cX2_letterHere 33 = .ok (.getfield 19, 3) := by decide +kernel
theorem dX2_letterHere_36 : decode cX2_letterHere 36 = .ok (.caload, 1) := by decide +kernel
theorem dX2_letterHere_37 : decode cX2_letterHere 37 = .ok (.goto 5, 3) := by decide +kernel
theorem dX2_letterHere_40 : decode cX2_letterHere 40 = .ok (.bipush 32, 2) := by decide +kernel
theorem dX2_letterHere_42 : decode cX2_letterHere 42 = .ok (.ireturn, 1) := by decide +kernel
