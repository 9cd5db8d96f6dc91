/-! PART 27: the reference: over, coat, level -/
abbrev rm_X5_over : Room := { frames := 4, cells := 0, slots := 0, locals := 112 }
set_option maxHeartbeats 4000000 in
set_option maxRecDepth 100000 in
theorem c_X5_over (lq : Launch) (D : va_G) (t : zT) (mq mT mD mS mP mI mE mH mX mR mO ty ev kn kp sg : Nat) (at_ : Int32) (fs : Int64) (s : Nat → Nat) (f1 f2 f3 f4 : Nat → Int64) (e : Int32) (hs : sOk s) : Ct lq D t yX5_over cX5_over 10 (some .int) rm_X5_over [.ref mq, .int e] [eX5 mq mT (nI ty) mD mS (nI ev) mP (nI kn) mI (nI kp) mE (nI sg) at_ mH mX mR mO fs, eI t mS 5 (nf s), eL t mH 363 f1, eL t mX 363 f2, eL t mR 11 f3, eL t mO 22 f4] 0 0 (fun rv rw_ => ∃ (FS : Int64) (F1 : Nat → Int64) (F2 : Nat → Int64) (F3 : Nat → Int64) (F4 : Nat → Int64), rv = some (.int (an_over s (dz 0 1 e))) ∧ rw_ = [eX5 mq mT (nI ty) mD mS (nI ev) mP (nI kn) mI (nI kp) mE (nI sg) at_ mH mX mR mO FS, eI t mS 5 (nf s), eL t mH 363 F1, eL t mX 363 F2, eL t mR 11 F3, eL t mO 22 F4]) := by
  refine Ct.of (by decide) (Nat.le_of_ble_eq_true rfl) (fun k X hRet => ?_)
  have X : zX D t k cX5_over 10 RX5 "over" rm_X5_over lq := X
  refine z_eq (lv2 := [(0, .ref mq), (1, .int e)]) rfl rfl rfl ?_
  have hsk := hs
  obtain ⟨hs0, hs1, hs2, hs3, hs4⟩ := hs
  refine z_iload_n X (pc := 0) 1 dX5_over_0 rfl ?_
  refine z_iconst X (pc := 1) (nI 0) dX5_over_1 (by decide) ?_
  refine z_iconst X (pc := 2) (nI 1) dX5_over_2 (by decide) ?_
  refine zc_S (as := [.int e, .int (nI 0), .int (nI 1)]) X (pc := 3) (c_X5_in lq D t e (nI 0) (nI 1) ) tw_615 tw_617 tw_7 tw_616 [] rfl rfl dX5_over_3 rfl zdX5_in ⟨rfl, rfl, Nat.le_of_ble_eq_true rfl, Nat.le_of_ble_eq_true rfl⟩ (Nat.le_of_ble_eq_true rfl) (Nat.zero_le _) (Nat.zero_le _) (fun v_1 w_2 hp_3 => ?_)
  obtain ⟨rfl, rfl⟩ := hp_3
  refine ⟨rfl, ?_⟩
  refine z_eq (ws2 := [eX5 mq mT (nI ty) mD mS (nI ev) mP (nI kn) mI (nI kp) mE (nI sg) at_ mH mX mR mO fs, eI t mS 5 (nf s), eL t mH 363 f1, eL t mX 363 f2, eL t mR 11 f3, eL t mO 22 f4]) (st2 := [.int (zb ((nI 0) ≤ e ∧ e ≤ (nI 1)))]) rfl rfl rfl ?_
  refine z_if_neB X (pc := 6) 11 dX5_over_6 (by decide) (fun c_6 => ?_) (fun c_6 => ?_)
  · skip
    obtain ⟨wt, wt_lo, wt_hi, rfl⟩ := inR (by decide) (by decide) c_6
    refine z_iconst X (pc := 11) (nI 0) dX5_over_11 (by decide) ?_
    refine z_istore_n X (pc := 12) (i := 2) [(2, .int (nI 0)), (0, .ref mq), (1, .int (nI wt))] dX5_over_12 rfl (by decide) rfl ?_
    refine z_aload_n X (pc := 13) 1 dX5_over_13 rfl ?_
    refine z_aload_n X (pc := 14) 1 dX5_over_14 rfl ?_
    refine z_get X (pc := 15) 0 3 (.ref mS) tu_5 tw_562 dX5_over_15 rfl rfl (by decide) rfl rfl ?_
    refine z_iconst X (pc := 18) (nI 0) dX5_over_18 (by decide) ?_
    refine z_iald X (pc := 19) 1 0 (nI (s 0)) dX5_over_19 rfl rfl (Nat.le_of_ble_eq_true rfl) (by decide) rfl ?_
    refine z_aload_n X (pc := 20) 1 dX5_over_20 rfl ?_
    refine z_get X (pc := 21) 0 3 (.ref mS) tu_5 tw_562 dX5_over_21 rfl rfl (by decide) rfl rfl ?_
    refine z_iconst X (pc := 24) (nI 1) dX5_over_24 (by decide) ?_
    refine z_iald X (pc := 25) 1 1 (nI (s 1)) dX5_over_25 rfl rfl (Nat.le_of_ble_eq_true rfl) (by decide) rfl ?_
    refine zc_V (as := [.int (nI (s 0)), .int (nI (s 1))]) X (pc := 26) (c_X5_reachesFrom lq D t mq mT mD mS mP mI mE mH mX mR mO ty ev kn kp sg at_ fs s f1 f2 f3 f4 (s 0) (s 1) hsk (by omega) (by omega)) tw_757 tw_760 tw_7 tw_759 tw_1037 0 5 rfl rfl [0, 1, 2, 3, 4, 5] rfl rfl dX5_over_26 rfl zdX5_reachesFrom ⟨rfl, rfl, Nat.le_of_ble_eq_true rfl, Nat.le_of_ble_eq_true rfl⟩ (Nat.le_of_ble_eq_true rfl) (Nat.zero_le _) (Nat.zero_le _) (fun v_4 w_5 hp_6 => ?_)
    obtain ⟨FS_7, F1_8, F2_9, F3_10, F4_11, rfl, rfl⟩ := hp_6
    refine ⟨rfl, ?_⟩
    refine z_eq (ws2 := [eX5 mq mT (nI ty) mD mS (nI ev) mP (nI kn) mI (nI kp) mE (nI sg) at_ mH mX mR mO FS_7, eI t mS 5 (nf s), eL t mH 363 F1_8, eL t mX 363 F2_9, eL t mR 11 F3_10, eL t mO 22 F4_11]) (st2 := [.long (lN (rch (s 3) (s 4) 0 (s 0) (s 1) (s 2)))]) rfl rfl rfl ?_
    refine z_lstore_n X (pc := 29) (i := 3) [(3, .long (lN (rch (s 3) (s 4) 0 (s 0) (s 1) (s 2)))), (2, .int (nI 0)), (0, .ref mq), (1, .int (nI wt))] dX5_over_29 rfl (by decide) rfl ?_
    refine z_iconst X (pc := 30) (nI 1) dX5_over_30 (by decide) ?_
    refine z_istore X (pc := 31) (i := 5) [(5, .int (nI 1)), (3, .long (lN (rch (s 3) (s 4) 0 (s 0) (s 1) (s 2)))), (2, .int (nI 0)), (0, .ref mq), (1, .int (nI wt))] dX5_over_31 trivial (by decide) rfl ?_
    have loop_33 : ∀ (fuel_33 : Nat) (k_ : Nat) (bs : Int32) (mo : Nat) (fs : Int64) (f1 : Nat → Int64) (f2 : Nat → Int64) (f3 : Nat → Int64) (f4 : Nat → Int64), 11 < k_ + fuel_33 → (1 ≤ k_ ∧ k_ ≤ 11) → ((bs, mo) = ov s (k_ - 1)) → Z D k (0, 0) [eX5 mq mT (nI ty) mD mS (nI ev) mP (nI kn) mI (nI kp) mE (nI sg) at_ mH mX mR mO fs, eI t mS 5 (nf s), eL t mH 363 f1, eL t mX 363 f2, eL t mR 11 f3, eL t mO 22 f4] 33 [(0, .ref mq), (1, .int (nI wt)), (2, .int bs), (3, .long (lN mo)), (5, .int (nI k_))] [] := by
      intro fuel_33
      induction fuel_33 with
      | zero =>
        intro k_ bs mo fs f1 f2 f3 f4 hfuel_33 hk hov
        exfalso; omega
      | succ fuel_33 ih_33 =>
        intro k_ bs mo fs f1 f2 f3 f4 hfuel_33 hk hov
        have hmo : mo < 2 ^ 50 := by have h9 := ov_lt s (k_ - 1); rw [← hov] at h9; exact h9
        refine z_iload X (pc := 33) 4 dX5_over_33 rfl ?_
        refine z_bipush X (pc := 35) (nI 10) dX5_over_35 (by decide) ?_
        refine z_icmp_gtN X (pc := 37) 164 (by omega) (by omega) dX5_over_37 (by decide) (fun c_37 => ?_) (fun c_37 => ?_)
        · skip
          refine z_iload_n X (pc := 164) 1 dX5_over_164 rfl ?_
          refine z_if_neN X (pc := 165) 175 (by omega) dX5_over_165 (by decide) (fun c_165 => ?_) (fun c_165 => ?_)
          · skip
            refine z_ldc2 X (pc := 175) (100) dX5_over_175 tw_728 ?_
            refine z_topl (lN 100) rfl ?_
            refine z_lload_n X (pc := 178) 3 dX5_over_178 rfl ?_
            refine z_lmul X (pc := 179) (v := (lN (100 * mo))) dX5_over_179 (lN_mul _ _) ?_
            refine z_ldc2 X (pc := 180) (4398046511104) dX5_over_180 tw_707 ?_
            refine z_topl (lN 4398046511104) rfl ?_
            refine z_ldiv X (pc := 183) (v := (lN ((100 * mo) / 4398046511104))) dX5_over_183 (by decide) (pk_lDiv (by omega) (by omega) (by omega)) ?_
            refine z_l2i X (pc := 184) (v := (nI ((100 * mo) / 4398046511104))) dX5_over_184 (lN_i _) ?_
            exact hRet.i dX5_over_185 ⟨fs, f1, f2, f3, f4, by have h9 : ov s 10 = (bs, mo) := (by rw [hov, show k_ - 1 = 10 by omega]); rw [dz_ok (j := wt) (a := 0) (b := 1) (by decide) wt_lo wt_hi, Nat.mul_comm]; simp only [an_over, h9, if_neg c_165], rfl⟩
          · skip
            refine z_iload_n X (pc := 168) 2 dX5_over_168 rfl ?_
            refine z_bipush X (pc := 169) (nI 10) dX5_over_169 (by decide) ?_
            refine z_iadd X (pc := 171) (v := (bs + (nI 10))) dX5_over_171 rfl ?_
            refine z_goto X (pc := 172) 185 dX5_over_172 (by decide) ?_
            exact hRet.i dX5_over_185 ⟨fs, f1, f2, f3, f4, by have h9 : ov s 10 = (bs, mo) := (by rw [hov, show k_ - 1 = 10 by omega]); rw [dz_ok (j := wt) (a := 0) (b := 1) (by decide) wt_lo wt_hi]; simp only [an_over, h9, if_pos c_165], rfl⟩
        · skip
          refine z_iconst X (pc := 40) (nI 0) dX5_over_40 (by decide) ?_
          refine z_istore X (pc := 41) (i := 6) [(6, .int (nI 0)), (0, .ref mq), (1, .int (nI wt)), (2, .int bs), (3, .long (lN mo)), (5, .int (nI k_))] dX5_over_41 trivial (by decide) rfl ?_
          refine z_iload X (pc := 43) 0 dX5_over_43 rfl ?_
          refine z_iconst X (pc := 45) (nI 2) dX5_over_45 (by decide) ?_
          refine z_icmp_geN X (pc := 46) 158 (by omega) (by omega) dX5_over_46 (by decide) (fun c_46 => absurd c_46 (by decide)) (fun c_46 => ?_)
          by_cases hcaA : k_ ≤ s 0 ∧ s 1 + k_ ≤ 10
          · skip
            refine z_iload X (pc := 49) 0 dX5_over_49 rfl ?_
            refine z_if_neN X (pc := 51) 59 (by omega) dX5_over_51 (by decide) (fun c_51 => absurd c_51 (by decide)) (fun c_51 => ?_)
            refine z_iload X (pc := 54) 5 dX5_over_54 rfl ?_
            refine z_goto X (pc := 56) 62 dX5_over_56 (by decide) ?_
            refine z_istore X (pc := 62) (i := 7) [(7, .int (nI k_)), (6, .int (nI 0)), (0, .ref mq), (1, .int (nI wt)), (2, .int bs), (3, .long (lN mo)), (5, .int (nI k_))] dX5_over_62 trivial (by decide) rfl ?_
            refine z_aload_n X (pc := 64) 2 dX5_over_64 rfl ?_
            refine z_get X (pc := 65) 0 3 (.ref mS) tu_5 tw_562 dX5_over_65 rfl rfl (by decide) rfl rfl ?_
            refine z_iconst X (pc := 68) (nI 0) dX5_over_68 (by decide) ?_
            refine z_iald X (pc := 69) 1 0 (nI (s 0)) dX5_over_69 rfl rfl (Nat.le_of_ble_eq_true rfl) (by decide) rfl ?_
            refine z_iload X (pc := 70) 0 dX5_over_70 rfl ?_
            refine z_isub X (pc := 72) (v := (nI ((s 0) - k_))) dX5_over_72 (pk_sub (by omega)) ?_
            refine z_iconst X (pc := 73) (nI 0) dX5_over_73 (by decide) ?_
            refine z_bipush X (pc := 74) (nI 10) dX5_over_74 (by decide) ?_
            refine zc_S (as := [.int (nI ((s 0) - k_)), .int (nI 0), .int (nI 10)]) X (pc := 76) (c_X5_inN lq D t ((s 0) - k_) 0 10 (by omega) (by decide) (by decide)) tw_615 tw_617 tw_7 tw_616 [] rfl rfl dX5_over_76 rfl zdX5_in ⟨rfl, rfl, Nat.le_of_ble_eq_true rfl, Nat.le_of_ble_eq_true rfl⟩ (Nat.le_of_ble_eq_true rfl) (Nat.zero_le _) (Nat.zero_le _) (fun v_12 w_13 hp_14 => ?_)
            obtain ⟨rfl, rfl⟩ := hp_14
            refine ⟨rfl, ?_⟩
            refine z_eq (ws2 := [eX5 mq mT (nI ty) mD mS (nI ev) mP (nI kn) mI (nI kp) mE (nI sg) at_ mH mX mR mO fs, eI t mS 5 (nf s), eL t mH 363 f1, eL t mX 363 f2, eL t mR 11 f3, eL t mO 22 f4]) (st2 := [.int (zb (0 ≤ ((s 0) - k_) ∧ ((s 0) - k_) ≤ 10))]) rfl rfl rfl ?_
            refine z_if_eqB X (pc := 79) 152 dX5_over_79 (by decide) (fun c_79 => absurd c_79 (by omega)) (fun c_79 => ?_)
            refine z_aload_n X (pc := 82) 2 dX5_over_82 rfl ?_
            refine z_get X (pc := 83) 0 3 (.ref mS) tu_5 tw_562 dX5_over_83 rfl rfl (by decide) rfl rfl ?_
            refine z_iconst X (pc := 86) (nI 1) dX5_over_86 (by decide) ?_
            refine z_iald X (pc := 87) 1 1 (nI (s 1)) dX5_over_87 rfl rfl (Nat.le_of_ble_eq_true rfl) (by decide) rfl ?_
            refine z_iload X (pc := 88) 0 dX5_over_88 rfl ?_
            refine z_iadd X (pc := 90) (v := (nI (s 1 + k_))) dX5_over_90 (nI_add (s 1) k_) ?_
            refine z_iconst X (pc := 91) (nI 0) dX5_over_91 (by decide) ?_
            refine z_bipush X (pc := 92) (nI 10) dX5_over_92 (by decide) ?_
            refine zc_S (as := [.int (nI (s 1 + k_)), .int (nI 0), .int (nI 10)]) X (pc := 94) (c_X5_inN lq D t (s 1 + k_) 0 10 (by omega) (by decide) (by decide)) tw_615 tw_617 tw_7 tw_616 [] rfl rfl dX5_over_94 rfl zdX5_in ⟨rfl, rfl, Nat.le_of_ble_eq_true rfl, Nat.le_of_ble_eq_true rfl⟩ (Nat.le_of_ble_eq_true rfl) (Nat.zero_le _) (Nat.zero_le _) (fun v_15 w_16 hp_17 => ?_)
            obtain ⟨rfl, rfl⟩ := hp_17
            refine ⟨rfl, ?_⟩
            refine z_eq (ws2 := [eX5 mq mT (nI ty) mD mS (nI ev) mP (nI kn) mI (nI kp) mE (nI sg) at_ mH mX mR mO fs, eI t mS 5 (nf s), eL t mH 363 f1, eL t mX 363 f2, eL t mR 11 f3, eL t mO 22 f4]) (st2 := [.int (zb (0 ≤ (s 1 + k_) ∧ (s 1 + k_) ≤ 10))]) rfl rfl rfl ?_
            refine z_if_eqB X (pc := 97) 152 dX5_over_97 (by decide) (fun c_97 => absurd c_97 (by omega)) (fun c_97 => ?_)
            refine z_aload_n X (pc := 100) 2 dX5_over_100 rfl ?_
            refine z_aload_n X (pc := 101) 2 dX5_over_101 rfl ?_
            refine z_get X (pc := 102) 0 3 (.ref mS) tu_5 tw_562 dX5_over_102 rfl rfl (by decide) rfl rfl ?_
            refine z_iconst X (pc := 105) (nI 0) dX5_over_105 (by decide) ?_
            refine z_iald X (pc := 106) 1 0 (nI (s 0)) dX5_over_106 rfl rfl (Nat.le_of_ble_eq_true rfl) (by decide) rfl ?_
            refine z_iload X (pc := 107) 0 dX5_over_107 rfl ?_
            refine z_isub X (pc := 109) (v := (nI ((s 0) - k_))) dX5_over_109 (pk_sub (by omega)) ?_
            refine z_aload_n X (pc := 110) 2 dX5_over_110 rfl ?_
            refine z_get X (pc := 111) 0 3 (.ref mS) tu_5 tw_562 dX5_over_111 rfl rfl (by decide) rfl rfl ?_
            refine z_iconst X (pc := 114) (nI 1) dX5_over_114 (by decide) ?_
            refine z_iald X (pc := 115) 1 1 (nI (s 1)) dX5_over_115 rfl rfl (Nat.le_of_ble_eq_true rfl) (by decide) rfl ?_
            refine z_iload X (pc := 116) 0 dX5_over_116 rfl ?_
            refine z_iadd X (pc := 118) (v := (nI (s 1 + k_))) dX5_over_118 (nI_add (s 1) k_) ?_
            refine zc_V (as := [.int (nI ((s 0) - k_)), .int (nI (s 1 + k_))]) X (pc := 119) (c_X5_reachesFrom lq D t mq mT mD mS mP mI mE mH mX mR mO ty ev kn kp sg at_ fs s f1 f2 f3 f4 ((s 0) - k_) (s 1 + k_) hsk (by omega) (by omega)) tw_757 tw_760 tw_7 tw_759 tw_1037 0 5 rfl rfl [0, 1, 2, 3, 4, 5] rfl rfl dX5_over_119 rfl zdX5_reachesFrom ⟨rfl, rfl, Nat.le_of_ble_eq_true rfl, Nat.le_of_ble_eq_true rfl⟩ (Nat.le_of_ble_eq_true rfl) (Nat.zero_le _) (Nat.zero_le _) (fun v_18 w_19 hp_20 => ?_)
            obtain ⟨FS_21, F1_22, F2_23, F3_24, F4_25, rfl, rfl⟩ := hp_20
            refine ⟨rfl, ?_⟩
            refine z_eq (ws2 := [eX5 mq mT (nI ty) mD mS (nI ev) mP (nI kn) mI (nI kp) mE (nI sg) at_ mH mX mR mO FS_21, eI t mS 5 (nf s), eL t mH 363 F1_22, eL t mX 363 F2_23, eL t mR 11 F3_24, eL t mO 22 F4_25]) (st2 := [.long (lN (rch (s 3) (s 4) 0 ((s 0) - k_) (s 1 + k_) (s 2)))]) rfl rfl rfl ?_
            refine z_lstore X (pc := 122) (i := 8) [(8, .long (lN (rch (s 3) (s 4) 0 ((s 0) - k_) (s 1 + k_) (s 2)))), (7, .int (nI k_)), (6, .int (nI 0)), (0, .ref mq), (1, .int (nI wt)), (2, .int bs), (3, .long (lN mo)), (5, .int (nI k_))] dX5_over_122 trivial (by decide) rfl ?_
            refine z_lload X (pc := 124) 0 dX5_over_124 rfl ?_
            refine z_lload_n X (pc := 126) 6 dX5_over_126 rfl ?_
            refine z_lcmp_leN X (pc := 127) 136 (Nat.lt_trans (rch_lt _ _ _ _ _ _) (by decide)) (by first | omega | exact Nat.lt_trans (rch_lt _ _ _ _ _ _) (by decide)) dX5_over_127 dX5_over_128 (by decide) (fun c_127 => ?_) (fun c_127 => ?_)
            · skip
              refine z_iload_n X (pc := 136) 5 dX5_over_136 rfl ?_
              refine z_istore_n X (pc := 137) (i := 2) [(2, .int bs), (8, .long (lN (rch (s 3) (s 4) 0 ((s 0) - k_) (s 1 + k_) (s 2)))), (7, .int (nI k_)), (6, .int (nI 0)), (0, .ref mq), (1, .int (nI wt)), (3, .long (lN mo)), (5, .int (nI k_))] dX5_over_137 rfl (by decide) rfl ?_
              have hcA := Nat.not_lt.mpr c_127
              refine z_lload X (pc := 138) 1 dX5_over_138 rfl ?_
              refine z_lload_n X (pc := 140) 6 dX5_over_140 rfl ?_
              refine z_lcmp_leN X (pc := 141) 150 (Nat.lt_trans (rch_lt _ _ _ _ _ _) (by decide)) (by first | omega | exact Nat.lt_trans (rch_lt _ _ _ _ _ _) (by decide)) dX5_over_141 dX5_over_142 (by decide) (fun c_141 => ?_) (fun c_141 => absurd c_141 (by omega))
              refine z_lload_n X (pc := 150) 6 dX5_over_150 rfl ?_
              refine z_lstore_n X (pc := 151) (i := 3) [(3, .long (lN mo)), (2, .int bs), (8, .long (lN (rch (s 3) (s 4) 0 ((s 0) - k_) (s 1 + k_) (s 2)))), (7, .int (nI k_)), (6, .int (nI 0)), (0, .ref mq), (1, .int (nI wt)), (5, .int (nI k_))] dX5_over_151 rfl (by decide) rfl ?_
              refine z_iinc X (pc := 152) (i := 6) 4 (nI 1) [(6, .int (nI 1)), (3, .long (lN mo)), (2, .int bs), (8, .long (lN (rch (s 3) (s 4) 0 ((s 0) - k_) (s 1 + k_) (s 2)))), (7, .int (nI k_)), (0, .ref mq), (1, .int (nI wt)), (5, .int (nI k_))] dX5_over_152 rfl (nI_incc 0 1) (by decide) rfl ?_
              refine z_goto X (pc := 155) 43 dX5_over_155 (by decide) ?_
              refine z_iload X (pc := 43) 0 dX5_over_43 rfl ?_
              refine z_iconst X (pc := 45) (nI 2) dX5_over_45 (by decide) ?_
              refine z_icmp_geN X (pc := 46) 158 (by omega) (by omega) dX5_over_46 (by decide) (fun c_46 => absurd c_46 (by decide)) (fun c_46 => ?_)
              by_cases hcaB : k_ ≤ s 1 ∧ s 0 + k_ ≤ 10
              · skip
                refine z_iload X (pc := 49) 0 dX5_over_49 rfl ?_
                refine z_if_neN X (pc := 51) 59 (by omega) dX5_over_51 (by decide) (fun c_51 => ?_) (fun c_51 => absurd c_51 (by decide))
                refine z_iload X (pc := 59) 7 dX5_over_59 rfl ?_
                refine z_ineg X (pc := 61) (v := (-(nI k_))) dX5_over_61 rfl ?_
                refine z_istore X (pc := 62) (i := 7) [(7, .int (-(nI k_))), (6, .int (nI 1)), (3, .long (lN mo)), (2, .int bs), (8, .long (lN (rch (s 3) (s 4) 0 ((s 0) - k_) (s 1 + k_) (s 2)))), (0, .ref mq), (1, .int (nI wt)), (5, .int (nI k_))] dX5_over_62 trivial (by decide) rfl ?_
                refine z_aload_n X (pc := 64) 5 dX5_over_64 rfl ?_
                refine z_get X (pc := 65) 0 3 (.ref mS) tu_5 tw_562 dX5_over_65 rfl rfl (by decide) rfl rfl ?_
                refine z_iconst X (pc := 68) (nI 0) dX5_over_68 (by decide) ?_
                refine z_iald X (pc := 69) 1 0 (nI (s 0)) dX5_over_69 rfl rfl (Nat.le_of_ble_eq_true rfl) (by decide) rfl ?_
                refine z_iload X (pc := 70) 0 dX5_over_70 rfl ?_
                refine z_isub X (pc := 72) (v := ((nI (s 0)) - (-(nI k_)))) dX5_over_72 rfl ?_
                refine z_topi (nI (s 0 + k_)) (i32_sub_neg _ _) ?_
                refine z_iconst X (pc := 73) (nI 0) dX5_over_73 (by decide) ?_
                refine z_bipush X (pc := 74) (nI 10) dX5_over_74 (by decide) ?_
                refine zc_S (as := [.int (nI (s 0 + k_)), .int (nI 0), .int (nI 10)]) X (pc := 76) (c_X5_inN lq D t (s 0 + k_) 0 10 (by omega) (by decide) (by decide)) tw_615 tw_617 tw_7 tw_616 [] rfl rfl dX5_over_76 rfl zdX5_in ⟨rfl, rfl, Nat.le_of_ble_eq_true rfl, Nat.le_of_ble_eq_true rfl⟩ (Nat.le_of_ble_eq_true rfl) (Nat.zero_le _) (Nat.zero_le _) (fun v_26 w_27 hp_28 => ?_)
                obtain ⟨rfl, rfl⟩ := hp_28
                refine ⟨rfl, ?_⟩
                refine z_eq (ws2 := [eX5 mq mT (nI ty) mD mS (nI ev) mP (nI kn) mI (nI kp) mE (nI sg) at_ mH mX mR mO FS_21, eI t mS 5 (nf s), eL t mH 363 F1_22, eL t mX 363 F2_23, eL t mR 11 F3_24, eL t mO 22 F4_25]) (st2 := [.int (zb (0 ≤ (s 0 + k_) ∧ (s 0 + k_) ≤ 10))]) rfl rfl rfl ?_
                refine z_if_eqB X (pc := 79) 152 dX5_over_79 (by decide) (fun c_79 => absurd c_79 (by omega)) (fun c_79 => ?_)
                refine z_aload_n X (pc := 82) 5 dX5_over_82 rfl ?_
                refine z_get X (pc := 83) 0 3 (.ref mS) tu_5 tw_562 dX5_over_83 rfl rfl (by decide) rfl rfl ?_
                refine z_iconst X (pc := 86) (nI 1) dX5_over_86 (by decide) ?_
                refine z_iald X (pc := 87) 1 1 (nI (s 1)) dX5_over_87 rfl rfl (Nat.le_of_ble_eq_true rfl) (by decide) rfl ?_
                refine z_iload X (pc := 88) 0 dX5_over_88 rfl ?_
                refine z_iadd X (pc := 90) (v := ((nI (s 1)) + (-(nI k_)))) dX5_over_90 rfl ?_
                refine z_topi (nI (s 1 - k_)) (by rw [i32_add_neg, pk_sub (by omega)]) ?_
                refine z_iconst X (pc := 91) (nI 0) dX5_over_91 (by decide) ?_
                refine z_bipush X (pc := 92) (nI 10) dX5_over_92 (by decide) ?_
                refine zc_S (as := [.int (nI (s 1 - k_)), .int (nI 0), .int (nI 10)]) X (pc := 94) (c_X5_inN lq D t (s 1 - k_) 0 10 (by omega) (by decide) (by decide)) tw_615 tw_617 tw_7 tw_616 [] rfl rfl dX5_over_94 rfl zdX5_in ⟨rfl, rfl, Nat.le_of_ble_eq_true rfl, Nat.le_of_ble_eq_true rfl⟩ (Nat.le_of_ble_eq_true rfl) (Nat.zero_le _) (Nat.zero_le _) (fun v_29 w_30 hp_31 => ?_)
                obtain ⟨rfl, rfl⟩ := hp_31
                refine ⟨rfl, ?_⟩
                refine z_eq (ws2 := [eX5 mq mT (nI ty) mD mS (nI ev) mP (nI kn) mI (nI kp) mE (nI sg) at_ mH mX mR mO FS_21, eI t mS 5 (nf s), eL t mH 363 F1_22, eL t mX 363 F2_23, eL t mR 11 F3_24, eL t mO 22 F4_25]) (st2 := [.int (zb (0 ≤ (s 1 - k_) ∧ (s 1 - k_) ≤ 10))]) rfl rfl rfl ?_
                refine z_if_eqB X (pc := 97) 152 dX5_over_97 (by decide) (fun c_97 => absurd c_97 (by omega)) (fun c_97 => ?_)
                refine z_aload_n X (pc := 100) 5 dX5_over_100 rfl ?_
                refine z_aload_n X (pc := 101) 5 dX5_over_101 rfl ?_
                refine z_get X (pc := 102) 0 3 (.ref mS) tu_5 tw_562 dX5_over_102 rfl rfl (by decide) rfl rfl ?_
                refine z_iconst X (pc := 105) (nI 0) dX5_over_105 (by decide) ?_
                refine z_iald X (pc := 106) 1 0 (nI (s 0)) dX5_over_106 rfl rfl (Nat.le_of_ble_eq_true rfl) (by decide) rfl ?_
                refine z_iload X (pc := 107) 0 dX5_over_107 rfl ?_
                refine z_isub X (pc := 109) (v := ((nI (s 0)) - (-(nI k_)))) dX5_over_109 rfl ?_
                refine z_topi (nI (s 0 + k_)) (i32_sub_neg _ _) ?_
                refine z_aload_n X (pc := 110) 5 dX5_over_110 rfl ?_
                refine z_get X (pc := 111) 0 3 (.ref mS) tu_5 tw_562 dX5_over_111 rfl rfl (by decide) rfl rfl ?_
                refine z_iconst X (pc := 114) (nI 1) dX5_over_114 (by decide) ?_
                refine z_iald X (pc := 115) 1 1 (nI (s 1)) dX5_over_115 rfl rfl (Nat.le_of_ble_eq_true rfl) (by decide) rfl ?_
                refine z_iload X (pc := 116) 0 dX5_over_116 rfl ?_
                refine z_iadd X (pc := 118) (v := ((nI (s 1)) + (-(nI k_)))) dX5_over_118 rfl ?_
                refine z_topi (nI (s 1 - k_)) (by rw [i32_add_neg, pk_sub (by omega)]) ?_
                refine zc_V (as := [.int (nI (s 0 + k_)), .int (nI (s 1 - k_))]) X (pc := 119) (c_X5_reachesFrom lq D t mq mT mD mS mP mI mE mH mX mR mO ty ev kn kp sg at_ FS_21 s F1_22 F2_23 F3_24 F4_25 (s 0 + k_) (s 1 - k_) hsk (by omega) (by omega)) tw_757 tw_760 tw_7 tw_759 tw_1037 0 5 rfl rfl [0, 1, 2, 3, 4, 5] rfl rfl dX5_over_119 rfl zdX5_reachesFrom ⟨rfl, rfl, Nat.le_of_ble_eq_true rfl, Nat.le_of_ble_eq_true rfl⟩ (Nat.le_of_ble_eq_true rfl) (Nat.zero_le _) (Nat.zero_le _) (fun v_32 w_33 hp_34 => ?_)
                obtain ⟨FS_35, F1_36, F2_37, F3_38, F4_39, rfl, rfl⟩ := hp_34
                refine ⟨rfl, ?_⟩
                refine z_eq (ws2 := [eX5 mq mT (nI ty) mD mS (nI ev) mP (nI kn) mI (nI kp) mE (nI sg) at_ mH mX mR mO FS_35, eI t mS 5 (nf s), eL t mH 363 F1_36, eL t mX 363 F2_37, eL t mR 11 F3_38, eL t mO 22 F4_39]) (st2 := [.long (lN (rch (s 3) (s 4) 0 (s 0 + k_) (s 1 - k_) (s 2)))]) rfl rfl rfl ?_
                refine z_lstore X (pc := 122) (i := 8) [(8, .long (lN (rch (s 3) (s 4) 0 (s 0 + k_) (s 1 - k_) (s 2)))), (7, .int (-(nI k_))), (6, .int (nI 1)), (3, .long (lN mo)), (2, .int bs), (0, .ref mq), (1, .int (nI wt)), (5, .int (nI k_))] dX5_over_122 trivial (by decide) rfl ?_
                refine z_lload X (pc := 124) 0 dX5_over_124 rfl ?_
                refine z_lload_n X (pc := 126) 3 dX5_over_126 rfl ?_
                refine z_lcmp_leN X (pc := 127) 136 (Nat.lt_trans (rch_lt _ _ _ _ _ _) (by decide)) (by first | omega | exact Nat.lt_trans (rch_lt _ _ _ _ _ _) (by decide)) dX5_over_127 dX5_over_128 (by decide) (fun c_127 => ?_) (fun c_127 => ?_)
                · skip
                  refine z_iload_n X (pc := 136) 4 dX5_over_136 rfl ?_
                  refine z_istore_n X (pc := 137) (i := 2) [(2, .int bs), (8, .long (lN (rch (s 3) (s 4) 0 (s 0 + k_) (s 1 - k_) (s 2)))), (7, .int (-(nI k_))), (6, .int (nI 1)), (3, .long (lN mo)), (0, .ref mq), (1, .int (nI wt)), (5, .int (nI k_))] dX5_over_137 rfl (by decide) rfl ?_
                  have hcB := Nat.not_lt.mpr c_127
                  refine z_lload X (pc := 138) 1 dX5_over_138 rfl ?_
                  refine z_lload_n X (pc := 140) 4 dX5_over_140 rfl ?_
                  refine z_lcmp_leN X (pc := 141) 150 (Nat.lt_trans (rch_lt _ _ _ _ _ _) (by decide)) (by first | omega | exact Nat.lt_trans (rch_lt _ _ _ _ _ _) (by decide)) dX5_over_141 dX5_over_142 (by decide) (fun c_141 => ?_) (fun c_141 => absurd c_141 (by omega))
                  refine z_lload_n X (pc := 150) 4 dX5_over_150 rfl ?_
                  refine z_lstore_n X (pc := 151) (i := 3) [(3, .long (lN mo)), (2, .int bs), (8, .long (lN (rch (s 3) (s 4) 0 (s 0 + k_) (s 1 - k_) (s 2)))), (7, .int (-(nI k_))), (6, .int (nI 1)), (0, .ref mq), (1, .int (nI wt)), (5, .int (nI k_))] dX5_over_151 rfl (by decide) rfl ?_
                  refine z_iinc X (pc := 152) (i := 6) 4 (nI 2) [(6, .int (nI 2)), (3, .long (lN mo)), (2, .int bs), (8, .long (lN (rch (s 3) (s 4) 0 (s 0 + k_) (s 1 - k_) (s 2)))), (7, .int (-(nI k_))), (0, .ref mq), (1, .int (nI wt)), (5, .int (nI k_))] dX5_over_152 rfl (nI_incc 1 1) (by decide) rfl ?_
                  refine z_goto X (pc := 155) 43 dX5_over_155 (by decide) ?_
                  refine z_iload X (pc := 43) 0 dX5_over_43 rfl ?_
                  refine z_iconst X (pc := 45) (nI 2) dX5_over_45 (by decide) ?_
                  refine z_icmp_geN X (pc := 46) 158 (by omega) (by omega) dX5_over_46 (by decide) (fun c_46 => ?_) (fun c_46 => absurd c_46 (by decide))
                  refine z_iinc X (pc := 158) (i := 5) 7 (nI (k_ + 1)) [(5, .int (nI (k_ + 1))), (6, .int (nI 2)), (3, .long (lN mo)), (2, .int bs), (8, .long (lN (rch (s 3) (s 4) 0 (s 0 + k_) (s 1 - k_) (s 2)))), (7, .int (-(nI k_))), (0, .ref mq), (1, .int (nI wt))] dX5_over_158 rfl (nI_incc k_ 1) (by decide) rfl ?_
                  refine z_goto X (pc := 161) 33 dX5_over_161 (by decide) ?_
                  refine z_lv [6, 7, 3, 2, 0] (lv2 := [(0, .ref mq), (1, .int (nI wt)), (2, .int bs), (3, .long (lN mo)), (5, .int (nI (k_ + 1)))]) rfl ?_
                  exact ih_33 (k_ + 1) bs mo FS_35 F1_36 F2_37 F3_38 F4_39 (by omega) (by omega) (by rw [show k_ + 1 - 1 = (k_ - 1) + 1 by omega, ov_s, ← hov, show k_ - 1 + 1 = k_ by omega]; unfold ovA; rw [if_neg (fun z => hcA z.2)]; unfold ovB; rw [if_neg (fun z => hcB z.2)])
                · skip
                  refine z_iload X (pc := 131) 1 dX5_over_131 rfl ?_
                  refine z_goto X (pc := 133) 137 dX5_over_133 (by decide) ?_
                  refine z_istore_n X (pc := 137) (i := 2) [(2, .int (-(nI k_))), (8, .long (lN (rch (s 3) (s 4) 0 (s 0 + k_) (s 1 - k_) (s 2)))), (7, .int (-(nI k_))), (6, .int (nI 1)), (3, .long (lN mo)), (0, .ref mq), (1, .int (nI wt)), (5, .int (nI k_))] dX5_over_137 rfl (by decide) rfl ?_
                  have hcB := Nat.not_le.mp c_127
                  refine z_lload X (pc := 138) 1 dX5_over_138 rfl ?_
                  refine z_lload_n X (pc := 140) 4 dX5_over_140 rfl ?_
                  refine z_lcmp_leN X (pc := 141) 150 (Nat.lt_trans (rch_lt _ _ _ _ _ _) (by decide)) (by first | omega | exact Nat.lt_trans (rch_lt _ _ _ _ _ _) (by decide)) dX5_over_141 dX5_over_142 (by decide) (fun c_141 => absurd c_141 (by omega)) (fun c_141 => ?_)
                  refine z_lload X (pc := 145) 1 dX5_over_145 rfl ?_
                  refine z_goto X (pc := 147) 151 dX5_over_147 (by decide) ?_
                  refine z_lstore_n X (pc := 151) (i := 3) [(3, .long (lN (rch (s 3) (s 4) 0 (s 0 + k_) (s 1 - k_) (s 2)))), (2, .int (-(nI k_))), (8, .long (lN (rch (s 3) (s 4) 0 (s 0 + k_) (s 1 - k_) (s 2)))), (7, .int (-(nI k_))), (6, .int (nI 1)), (0, .ref mq), (1, .int (nI wt)), (5, .int (nI k_))] dX5_over_151 rfl (by decide) rfl ?_
                  refine z_iinc X (pc := 152) (i := 6) 4 (nI 2) [(6, .int (nI 2)), (3, .long (lN (rch (s 3) (s 4) 0 (s 0 + k_) (s 1 - k_) (s 2)))), (2, .int (-(nI k_))), (8, .long (lN (rch (s 3) (s 4) 0 (s 0 + k_) (s 1 - k_) (s 2)))), (7, .int (-(nI k_))), (0, .ref mq), (1, .int (nI wt)), (5, .int (nI k_))] dX5_over_152 rfl (nI_incc 1 1) (by decide) rfl ?_
                  refine z_goto X (pc := 155) 43 dX5_over_155 (by decide) ?_
                  refine z_iload X (pc := 43) 0 dX5_over_43 rfl ?_
                  refine z_iconst X (pc := 45) (nI 2) dX5_over_45 (by decide) ?_
                  refine z_icmp_geN X (pc := 46) 158 (by omega) (by omega) dX5_over_46 (by decide) (fun c_46 => ?_) (fun c_46 => absurd c_46 (by decide))
                  refine z_iinc X (pc := 158) (i := 5) 7 (nI (k_ + 1)) [(5, .int (nI (k_ + 1))), (6, .int (nI 2)), (3, .long (lN (rch (s 3) (s 4) 0 (s 0 + k_) (s 1 - k_) (s 2)))), (2, .int (-(nI k_))), (8, .long (lN (rch (s 3) (s 4) 0 (s 0 + k_) (s 1 - k_) (s 2)))), (7, .int (-(nI k_))), (0, .ref mq), (1, .int (nI wt))] dX5_over_158 rfl (nI_incc k_ 1) (by decide) rfl ?_
                  refine z_goto X (pc := 161) 33 dX5_over_161 (by decide) ?_
                  refine z_lv [6, 7, 3, 2, 0] (lv2 := [(0, .ref mq), (1, .int (nI wt)), (2, .int (-(nI k_))), (3, .long (lN (rch (s 3) (s 4) 0 (s 0 + k_) (s 1 - k_) (s 2)))), (5, .int (nI (k_ + 1)))]) rfl ?_
                  exact ih_33 (k_ + 1) (-(nI k_)) (ovr s (s 0 + k_) (s 1 - k_)) FS_35 F1_36 F2_37 F3_38 F4_39 (by omega) (by omega) (by rw [show k_ + 1 - 1 = (k_ - 1) + 1 by omega, ov_s, ← hov, show k_ - 1 + 1 = k_ by omega]; unfold ovA; rw [if_neg (fun z => hcA z.2)]; unfold ovB; rw [if_pos ⟨hcaB, hcB⟩])
              · skip
                refine z_iload X (pc := 49) 0 dX5_over_49 rfl ?_
                refine z_if_neN X (pc := 51) 59 (by omega) dX5_over_51 (by decide) (fun c_51 => ?_) (fun c_51 => absurd c_51 (by decide))
                refine z_iload X (pc := 59) 7 dX5_over_59 rfl ?_
                refine z_ineg X (pc := 61) (v := (-(nI k_))) dX5_over_61 rfl ?_
                refine z_istore X (pc := 62) (i := 7) [(7, .int (-(nI k_))), (6, .int (nI 1)), (3, .long (lN mo)), (2, .int bs), (8, .long (lN (rch (s 3) (s 4) 0 ((s 0) - k_) (s 1 + k_) (s 2)))), (0, .ref mq), (1, .int (nI wt)), (5, .int (nI k_))] dX5_over_62 trivial (by decide) rfl ?_
                refine z_aload_n X (pc := 64) 5 dX5_over_64 rfl ?_
                refine z_get X (pc := 65) 0 3 (.ref mS) tu_5 tw_562 dX5_over_65 rfl rfl (by decide) rfl rfl ?_
                refine z_iconst X (pc := 68) (nI 0) dX5_over_68 (by decide) ?_
                refine z_iald X (pc := 69) 1 0 (nI (s 0)) dX5_over_69 rfl rfl (Nat.le_of_ble_eq_true rfl) (by decide) rfl ?_
                refine z_iload X (pc := 70) 0 dX5_over_70 rfl ?_
                refine z_isub X (pc := 72) (v := ((nI (s 0)) - (-(nI k_)))) dX5_over_72 rfl ?_
                refine z_topi (nI (s 0 + k_)) (i32_sub_neg _ _) ?_
                refine z_iconst X (pc := 73) (nI 0) dX5_over_73 (by decide) ?_
                refine z_bipush X (pc := 74) (nI 10) dX5_over_74 (by decide) ?_
                refine zc_S (as := [.int (nI (s 0 + k_)), .int (nI 0), .int (nI 10)]) X (pc := 76) (c_X5_inN lq D t (s 0 + k_) 0 10 (by omega) (by decide) (by decide)) tw_615 tw_617 tw_7 tw_616 [] rfl rfl dX5_over_76 rfl zdX5_in ⟨rfl, rfl, Nat.le_of_ble_eq_true rfl, Nat.le_of_ble_eq_true rfl⟩ (Nat.le_of_ble_eq_true rfl) (Nat.zero_le _) (Nat.zero_le _) (fun v_40 w_41 hp_42 => ?_)
                obtain ⟨rfl, rfl⟩ := hp_42
                refine ⟨rfl, ?_⟩
                refine z_eq (ws2 := [eX5 mq mT (nI ty) mD mS (nI ev) mP (nI kn) mI (nI kp) mE (nI sg) at_ mH mX mR mO FS_21, eI t mS 5 (nf s), eL t mH 363 F1_22, eL t mX 363 F2_23, eL t mR 11 F3_24, eL t mO 22 F4_25]) (st2 := [.int (zb (0 ≤ (s 0 + k_) ∧ (s 0 + k_) ≤ 10))]) rfl rfl rfl ?_
                refine z_if_eqB X (pc := 79) 152 dX5_over_79 (by decide) (fun c_79 => ?_) (fun c_79 => ?_)
                · skip
                  refine z_iinc X (pc := 152) (i := 6) 1 (nI 2) [(6, .int (nI 2)), (7, .int (-(nI k_))), (3, .long (lN mo)), (2, .int bs), (8, .long (lN (rch (s 3) (s 4) 0 ((s 0) - k_) (s 1 + k_) (s 2)))), (0, .ref mq), (1, .int (nI wt)), (5, .int (nI k_))] dX5_over_152 rfl (nI_incc 1 1) (by decide) rfl ?_
                  refine z_goto X (pc := 155) 43 dX5_over_155 (by decide) ?_
                  refine z_iload X (pc := 43) 0 dX5_over_43 rfl ?_
                  refine z_iconst X (pc := 45) (nI 2) dX5_over_45 (by decide) ?_
                  refine z_icmp_geN X (pc := 46) 158 (by omega) (by omega) dX5_over_46 (by decide) (fun c_46 => ?_) (fun c_46 => absurd c_46 (by decide))
                  refine z_iinc X (pc := 158) (i := 5) 7 (nI (k_ + 1)) [(5, .int (nI (k_ + 1))), (6, .int (nI 2)), (7, .int (-(nI k_))), (3, .long (lN mo)), (2, .int bs), (8, .long (lN (rch (s 3) (s 4) 0 ((s 0) - k_) (s 1 + k_) (s 2)))), (0, .ref mq), (1, .int (nI wt))] dX5_over_158 rfl (nI_incc k_ 1) (by decide) rfl ?_
                  refine z_goto X (pc := 161) 33 dX5_over_161 (by decide) ?_
                  refine z_lv [6, 7, 4, 3, 0] (lv2 := [(0, .ref mq), (1, .int (nI wt)), (2, .int bs), (3, .long (lN mo)), (5, .int (nI (k_ + 1)))]) rfl ?_
                  exact ih_33 (k_ + 1) bs mo FS_21 F1_22 F2_23 F3_24 F4_25 (by omega) (by omega) (by rw [show k_ + 1 - 1 = (k_ - 1) + 1 by omega, ov_s, ← hov, show k_ - 1 + 1 = k_ by omega]; unfold ovA; rw [if_neg (fun z => hcA z.2)]; unfold ovB; rw [if_neg (fun z => hcaB z.1)])
                · skip
                  refine z_aload_n X (pc := 82) 5 dX5_over_82 rfl ?_
                  refine z_get X (pc := 83) 0 3 (.ref mS) tu_5 tw_562 dX5_over_83 rfl rfl (by decide) rfl rfl ?_
                  refine z_iconst X (pc := 86) (nI 1) dX5_over_86 (by decide) ?_
                  refine z_iald X (pc := 87) 1 1 (nI (s 1)) dX5_over_87 rfl rfl (Nat.le_of_ble_eq_true rfl) (by decide) rfl ?_
                  refine z_iload X (pc := 88) 0 dX5_over_88 rfl ?_
                  refine z_iadd X (pc := 90) (v := ((nI (s 1)) + (-(nI k_)))) dX5_over_90 rfl ?_
                  refine z_topi (nI (s 1) - nI k_) (i32_add_neg _ _) ?_
                  refine z_iconst X (pc := 91) (nI 0) dX5_over_91 (by decide) ?_
                  refine z_bipush X (pc := 92) (nI 10) dX5_over_92 (by decide) ?_
                  refine zc_S (as := [.int (nI (s 1) - nI k_), .int (nI 0), .int (nI 10)]) X (pc := 94) (c_X5_in lq D t (nI (s 1) - nI k_) (nI 0) (nI 10) ) tw_615 tw_617 tw_7 tw_616 [] rfl rfl dX5_over_94 rfl zdX5_in ⟨rfl, rfl, Nat.le_of_ble_eq_true rfl, Nat.le_of_ble_eq_true rfl⟩ (Nat.le_of_ble_eq_true rfl) (Nat.zero_le _) (Nat.zero_le _) (fun v_43 w_44 hp_45 => ?_)
                  obtain ⟨rfl, rfl⟩ := hp_45
                  refine ⟨rfl, ?_⟩
                  refine z_eq (ws2 := [eX5 mq mT (nI ty) mD mS (nI ev) mP (nI kn) mI (nI kp) mE (nI sg) at_ mH mX mR mO FS_21, eI t mS 5 (nf s), eL t mH 363 F1_22, eL t mX 363 F2_23, eL t mR 11 F3_24, eL t mO 22 F4_25]) (st2 := [.int (zb ((nI 0) ≤ (nI (s 1) - nI k_) ∧ (nI (s 1) - nI k_) ≤ (nI 10)))]) rfl rfl rfl ?_
                  refine z_if_eqB X (pc := 97) 152 dX5_over_97 (by decide) (fun c_97 => ?_) (fun c_97 => absurd c_97 (fun z => ov_raw2 hs0 hs1 (by omega) hcaB ⟨⟨(nI_leI (by decide) (by omega)).mpr (by omega), (nI_leI (by omega) (by decide)).mpr c_79.2⟩, z⟩))
                  refine z_iinc X (pc := 152) (i := 6) 1 (nI 2) [(6, .int (nI 2)), (7, .int (-(nI k_))), (3, .long (lN mo)), (2, .int bs), (8, .long (lN (rch (s 3) (s 4) 0 ((s 0) - k_) (s 1 + k_) (s 2)))), (0, .ref mq), (1, .int (nI wt)), (5, .int (nI k_))] dX5_over_152 rfl (nI_incc 1 1) (by decide) rfl ?_
                  refine z_goto X (pc := 155) 43 dX5_over_155 (by decide) ?_
                  refine z_iload X (pc := 43) 0 dX5_over_43 rfl ?_
                  refine z_iconst X (pc := 45) (nI 2) dX5_over_45 (by decide) ?_
                  refine z_icmp_geN X (pc := 46) 158 (by omega) (by omega) dX5_over_46 (by decide) (fun c_46 => ?_) (fun c_46 => absurd c_46 (by decide))
                  refine z_iinc X (pc := 158) (i := 5) 7 (nI (k_ + 1)) [(5, .int (nI (k_ + 1))), (6, .int (nI 2)), (7, .int (-(nI k_))), (3, .long (lN mo)), (2, .int bs), (8, .long (lN (rch (s 3) (s 4) 0 ((s 0) - k_) (s 1 + k_) (s 2)))), (0, .ref mq), (1, .int (nI wt))] dX5_over_158 rfl (nI_incc k_ 1) (by decide) rfl ?_
                  refine z_goto X (pc := 161) 33 dX5_over_161 (by decide) ?_
                  refine z_lv [6, 7, 4, 3, 0] (lv2 := [(0, .ref mq), (1, .int (nI wt)), (2, .int bs), (3, .long (lN mo)), (5, .int (nI (k_ + 1)))]) rfl ?_
                  exact ih_33 (k_ + 1) bs mo FS_21 F1_22 F2_23 F3_24 F4_25 (by omega) (by omega) (by rw [show k_ + 1 - 1 = (k_ - 1) + 1 by omega, ov_s, ← hov, show k_ - 1 + 1 = k_ by omega]; unfold ovA; rw [if_neg (fun z => hcA z.2)]; unfold ovB; rw [if_neg (fun z => hcaB z.1)])
            · skip
              refine z_iload X (pc := 131) 1 dX5_over_131 rfl ?_
              refine z_goto X (pc := 133) 137 dX5_over_133 (by decide) ?_
              refine z_istore_n X (pc := 137) (i := 2) [(2, .int (nI k_)), (8, .long (lN (rch (s 3) (s 4) 0 ((s 0) - k_) (s 1 + k_) (s 2)))), (7, .int (nI k_)), (6, .int (nI 0)), (0, .ref mq), (1, .int (nI wt)), (3, .long (lN mo)), (5, .int (nI k_))] dX5_over_137 rfl (by decide) rfl ?_
              have hcA := Nat.not_le.mp c_127
              refine z_lload X (pc := 138) 1 dX5_over_138 rfl ?_
              refine z_lload_n X (pc := 140) 6 dX5_over_140 rfl ?_
              refine z_lcmp_leN X (pc := 141) 150 (Nat.lt_trans (rch_lt _ _ _ _ _ _) (by decide)) (by first | omega | exact Nat.lt_trans (rch_lt _ _ _ _ _ _) (by decide)) dX5_over_141 dX5_over_142 (by decide) (fun c_141 => absurd c_141 (by omega)) (fun c_141 => ?_)
              refine z_lload X (pc := 145) 1 dX5_over_145 rfl ?_
              refine z_goto X (pc := 147) 151 dX5_over_147 (by decide) ?_
              refine z_lstore_n X (pc := 151) (i := 3) [(3, .long (lN (rch (s 3) (s 4) 0 ((s 0) - k_) (s 1 + k_) (s 2)))), (2, .int (nI k_)), (8, .long (lN (rch (s 3) (s 4) 0 ((s 0) - k_) (s 1 + k_) (s 2)))), (7, .int (nI k_)), (6, .int (nI 0)), (0, .ref mq), (1, .int (nI wt)), (5, .int (nI k_))] dX5_over_151 rfl (by decide) rfl ?_
              refine z_iinc X (pc := 152) (i := 6) 4 (nI 1) [(6, .int (nI 1)), (3, .long (lN (rch (s 3) (s 4) 0 ((s 0) - k_) (s 1 + k_) (s 2)))), (2, .int (nI k_)), (8, .long (lN (rch (s 3) (s 4) 0 ((s 0) - k_) (s 1 + k_) (s 2)))), (7, .int (nI k_)), (0, .ref mq), (1, .int (nI wt)), (5, .int (nI k_))] dX5_over_152 rfl (nI_incc 0 1) (by decide) rfl ?_
              refine z_goto X (pc := 155) 43 dX5_over_155 (by decide) ?_
              refine z_iload X (pc := 43) 0 dX5_over_43 rfl ?_
              refine z_iconst X (pc := 45) (nI 2) dX5_over_45 (by decide) ?_
              refine z_icmp_geN X (pc := 46) 158 (by omega) (by omega) dX5_over_46 (by decide) (fun c_46 => absurd c_46 (by decide)) (fun c_46 => ?_)
              by_cases hcaB : k_ ≤ s 1 ∧ s 0 + k_ ≤ 10
              · skip
                refine z_iload X (pc := 49) 0 dX5_over_49 rfl ?_
                refine z_if_neN X (pc := 51) 59 (by omega) dX5_over_51 (by decide) (fun c_51 => ?_) (fun c_51 => absurd c_51 (by decide))
                refine z_iload X (pc := 59) 7 dX5_over_59 rfl ?_
                refine z_ineg X (pc := 61) (v := (-(nI k_))) dX5_over_61 rfl ?_
                refine z_istore X (pc := 62) (i := 7) [(7, .int (-(nI k_))), (6, .int (nI 1)), (3, .long (lN (rch (s 3) (s 4) 0 ((s 0) - k_) (s 1 + k_) (s 2)))), (2, .int (nI k_)), (8, .long (lN (rch (s 3) (s 4) 0 ((s 0) - k_) (s 1 + k_) (s 2)))), (0, .ref mq), (1, .int (nI wt)), (5, .int (nI k_))] dX5_over_62 trivial (by decide) rfl ?_
                refine z_aload_n X (pc := 64) 5 dX5_over_64 rfl ?_
                refine z_get X (pc := 65) 0 3 (.ref mS) tu_5 tw_562 dX5_over_65 rfl rfl (by decide) rfl rfl ?_
                refine z_iconst X (pc := 68) (nI 0) dX5_over_68 (by decide) ?_
                refine z_iald X (pc := 69) 1 0 (nI (s 0)) dX5_over_69 rfl rfl (Nat.le_of_ble_eq_true rfl) (by decide) rfl ?_
                refine z_iload X (pc := 70) 0 dX5_over_70 rfl ?_
                refine z_isub X (pc := 72) (v := ((nI (s 0)) - (-(nI k_)))) dX5_over_72 rfl ?_
                refine z_topi (nI (s 0 + k_)) (i32_sub_neg _ _) ?_
                refine z_iconst X (pc := 73) (nI 0) dX5_over_73 (by decide) ?_
                refine z_bipush X (pc := 74) (nI 10) dX5_over_74 (by decide) ?_
                refine zc_S (as := [.int (nI (s 0 + k_)), .int (nI 0), .int (nI 10)]) X (pc := 76) (c_X5_inN lq D t (s 0 + k_) 0 10 (by omega) (by decide) (by decide)) tw_615 tw_617 tw_7 tw_616 [] rfl rfl dX5_over_76 rfl zdX5_in ⟨rfl, rfl, Nat.le_of_ble_eq_true rfl, Nat.le_of_ble_eq_true rfl⟩ (Nat.le_of_ble_eq_true rfl) (Nat.zero_le _) (Nat.zero_le _) (fun v_46 w_47 hp_48 => ?_)
                obtain ⟨rfl, rfl⟩ := hp_48
                refine ⟨rfl, ?_⟩
                refine z_eq (ws2 := [eX5 mq mT (nI ty) mD mS (nI ev) mP (nI kn) mI (nI kp) mE (nI sg) at_ mH mX mR mO FS_21, eI t mS 5 (nf s), eL t mH 363 F1_22, eL t mX 363 F2_23, eL t mR 11 F3_24, eL t mO 22 F4_25]) (st2 := [.int (zb (0 ≤ (s 0 + k_) ∧ (s 0 + k_) ≤ 10))]) rfl rfl rfl ?_
                refine z_if_eqB X (pc := 79) 152 dX5_over_79 (by decide) (fun c_79 => absurd c_79 (by omega)) (fun c_79 => ?_)
                refine z_aload_n X (pc := 82) 5 dX5_over_82 rfl ?_
                refine z_get X (pc := 83) 0 3 (.ref mS) tu_5 tw_562 dX5_over_83 rfl rfl (by decide) rfl rfl ?_
                refine z_iconst X (pc := 86) (nI 1) dX5_over_86 (by decide) ?_
                refine z_iald X (pc := 87) 1 1 (nI (s 1)) dX5_over_87 rfl rfl (Nat.le_of_ble_eq_true rfl) (by decide) rfl ?_
                refine z_iload X (pc := 88) 0 dX5_over_88 rfl ?_
                refine z_iadd X (pc := 90) (v := ((nI (s 1)) + (-(nI k_)))) dX5_over_90 rfl ?_
                refine z_topi (nI (s 1 - k_)) (by rw [i32_add_neg, pk_sub (by omega)]) ?_
                refine z_iconst X (pc := 91) (nI 0) dX5_over_91 (by decide) ?_
                refine z_bipush X (pc := 92) (nI 10) dX5_over_92 (by decide) ?_
                refine zc_S (as := [.int (nI (s 1 - k_)), .int (nI 0), .int (nI 10)]) X (pc := 94) (c_X5_inN lq D t (s 1 - k_) 0 10 (by omega) (by decide) (by decide)) tw_615 tw_617 tw_7 tw_616 [] rfl rfl dX5_over_94 rfl zdX5_in ⟨rfl, rfl, Nat.le_of_ble_eq_true rfl, Nat.le_of_ble_eq_true rfl⟩ (Nat.le_of_ble_eq_true rfl) (Nat.zero_le _) (Nat.zero_le _) (fun v_49 w_50 hp_51 => ?_)
                obtain ⟨rfl, rfl⟩ := hp_51
                refine ⟨rfl, ?_⟩
                refine z_eq (ws2 := [eX5 mq mT (nI ty) mD mS (nI ev) mP (nI kn) mI (nI kp) mE (nI sg) at_ mH mX mR mO FS_21, eI t mS 5 (nf s), eL t mH 363 F1_22, eL t mX 363 F2_23, eL t mR 11 F3_24, eL t mO 22 F4_25]) (st2 := [.int (zb (0 ≤ (s 1 - k_) ∧ (s 1 - k_) ≤ 10))]) rfl rfl rfl ?_
                refine z_if_eqB X (pc := 97) 152 dX5_over_97 (by decide) (fun c_97 => absurd c_97 (by omega)) (fun c_97 => ?_)
                refine z_aload_n X (pc := 100) 5 dX5_over_100 rfl ?_
                refine z_aload_n X (pc := 101) 5 dX5_over_101 rfl ?_
                refine z_get X (pc := 102) 0 3 (.ref mS) tu_5 tw_562 dX5_over_102 rfl rfl (by decide) rfl rfl ?_
                refine z_iconst X (pc := 105) (nI 0) dX5_over_105 (by decide) ?_
                refine z_iald X (pc := 106) 1 0 (nI (s 0)) dX5_over_106 rfl rfl (Nat.le_of_ble_eq_true rfl) (by decide) rfl ?_
                refine z_iload X (pc := 107) 0 dX5_over_107 rfl ?_
                refine z_isub X (pc := 109) (v := ((nI (s 0)) - (-(nI k_)))) dX5_over_109 rfl ?_
                refine z_topi (nI (s 0 + k_)) (i32_sub_neg _ _) ?_
                refine z_aload_n X (pc := 110) 5 dX5_over_110 rfl ?_
                refine z_get X (pc := 111) 0 3 (.ref mS) tu_5 tw_562 dX5_over_111 rfl rfl (by decide) rfl rfl ?_
                refine z_iconst X (pc := 114) (nI 1) dX5_over_114 (by decide) ?_
                refine z_iald X (pc := 115) 1 1 (nI (s 1)) dX5_over_115 rfl rfl (Nat.le_of_ble_eq_true rfl) (by decide) rfl ?_
                refine z_iload X (pc := 116) 0 dX5_over_116 rfl ?_
                refine z_iadd X (pc := 118) (v := ((nI (s 1)) + (-(nI k_)))) dX5_over_118 rfl ?_
                refine z_topi (nI (s 1 - k_)) (by rw [i32_add_neg, pk_sub (by omega)]) ?_
                refine zc_V (as := [.int (nI (s 0 + k_)), .int (nI (s 1 - k_))]) X (pc := 119) (c_X5_reachesFrom lq D t mq mT mD mS mP mI mE mH mX mR mO ty ev kn kp sg at_ FS_21 s F1_22 F2_23 F3_24 F4_25 (s 0 + k_) (s 1 - k_) hsk (by omega) (by omega)) tw_757 tw_760 tw_7 tw_759 tw_1037 0 5 rfl rfl [0, 1, 2, 3, 4, 5] rfl rfl dX5_over_119 rfl zdX5_reachesFrom ⟨rfl, rfl, Nat.le_of_ble_eq_true rfl, Nat.le_of_ble_eq_true rfl⟩ (Nat.le_of_ble_eq_true rfl) (Nat.zero_le _) (Nat.zero_le _) (fun v_52 w_53 hp_54 => ?_)
                obtain ⟨FS_55, F1_56, F2_57, F3_58, F4_59, rfl, rfl⟩ := hp_54
                refine ⟨rfl, ?_⟩
                refine z_eq (ws2 := [eX5 mq mT (nI ty) mD mS (nI ev) mP (nI kn) mI (nI kp) mE (nI sg) at_ mH mX mR mO FS_55, eI t mS 5 (nf s), eL t mH 363 F1_56, eL t mX 363 F2_57, eL t mR 11 F3_58, eL t mO 22 F4_59]) (st2 := [.long (lN (rch (s 3) (s 4) 0 (s 0 + k_) (s 1 - k_) (s 2)))]) rfl rfl rfl ?_
                refine z_lstore X (pc := 122) (i := 8) [(8, .long (lN (rch (s 3) (s 4) 0 (s 0 + k_) (s 1 - k_) (s 2)))), (7, .int (-(nI k_))), (6, .int (nI 1)), (3, .long (lN (rch (s 3) (s 4) 0 ((s 0) - k_) (s 1 + k_) (s 2)))), (2, .int (nI k_)), (0, .ref mq), (1, .int (nI wt)), (5, .int (nI k_))] dX5_over_122 trivial (by decide) rfl ?_
                refine z_lload X (pc := 124) 0 dX5_over_124 rfl ?_
                refine z_lload_n X (pc := 126) 3 dX5_over_126 rfl ?_
                refine z_lcmp_leN X (pc := 127) 136 (Nat.lt_trans (rch_lt _ _ _ _ _ _) (by decide)) (by first | omega | exact Nat.lt_trans (rch_lt _ _ _ _ _ _) (by decide)) dX5_over_127 dX5_over_128 (by decide) (fun c_127 => ?_) (fun c_127 => ?_)
                · skip
                  refine z_iload_n X (pc := 136) 4 dX5_over_136 rfl ?_
                  refine z_istore_n X (pc := 137) (i := 2) [(2, .int (nI k_)), (8, .long (lN (rch (s 3) (s 4) 0 (s 0 + k_) (s 1 - k_) (s 2)))), (7, .int (-(nI k_))), (6, .int (nI 1)), (3, .long (lN (rch (s 3) (s 4) 0 ((s 0) - k_) (s 1 + k_) (s 2)))), (0, .ref mq), (1, .int (nI wt)), (5, .int (nI k_))] dX5_over_137 rfl (by decide) rfl ?_
                  have hcB := Nat.not_lt.mpr c_127
                  refine z_lload X (pc := 138) 1 dX5_over_138 rfl ?_
                  refine z_lload_n X (pc := 140) 4 dX5_over_140 rfl ?_
                  refine z_lcmp_leN X (pc := 141) 150 (Nat.lt_trans (rch_lt _ _ _ _ _ _) (by decide)) (by first | omega | exact Nat.lt_trans (rch_lt _ _ _ _ _ _) (by decide)) dX5_over_141 dX5_over_142 (by decide) (fun c_141 => ?_) (fun c_141 => absurd c_141 (by omega))
                  refine z_lload_n X (pc := 150) 4 dX5_over_150 rfl ?_
                  refine z_lstore_n X (pc := 151) (i := 3) [(3, .long (lN (rch (s 3) (s 4) 0 ((s 0) - k_) (s 1 + k_) (s 2)))), (2, .int (nI k_)), (8, .long (lN (rch (s 3) (s 4) 0 (s 0 + k_) (s 1 - k_) (s 2)))), (7, .int (-(nI k_))), (6, .int (nI 1)), (0, .ref mq), (1, .int (nI wt)), (5, .int (nI k_))] dX5_over_151 rfl (by decide) rfl ?_
                  refine z_iinc X (pc := 152) (i := 6) 4 (nI 2) [(6, .int (nI 2)), (3, .long (lN (rch (s 3) (s 4) 0 ((s 0) - k_) (s 1 + k_) (s 2)))), (2, .int (nI k_)), (8, .long (lN (rch (s 3) (s 4) 0 (s 0 + k_) (s 1 - k_) (s 2)))), (7, .int (-(nI k_))), (0, .ref mq), (1, .int (nI wt)), (5, .int (nI k_))] dX5_over_152 rfl (nI_incc 1 1) (by decide) rfl ?_
                  refine z_goto X (pc := 155) 43 dX5_over_155 (by decide) ?_
                  refine z_iload X (pc := 43) 0 dX5_over_43 rfl ?_
                  refine z_iconst X (pc := 45) (nI 2) dX5_over_45 (by decide) ?_
                  refine z_icmp_geN X (pc := 46) 158 (by omega) (by omega) dX5_over_46 (by decide) (fun c_46 => ?_) (fun c_46 => absurd c_46 (by decide))
                  refine z_iinc X (pc := 158) (i := 5) 7 (nI (k_ + 1)) [(5, .int (nI (k_ + 1))), (6, .int (nI 2)), (3, .long (lN (rch (s 3) (s 4) 0 ((s 0) - k_) (s 1 + k_) (s 2)))), (2, .int (nI k_)), (8, .long (lN (rch (s 3) (s 4) 0 (s 0 + k_) (s 1 - k_) (s 2)))), (7, .int (-(nI k_))), (0, .ref mq), (1, .int (nI wt))] dX5_over_158 rfl (nI_incc k_ 1) (by decide) rfl ?_
                  refine z_goto X (pc := 161) 33 dX5_over_161 (by decide) ?_
                  refine z_lv [6, 7, 3, 2, 0] (lv2 := [(0, .ref mq), (1, .int (nI wt)), (2, .int (nI k_)), (3, .long (lN (rch (s 3) (s 4) 0 ((s 0) - k_) (s 1 + k_) (s 2)))), (5, .int (nI (k_ + 1)))]) rfl ?_
                  exact ih_33 (k_ + 1) (nI k_) (ovr s (s 0 - k_) (s 1 + k_)) FS_55 F1_56 F2_57 F3_58 F4_59 (by omega) (by omega) (by rw [show k_ + 1 - 1 = (k_ - 1) + 1 by omega, ov_s, ← hov, show k_ - 1 + 1 = k_ by omega]; unfold ovA; rw [if_pos ⟨hcaA, hcA⟩]; unfold ovB; rw [if_neg (fun z => hcB z.2)])
                · skip
                  refine z_iload X (pc := 131) 1 dX5_over_131 rfl ?_
                  refine z_goto X (pc := 133) 137 dX5_over_133 (by decide) ?_
                  refine z_istore_n X (pc := 137) (i := 2) [(2, .int (-(nI k_))), (8, .long (lN (rch (s 3) (s 4) 0 (s 0 + k_) (s 1 - k_) (s 2)))), (7, .int (-(nI k_))), (6, .int (nI 1)), (3, .long (lN (rch (s 3) (s 4) 0 ((s 0) - k_) (s 1 + k_) (s 2)))), (0, .ref mq), (1, .int (nI wt)), (5, .int (nI k_))] dX5_over_137 rfl (by decide) rfl ?_
                  have hcB := Nat.not_le.mp c_127
                  refine z_lload X (pc := 138) 1 dX5_over_138 rfl ?_
                  refine z_lload_n X (pc := 140) 4 dX5_over_140 rfl ?_
                  refine z_lcmp_leN X (pc := 141) 150 (Nat.lt_trans (rch_lt _ _ _ _ _ _) (by decide)) (by first | omega | exact Nat.lt_trans (rch_lt _ _ _ _ _ _) (by decide)) dX5_over_141 dX5_over_142 (by decide) (fun c_141 => absurd c_141 (by omega)) (fun c_141 => ?_)
                  refine z_lload X (pc := 145) 1 dX5_over_145 rfl ?_
                  refine z_goto X (pc := 147) 151 dX5_over_147 (by decide) ?_
                  refine z_lstore_n X (pc := 151) (i := 3) [(3, .long (lN (rch (s 3) (s 4) 0 (s 0 + k_) (s 1 - k_) (s 2)))), (2, .int (-(nI k_))), (8, .long (lN (rch (s 3) (s 4) 0 (s 0 + k_) (s 1 - k_) (s 2)))), (7, .int (-(nI k_))), (6, .int (nI 1)), (0, .ref mq), (1, .int (nI wt)), (5, .int (nI k_))] dX5_over_151 rfl (by decide) rfl ?_
                  refine z_iinc X (pc := 152) (i := 6) 4 (nI 2) [(6, .int (nI 2)), (3, .long (lN (rch (s 3) (s 4) 0 (s 0 + k_) (s 1 - k_) (s 2)))), (2, .int (-(nI k_))), (8, .long (lN (rch (s 3) (s 4) 0 (s 0 + k_) (s 1 - k_) (s 2)))), (7, .int (-(nI k_))), (0, .ref mq), (1, .int (nI wt)), (5, .int (nI k_))] dX5_over_152 rfl (nI_incc 1 1) (by decide) rfl ?_
                  refine z_goto X (pc := 155) 43 dX5_over_155 (by decide) ?_
                  refine z_iload X (pc := 43) 0 dX5_over_43 rfl ?_
                  refine z_iconst X (pc := 45) (nI 2) dX5_over_45 (by decide) ?_
                  refine z_icmp_geN X (pc := 46) 158 (by omega) (by omega) dX5_over_46 (by decide) (fun c_46 => ?_) (fun c_46 => absurd c_46 (by decide))
                  refine z_iinc X (pc := 158) (i := 5) 7 (nI (k_ + 1)) [(5, .int (nI (k_ + 1))), (6, .int (nI 2)), (3, .long (lN (rch (s 3) (s 4) 0 (s 0 + k_) (s 1 - k_) (s 2)))), (2, .int (-(nI k_))), (8, .long (lN (rch (s 3) (s 4) 0 (s 0 + k_) (s 1 - k_) (s 2)))), (7, .int (-(nI k_))), (0, .ref mq), (1, .int (nI wt))] dX5_over_158 rfl (nI_incc k_ 1) (by decide) rfl ?_
                  refine z_goto X (pc := 161) 33 dX5_over_161 (by decide) ?_
                  refine z_lv [6, 7, 3, 2, 0] (lv2 := [(0, .ref mq), (1, .int (nI wt)), (2, .int (-(nI k_))), (3, .long (lN (rch (s 3) (s 4) 0 (s 0 + k_) (s 1 - k_) (s 2)))), (5, .int (nI (k_ + 1)))]) rfl ?_
                  exact ih_33 (k_ + 1) (-(nI k_)) (ovr s (s 0 + k_) (s 1 - k_)) FS_55 F1_56 F2_57 F3_58 F4_59 (by omega) (by omega) (by rw [show k_ + 1 - 1 = (k_ - 1) + 1 by omega, ov_s, ← hov, show k_ - 1 + 1 = k_ by omega]; unfold ovA; rw [if_pos ⟨hcaA, hcA⟩]; unfold ovB; rw [if_pos ⟨hcaB, hcB⟩])
              · skip
                refine z_iload X (pc := 49) 0 dX5_over_49 rfl ?_
                refine z_if_neN X (pc := 51) 59 (by omega) dX5_over_51 (by decide) (fun c_51 => ?_) (fun c_51 => absurd c_51 (by decide))
                refine z_iload X (pc := 59) 7 dX5_over_59 rfl ?_
                refine z_ineg X (pc := 61) (v := (-(nI k_))) dX5_over_61 rfl ?_
                refine z_istore X (pc := 62) (i := 7) [(7, .int (-(nI k_))), (6, .int (nI 1)), (3, .long (lN (rch (s 3) (s 4) 0 ((s 0) - k_) (s 1 + k_) (s 2)))), (2, .int (nI k_)), (8, .long (lN (rch (s 3) (s 4) 0 ((s 0) - k_) (s 1 + k_) (s 2)))), (0, .ref mq), (1, .int (nI wt)), (5, .int (nI k_))] dX5_over_62 trivial (by decide) rfl ?_
                refine z_aload_n X (pc := 64) 5 dX5_over_64 rfl ?_
                refine z_get X (pc := 65) 0 3 (.ref mS) tu_5 tw_562 dX5_over_65 rfl rfl (by decide) rfl rfl ?_
                refine z_iconst X (pc := 68) (nI 0) dX5_over_68 (by decide) ?_
                refine z_iald X (pc := 69) 1 0 (nI (s 0)) dX5_over_69 rfl rfl (Nat.le_of_ble_eq_true rfl) (by decide) rfl ?_
                refine z_iload X (pc := 70) 0 dX5_over_70 rfl ?_
                refine z_isub X (pc := 72) (v := ((nI (s 0)) - (-(nI k_)))) dX5_over_72 rfl ?_
                refine z_topi (nI (s 0 + k_)) (i32_sub_neg _ _) ?_
                refine z_iconst X (pc := 73) (nI 0) dX5_over_73 (by decide) ?_
                refine z_bipush X (pc := 74) (nI 10) dX5_over_74 (by decide) ?_
                refine zc_S (as := [.int (nI (s 0 + k_)), .int (nI 0), .int (nI 10)]) X (pc := 76) (c_X5_inN lq D t (s 0 + k_) 0 10 (by omega) (by decide) (by decide)) tw_615 tw_617 tw_7 tw_616 [] rfl rfl dX5_over_76 rfl zdX5_in ⟨rfl, rfl, Nat.le_of_ble_eq_true rfl, Nat.le_of_ble_eq_true rfl⟩ (Nat.le_of_ble_eq_true rfl) (Nat.zero_le _) (Nat.zero_le _) (fun v_60 w_61 hp_62 => ?_)
                obtain ⟨rfl, rfl⟩ := hp_62
                refine ⟨rfl, ?_⟩
                refine z_eq (ws2 := [eX5 mq mT (nI ty) mD mS (nI ev) mP (nI kn) mI (nI kp) mE (nI sg) at_ mH mX mR mO FS_21, eI t mS 5 (nf s), eL t mH 363 F1_22, eL t mX 363 F2_23, eL t mR 11 F3_24, eL t mO 22 F4_25]) (st2 := [.int (zb (0 ≤ (s 0 + k_) ∧ (s 0 + k_) ≤ 10))]) rfl rfl rfl ?_
                refine z_if_eqB X (pc := 79) 152 dX5_over_79 (by decide) (fun c_79 => ?_) (fun c_79 => ?_)
                · skip
                  refine z_iinc X (pc := 152) (i := 6) 1 (nI 2) [(6, .int (nI 2)), (7, .int (-(nI k_))), (3, .long (lN (rch (s 3) (s 4) 0 ((s 0) - k_) (s 1 + k_) (s 2)))), (2, .int (nI k_)), (8, .long (lN (rch (s 3) (s 4) 0 ((s 0) - k_) (s 1 + k_) (s 2)))), (0, .ref mq), (1, .int (nI wt)), (5, .int (nI k_))] dX5_over_152 rfl (nI_incc 1 1) (by decide) rfl ?_
                  refine z_goto X (pc := 155) 43 dX5_over_155 (by decide) ?_
                  refine z_iload X (pc := 43) 0 dX5_over_43 rfl ?_
                  refine z_iconst X (pc := 45) (nI 2) dX5_over_45 (by decide) ?_
                  refine z_icmp_geN X (pc := 46) 158 (by omega) (by omega) dX5_over_46 (by decide) (fun c_46 => ?_) (fun c_46 => absurd c_46 (by decide))
                  refine z_iinc X (pc := 158) (i := 5) 7 (nI (k_ + 1)) [(5, .int (nI (k_ + 1))), (6, .int (nI 2)), (7, .int (-(nI k_))), (3, .long (lN (rch (s 3) (s 4) 0 ((s 0) - k_) (s 1 + k_) (s 2)))), (2, .int (nI k_)), (8, .long (lN (rch (s 3) (s 4) 0 ((s 0) - k_) (s 1 + k_) (s 2)))), (0, .ref mq), (1, .int (nI wt))] dX5_over_158 rfl (nI_incc k_ 1) (by decide) rfl ?_
                  refine z_goto X (pc := 161) 33 dX5_over_161 (by decide) ?_
                  refine z_lv [6, 7, 4, 3, 0] (lv2 := [(0, .ref mq), (1, .int (nI wt)), (2, .int (nI k_)), (3, .long (lN (rch (s 3) (s 4) 0 ((s 0) - k_) (s 1 + k_) (s 2)))), (5, .int (nI (k_ + 1)))]) rfl ?_
                  exact ih_33 (k_ + 1) (nI k_) (ovr s (s 0 - k_) (s 1 + k_)) FS_21 F1_22 F2_23 F3_24 F4_25 (by omega) (by omega) (by rw [show k_ + 1 - 1 = (k_ - 1) + 1 by omega, ov_s, ← hov, show k_ - 1 + 1 = k_ by omega]; unfold ovA; rw [if_pos ⟨hcaA, hcA⟩]; unfold ovB; rw [if_neg (fun z => hcaB z.1)])
                · skip
                  refine z_aload_n X (pc := 82) 5 dX5_over_82 rfl ?_
                  refine z_get X (pc := 83) 0 3 (.ref mS) tu_5 tw_562 dX5_over_83 rfl rfl (by decide) rfl rfl ?_
                  refine z_iconst X (pc := 86) (nI 1) dX5_over_86 (by decide) ?_
                  refine z_iald X (pc := 87) 1 1 (nI (s 1)) dX5_over_87 rfl rfl (Nat.le_of_ble_eq_true rfl) (by decide) rfl ?_
                  refine z_iload X (pc := 88) 0 dX5_over_88 rfl ?_
                  refine z_iadd X (pc := 90) (v := ((nI (s 1)) + (-(nI k_)))) dX5_over_90 rfl ?_
                  refine z_topi (nI (s 1) - nI k_) (i32_add_neg _ _) ?_
                  refine z_iconst X (pc := 91) (nI 0) dX5_over_91 (by decide) ?_
                  refine z_bipush X (pc := 92) (nI 10) dX5_over_92 (by decide) ?_
                  refine zc_S (as := [.int (nI (s 1) - nI k_), .int (nI 0), .int (nI 10)]) X (pc := 94) (c_X5_in lq D t (nI (s 1) - nI k_) (nI 0) (nI 10) ) tw_615 tw_617 tw_7 tw_616 [] rfl rfl dX5_over_94 rfl zdX5_in ⟨rfl, rfl, Nat.le_of_ble_eq_true rfl, Nat.le_of_ble_eq_true rfl⟩ (Nat.le_of_ble_eq_true rfl) (Nat.zero_le _) (Nat.zero_le _) (fun v_63 w_64 hp_65 => ?_)
                  obtain ⟨rfl, rfl⟩ := hp_65
                  refine ⟨rfl, ?_⟩
                  refine z_eq (ws2 := [eX5 mq mT (nI ty) mD mS (nI ev) mP (nI kn) mI (nI kp) mE (nI sg) at_ mH mX mR mO FS_21, eI t mS 5 (nf s), eL t mH 363 F1_22, eL t mX 363 F2_23, eL t mR 11 F3_24, eL t mO 22 F4_25]) (st2 := [.int (zb ((nI 0) ≤ (nI (s 1) - nI k_) ∧ (nI (s 1) - nI k_) ≤ (nI 10)))]) rfl rfl rfl ?_
                  refine z_if_eqB X (pc := 97) 152 dX5_over_97 (by decide) (fun c_97 => ?_) (fun c_97 => absurd c_97 (fun z => ov_raw2 hs0 hs1 (by omega) hcaB ⟨⟨(nI_leI (by decide) (by omega)).mpr (by omega), (nI_leI (by omega) (by decide)).mpr c_79.2⟩, z⟩))
                  refine z_iinc X (pc := 152) (i := 6) 1 (nI 2) [(6, .int (nI 2)), (7, .int (-(nI k_))), (3, .long (lN (rch (s 3) (s 4) 0 ((s 0) - k_) (s 1 + k_) (s 2)))), (2, .int (nI k_)), (8, .long (lN (rch (s 3) (s 4) 0 ((s 0) - k_) (s 1 + k_) (s 2)))), (0, .ref mq), (1, .int (nI wt)), (5, .int (nI k_))] dX5_over_152 rfl (nI_incc 1 1) (by decide) rfl ?_
                  refine z_goto X (pc := 155) 43 dX5_over_155 (by decide) ?_
                  refine z_iload X (pc := 43) 0 dX5_over_43 rfl ?_
                  refine z_iconst X (pc := 45) (nI 2) dX5_over_45 (by decide) ?_
                  refine z_icmp_geN X (pc := 46) 158 (by omega) (by omega) dX5_over_46 (by decide) (fun c_46 => ?_) (fun c_46 => absurd c_46 (by decide))
                  refine z_iinc X (pc := 158) (i := 5) 7 (nI (k_ + 1)) [(5, .int (nI (k_ + 1))), (6, .int (nI 2)), (7, .int (-(nI k_))), (3, .long (lN (rch (s 3) (s 4) 0 ((s 0) - k_) (s 1 + k_) (s 2)))), (2, .int (nI k_)), (8, .long (lN (rch (s 3) (s 4) 0 ((s 0) - k_) (s 1 + k_) (s 2)))), (0, .ref mq), (1, .int (nI wt))] dX5_over_158 rfl (nI_incc k_ 1) (by decide) rfl ?_
                  refine z_goto X (pc := 161) 33 dX5_over_161 (by decide) ?_
                  refine z_lv [6, 7, 4, 3, 0] (lv2 := [(0, .ref mq), (1, .int (nI wt)), (2, .int (nI k_)), (3, .long (lN (rch (s 3) (s 4) 0 ((s 0) - k_) (s 1 + k_) (s 2)))), (5, .int (nI (k_ + 1)))]) rfl ?_
                  exact ih_33 (k_ + 1) (nI k_) (ovr s (s 0 - k_) (s 1 + k_)) FS_21 F1_22 F2_23 F3_24 F4_25 (by omega) (by omega) (by rw [show k_ + 1 - 1 = (k_ - 1) + 1 by omega, ov_s, ← hov, show k_ - 1 + 1 = k_ by omega]; unfold ovA; rw [if_pos ⟨hcaA, hcA⟩]; unfold ovB; rw [if_neg (fun z => hcaB z.1)])
          · skip
            refine z_iload X (pc := 49) 0 dX5_over_49 rfl ?_
            refine z_if_neN X (pc := 51) 59 (by omega) dX5_over_51 (by decide) (fun c_51 => absurd c_51 (by decide)) (fun c_51 => ?_)
            refine z_iload X (pc := 54) 5 dX5_over_54 rfl ?_
            refine z_goto X (pc := 56) 62 dX5_over_56 (by decide) ?_
            refine z_istore X (pc := 62) (i := 7) [(7, .int (nI k_)), (6, .int (nI 0)), (0, .ref mq), (1, .int (nI wt)), (2, .int bs), (3, .long (lN mo)), (5, .int (nI k_))] dX5_over_62 trivial (by decide) rfl ?_
            refine z_aload_n X (pc := 64) 2 dX5_over_64 rfl ?_
            refine z_get X (pc := 65) 0 3 (.ref mS) tu_5 tw_562 dX5_over_65 rfl rfl (by decide) rfl rfl ?_
            refine z_iconst X (pc := 68) (nI 0) dX5_over_68 (by decide) ?_
            refine z_iald X (pc := 69) 1 0 (nI (s 0)) dX5_over_69 rfl rfl (Nat.le_of_ble_eq_true rfl) (by decide) rfl ?_
            refine z_iload X (pc := 70) 0 dX5_over_70 rfl ?_
            refine z_isub X (pc := 72) (v := ((nI (s 0)) - (nI k_))) dX5_over_72 rfl ?_
            refine z_iconst X (pc := 73) (nI 0) dX5_over_73 (by decide) ?_
            refine z_bipush X (pc := 74) (nI 10) dX5_over_74 (by decide) ?_
            refine zc_S (as := [.int ((nI (s 0)) - (nI k_)), .int (nI 0), .int (nI 10)]) X (pc := 76) (c_X5_in lq D t ((nI (s 0)) - (nI k_)) (nI 0) (nI 10) ) tw_615 tw_617 tw_7 tw_616 [] rfl rfl dX5_over_76 rfl zdX5_in ⟨rfl, rfl, Nat.le_of_ble_eq_true rfl, Nat.le_of_ble_eq_true rfl⟩ (Nat.le_of_ble_eq_true rfl) (Nat.zero_le _) (Nat.zero_le _) (fun v_66 w_67 hp_68 => ?_)
            obtain ⟨rfl, rfl⟩ := hp_68
            refine ⟨rfl, ?_⟩
            refine z_eq (ws2 := [eX5 mq mT (nI ty) mD mS (nI ev) mP (nI kn) mI (nI kp) mE (nI sg) at_ mH mX mR mO fs, eI t mS 5 (nf s), eL t mH 363 f1, eL t mX 363 f2, eL t mR 11 f3, eL t mO 22 f4]) (st2 := [.int (zb ((nI 0) ≤ ((nI (s 0)) - (nI k_)) ∧ ((nI (s 0)) - (nI k_)) ≤ (nI 10)))]) rfl rfl rfl ?_
            refine z_if_eqB X (pc := 79) 152 dX5_over_79 (by decide) (fun c_79 => ?_) (fun c_79 => ?_)
            · skip
              refine z_iinc X (pc := 152) (i := 6) 1 (nI 1) [(6, .int (nI 1)), (7, .int (nI k_)), (0, .ref mq), (1, .int (nI wt)), (2, .int bs), (3, .long (lN mo)), (5, .int (nI k_))] dX5_over_152 rfl (nI_incc 0 1) (by decide) rfl ?_
              refine z_goto X (pc := 155) 43 dX5_over_155 (by decide) ?_
              refine z_iload X (pc := 43) 0 dX5_over_43 rfl ?_
              refine z_iconst X (pc := 45) (nI 2) dX5_over_45 (by decide) ?_
              refine z_icmp_geN X (pc := 46) 158 (by omega) (by omega) dX5_over_46 (by decide) (fun c_46 => absurd c_46 (by decide)) (fun c_46 => ?_)
              by_cases hcaB : k_ ≤ s 1 ∧ s 0 + k_ ≤ 10
              · skip
                refine z_iload X (pc := 49) 0 dX5_over_49 rfl ?_
                refine z_if_neN X (pc := 51) 59 (by omega) dX5_over_51 (by decide) (fun c_51 => ?_) (fun c_51 => absurd c_51 (by decide))
                refine z_iload X (pc := 59) 6 dX5_over_59 rfl ?_
                refine z_ineg X (pc := 61) (v := (-(nI k_))) dX5_over_61 rfl ?_
                refine z_istore X (pc := 62) (i := 7) [(7, .int (-(nI k_))), (6, .int (nI 1)), (0, .ref mq), (1, .int (nI wt)), (2, .int bs), (3, .long (lN mo)), (5, .int (nI k_))] dX5_over_62 trivial (by decide) rfl ?_
                refine z_aload_n X (pc := 64) 2 dX5_over_64 rfl ?_
                refine z_get X (pc := 65) 0 3 (.ref mS) tu_5 tw_562 dX5_over_65 rfl rfl (by decide) rfl rfl ?_
                refine z_iconst X (pc := 68) (nI 0) dX5_over_68 (by decide) ?_
                refine z_iald X (pc := 69) 1 0 (nI (s 0)) dX5_over_69 rfl rfl (Nat.le_of_ble_eq_true rfl) (by decide) rfl ?_
                refine z_iload X (pc := 70) 0 dX5_over_70 rfl ?_
                refine z_isub X (pc := 72) (v := ((nI (s 0)) - (-(nI k_)))) dX5_over_72 rfl ?_
                refine z_topi (nI (s 0 + k_)) (i32_sub_neg _ _) ?_
                refine z_iconst X (pc := 73) (nI 0) dX5_over_73 (by decide) ?_
                refine z_bipush X (pc := 74) (nI 10) dX5_over_74 (by decide) ?_
                refine zc_S (as := [.int (nI (s 0 + k_)), .int (nI 0), .int (nI 10)]) X (pc := 76) (c_X5_inN lq D t (s 0 + k_) 0 10 (by omega) (by decide) (by decide)) tw_615 tw_617 tw_7 tw_616 [] rfl rfl dX5_over_76 rfl zdX5_in ⟨rfl, rfl, Nat.le_of_ble_eq_true rfl, Nat.le_of_ble_eq_true rfl⟩ (Nat.le_of_ble_eq_true rfl) (Nat.zero_le _) (Nat.zero_le _) (fun v_69 w_70 hp_71 => ?_)
                obtain ⟨rfl, rfl⟩ := hp_71
                refine ⟨rfl, ?_⟩
                refine z_eq (ws2 := [eX5 mq mT (nI ty) mD mS (nI ev) mP (nI kn) mI (nI kp) mE (nI sg) at_ mH mX mR mO fs, eI t mS 5 (nf s), eL t mH 363 f1, eL t mX 363 f2, eL t mR 11 f3, eL t mO 22 f4]) (st2 := [.int (zb (0 ≤ (s 0 + k_) ∧ (s 0 + k_) ≤ 10))]) rfl rfl rfl ?_
                refine z_if_eqB X (pc := 79) 152 dX5_over_79 (by decide) (fun c_79 => absurd c_79 (by omega)) (fun c_79 => ?_)
                refine z_aload_n X (pc := 82) 2 dX5_over_82 rfl ?_
                refine z_get X (pc := 83) 0 3 (.ref mS) tu_5 tw_562 dX5_over_83 rfl rfl (by decide) rfl rfl ?_
                refine z_iconst X (pc := 86) (nI 1) dX5_over_86 (by decide) ?_
                refine z_iald X (pc := 87) 1 1 (nI (s 1)) dX5_over_87 rfl rfl (Nat.le_of_ble_eq_true rfl) (by decide) rfl ?_
                refine z_iload X (pc := 88) 0 dX5_over_88 rfl ?_
                refine z_iadd X (pc := 90) (v := ((nI (s 1)) + (-(nI k_)))) dX5_over_90 rfl ?_
                refine z_topi (nI (s 1 - k_)) (by rw [i32_add_neg, pk_sub (by omega)]) ?_
                refine z_iconst X (pc := 91) (nI 0) dX5_over_91 (by decide) ?_
                refine z_bipush X (pc := 92) (nI 10) dX5_over_92 (by decide) ?_
                refine zc_S (as := [.int (nI (s 1 - k_)), .int (nI 0), .int (nI 10)]) X (pc := 94) (c_X5_inN lq D t (s 1 - k_) 0 10 (by omega) (by decide) (by decide)) tw_615 tw_617 tw_7 tw_616 [] rfl rfl dX5_over_94 rfl zdX5_in ⟨rfl, rfl, Nat.le_of_ble_eq_true rfl, Nat.le_of_ble_eq_true rfl⟩ (Nat.le_of_ble_eq_true rfl) (Nat.zero_le _) (Nat.zero_le _) (fun v_72 w_73 hp_74 => ?_)
                obtain ⟨rfl, rfl⟩ := hp_74
                refine ⟨rfl, ?_⟩
                refine z_eq (ws2 := [eX5 mq mT (nI ty) mD mS (nI ev) mP (nI kn) mI (nI kp) mE (nI sg) at_ mH mX mR mO fs, eI t mS 5 (nf s), eL t mH 363 f1, eL t mX 363 f2, eL t mR 11 f3, eL t mO 22 f4]) (st2 := [.int (zb (0 ≤ (s 1 - k_) ∧ (s 1 - k_) ≤ 10))]) rfl rfl rfl ?_
                refine z_if_eqB X (pc := 97) 152 dX5_over_97 (by decide) (fun c_97 => absurd c_97 (by omega)) (fun c_97 => ?_)
                refine z_aload_n X (pc := 100) 2 dX5_over_100 rfl ?_
                refine z_aload_n X (pc := 101) 2 dX5_over_101 rfl ?_
                refine z_get X (pc := 102) 0 3 (.ref mS) tu_5 tw_562 dX5_over_102 rfl rfl (by decide) rfl rfl ?_
                refine z_iconst X (pc := 105) (nI 0) dX5_over_105 (by decide) ?_
                refine z_iald X (pc := 106) 1 0 (nI (s 0)) dX5_over_106 rfl rfl (Nat.le_of_ble_eq_true rfl) (by decide) rfl ?_
                refine z_iload X (pc := 107) 0 dX5_over_107 rfl ?_
                refine z_isub X (pc := 109) (v := ((nI (s 0)) - (-(nI k_)))) dX5_over_109 rfl ?_
                refine z_topi (nI (s 0 + k_)) (i32_sub_neg _ _) ?_
                refine z_aload_n X (pc := 110) 2 dX5_over_110 rfl ?_
                refine z_get X (pc := 111) 0 3 (.ref mS) tu_5 tw_562 dX5_over_111 rfl rfl (by decide) rfl rfl ?_
                refine z_iconst X (pc := 114) (nI 1) dX5_over_114 (by decide) ?_
                refine z_iald X (pc := 115) 1 1 (nI (s 1)) dX5_over_115 rfl rfl (Nat.le_of_ble_eq_true rfl) (by decide) rfl ?_
                refine z_iload X (pc := 116) 0 dX5_over_116 rfl ?_
                refine z_iadd X (pc := 118) (v := ((nI (s 1)) + (-(nI k_)))) dX5_over_118 rfl ?_
                refine z_topi (nI (s 1 - k_)) (by rw [i32_add_neg, pk_sub (by omega)]) ?_
                refine zc_V (as := [.int (nI (s 0 + k_)), .int (nI (s 1 - k_))]) X (pc := 119) (c_X5_reachesFrom lq D t mq mT mD mS mP mI mE mH mX mR mO ty ev kn kp sg at_ fs s f1 f2 f3 f4 (s 0 + k_) (s 1 - k_) hsk (by omega) (by omega)) tw_757 tw_760 tw_7 tw_759 tw_1037 0 5 rfl rfl [0, 1, 2, 3, 4, 5] rfl rfl dX5_over_119 rfl zdX5_reachesFrom ⟨rfl, rfl, Nat.le_of_ble_eq_true rfl, Nat.le_of_ble_eq_true rfl⟩ (Nat.le_of_ble_eq_true rfl) (Nat.zero_le _) (Nat.zero_le _) (fun v_75 w_76 hp_77 => ?_)
                obtain ⟨FS_78, F1_79, F2_80, F3_81, F4_82, rfl, rfl⟩ := hp_77
                refine ⟨rfl, ?_⟩
                refine z_eq (ws2 := [eX5 mq mT (nI ty) mD mS (nI ev) mP (nI kn) mI (nI kp) mE (nI sg) at_ mH mX mR mO FS_78, eI t mS 5 (nf s), eL t mH 363 F1_79, eL t mX 363 F2_80, eL t mR 11 F3_81, eL t mO 22 F4_82]) (st2 := [.long (lN (rch (s 3) (s 4) 0 (s 0 + k_) (s 1 - k_) (s 2)))]) rfl rfl rfl ?_
                refine z_lstore X (pc := 122) (i := 8) [(8, .long (lN (rch (s 3) (s 4) 0 (s 0 + k_) (s 1 - k_) (s 2)))), (7, .int (-(nI k_))), (6, .int (nI 1)), (0, .ref mq), (1, .int (nI wt)), (2, .int bs), (3, .long (lN mo)), (5, .int (nI k_))] dX5_over_122 trivial (by decide) rfl ?_
                refine z_lload X (pc := 124) 0 dX5_over_124 rfl ?_
                refine z_lload_n X (pc := 126) 6 dX5_over_126 rfl ?_
                refine z_lcmp_leN X (pc := 127) 136 (Nat.lt_trans (rch_lt _ _ _ _ _ _) (by decide)) (by first | omega | exact Nat.lt_trans (rch_lt _ _ _ _ _ _) (by decide)) dX5_over_127 dX5_over_128 (by decide) (fun c_127 => ?_) (fun c_127 => ?_)
                · skip
                  refine z_iload_n X (pc := 136) 5 dX5_over_136 rfl ?_
                  refine z_istore_n X (pc := 137) (i := 2) [(2, .int bs), (8, .long (lN (rch (s 3) (s 4) 0 (s 0 + k_) (s 1 - k_) (s 2)))), (7, .int (-(nI k_))), (6, .int (nI 1)), (0, .ref mq), (1, .int (nI wt)), (3, .long (lN mo)), (5, .int (nI k_))] dX5_over_137 rfl (by decide) rfl ?_
                  have hcB := Nat.not_lt.mpr c_127
                  refine z_lload X (pc := 138) 1 dX5_over_138 rfl ?_
                  refine z_lload_n X (pc := 140) 6 dX5_over_140 rfl ?_
                  refine z_lcmp_leN X (pc := 141) 150 (Nat.lt_trans (rch_lt _ _ _ _ _ _) (by decide)) (by first | omega | exact Nat.lt_trans (rch_lt _ _ _ _ _ _) (by decide)) dX5_over_141 dX5_over_142 (by decide) (fun c_141 => ?_) (fun c_141 => absurd c_141 (by omega))
                  refine z_lload_n X (pc := 150) 6 dX5_over_150 rfl ?_
                  refine z_lstore_n X (pc := 151) (i := 3) [(3, .long (lN mo)), (2, .int bs), (8, .long (lN (rch (s 3) (s 4) 0 (s 0 + k_) (s 1 - k_) (s 2)))), (7, .int (-(nI k_))), (6, .int (nI 1)), (0, .ref mq), (1, .int (nI wt)), (5, .int (nI k_))] dX5_over_151 rfl (by decide) rfl ?_
                  refine z_iinc X (pc := 152) (i := 6) 4 (nI 2) [(6, .int (nI 2)), (3, .long (lN mo)), (2, .int bs), (8, .long (lN (rch (s 3) (s 4) 0 (s 0 + k_) (s 1 - k_) (s 2)))), (7, .int (-(nI k_))), (0, .ref mq), (1, .int (nI wt)), (5, .int (nI k_))] dX5_over_152 rfl (nI_incc 1 1) (by decide) rfl ?_
                  refine z_goto X (pc := 155) 43 dX5_over_155 (by decide) ?_
                  refine z_iload X (pc := 43) 0 dX5_over_43 rfl ?_
                  refine z_iconst X (pc := 45) (nI 2) dX5_over_45 (by decide) ?_
                  refine z_icmp_geN X (pc := 46) 158 (by omega) (by omega) dX5_over_46 (by decide) (fun c_46 => ?_) (fun c_46 => absurd c_46 (by decide))
                  refine z_iinc X (pc := 158) (i := 5) 7 (nI (k_ + 1)) [(5, .int (nI (k_ + 1))), (6, .int (nI 2)), (3, .long (lN mo)), (2, .int bs), (8, .long (lN (rch (s 3) (s 4) 0 (s 0 + k_) (s 1 - k_) (s 2)))), (7, .int (-(nI k_))), (0, .ref mq), (1, .int (nI wt))] dX5_over_158 rfl (nI_incc k_ 1) (by decide) rfl ?_
                  refine z_goto X (pc := 161) 33 dX5_over_161 (by decide) ?_
                  refine z_lv [6, 7, 3, 2, 0] (lv2 := [(0, .ref mq), (1, .int (nI wt)), (2, .int bs), (3, .long (lN mo)), (5, .int (nI (k_ + 1)))]) rfl ?_
                  exact ih_33 (k_ + 1) bs mo FS_78 F1_79 F2_80 F3_81 F4_82 (by omega) (by omega) (by rw [show k_ + 1 - 1 = (k_ - 1) + 1 by omega, ov_s, ← hov, show k_ - 1 + 1 = k_ by omega]; unfold ovA; rw [if_neg (fun z => hcaA z.1)]; unfold ovB; rw [if_neg (fun z => hcB z.2)])
                · skip
                  refine z_iload X (pc := 131) 1 dX5_over_131 rfl ?_
                  refine z_goto X (pc := 133) 137 dX5_over_133 (by decide) ?_
                  refine z_istore_n X (pc := 137) (i := 2) [(2, .int (-(nI k_))), (8, .long (lN (rch (s 3) (s 4) 0 (s 0 + k_) (s 1 - k_) (s 2)))), (7, .int (-(nI k_))), (6, .int (nI 1)), (0, .ref mq), (1, .int (nI wt)), (3, .long (lN mo)), (5, .int (nI k_))] dX5_over_137 rfl (by decide) rfl ?_
                  have hcB := Nat.not_le.mp c_127
                  refine z_lload X (pc := 138) 1 dX5_over_138 rfl ?_
                  refine z_lload_n X (pc := 140) 6 dX5_over_140 rfl ?_
                  refine z_lcmp_leN X (pc := 141) 150 (Nat.lt_trans (rch_lt _ _ _ _ _ _) (by decide)) (by first | omega | exact Nat.lt_trans (rch_lt _ _ _ _ _ _) (by decide)) dX5_over_141 dX5_over_142 (by decide) (fun c_141 => absurd c_141 (by omega)) (fun c_141 => ?_)
                  refine z_lload X (pc := 145) 1 dX5_over_145 rfl ?_
                  refine z_goto X (pc := 147) 151 dX5_over_147 (by decide) ?_
                  refine z_lstore_n X (pc := 151) (i := 3) [(3, .long (lN (rch (s 3) (s 4) 0 (s 0 + k_) (s 1 - k_) (s 2)))), (2, .int (-(nI k_))), (8, .long (lN (rch (s 3) (s 4) 0 (s 0 + k_) (s 1 - k_) (s 2)))), (7, .int (-(nI k_))), (6, .int (nI 1)), (0, .ref mq), (1, .int (nI wt)), (5, .int (nI k_))] dX5_over_151 rfl (by decide) rfl ?_
                  refine z_iinc X (pc := 152) (i := 6) 4 (nI 2) [(6, .int (nI 2)), (3, .long (lN (rch (s 3) (s 4) 0 (s 0 + k_) (s 1 - k_) (s 2)))), (2, .int (-(nI k_))), (8, .long (lN (rch (s 3) (s 4) 0 (s 0 + k_) (s 1 - k_) (s 2)))), (7, .int (-(nI k_))), (0, .ref mq), (1, .int (nI wt)), (5, .int (nI k_))] dX5_over_152 rfl (nI_incc 1 1) (by decide) rfl ?_
                  refine z_goto X (pc := 155) 43 dX5_over_155 (by decide) ?_
                  refine z_iload X (pc := 43) 0 dX5_over_43 rfl ?_
                  refine z_iconst X (pc := 45) (nI 2) dX5_over_45 (by decide) ?_
                  refine z_icmp_geN X (pc := 46) 158 (by omega) (by omega) dX5_over_46 (by decide) (fun c_46 => ?_) (fun c_46 => absurd c_46 (by decide))
                  refine z_iinc X (pc := 158) (i := 5) 7 (nI (k_ + 1)) [(5, .int (nI (k_ + 1))), (6, .int (nI 2)), (3, .long (lN (rch (s 3) (s 4) 0 (s 0 + k_) (s 1 - k_) (s 2)))), (2, .int (-(nI k_))), (8, .long (lN (rch (s 3) (s 4) 0 (s 0 + k_) (s 1 - k_) (s 2)))), (7, .int (-(nI k_))), (0, .ref mq), (1, .int (nI wt))] dX5_over_158 rfl (nI_incc k_ 1) (by decide) rfl ?_
                  refine z_goto X (pc := 161) 33 dX5_over_161 (by decide) ?_
                  refine z_lv [6, 7, 3, 2, 0] (lv2 := [(0, .ref mq), (1, .int (nI wt)), (2, .int (-(nI k_))), (3, .long (lN (rch (s 3) (s 4) 0 (s 0 + k_) (s 1 - k_) (s 2)))), (5, .int (nI (k_ + 1)))]) rfl ?_
                  exact ih_33 (k_ + 1) (-(nI k_)) (ovr s (s 0 + k_) (s 1 - k_)) FS_78 F1_79 F2_80 F3_81 F4_82 (by omega) (by omega) (by rw [show k_ + 1 - 1 = (k_ - 1) + 1 by omega, ov_s, ← hov, show k_ - 1 + 1 = k_ by omega]; unfold ovA; rw [if_neg (fun z => hcaA z.1)]; unfold ovB; rw [if_pos ⟨hcaB, hcB⟩])
              · skip
                refine z_iload X (pc := 49) 0 dX5_over_49 rfl ?_
                refine z_if_neN X (pc := 51) 59 (by omega) dX5_over_51 (by decide) (fun c_51 => ?_) (fun c_51 => absurd c_51 (by decide))
                refine z_iload X (pc := 59) 6 dX5_over_59 rfl ?_
                refine z_ineg X (pc := 61) (v := (-(nI k_))) dX5_over_61 rfl ?_
                refine z_istore X (pc := 62) (i := 7) [(7, .int (-(nI k_))), (6, .int (nI 1)), (0, .ref mq), (1, .int (nI wt)), (2, .int bs), (3, .long (lN mo)), (5, .int (nI k_))] dX5_over_62 trivial (by decide) rfl ?_
                refine z_aload_n X (pc := 64) 2 dX5_over_64 rfl ?_
                refine z_get X (pc := 65) 0 3 (.ref mS) tu_5 tw_562 dX5_over_65 rfl rfl (by decide) rfl rfl ?_
                refine z_iconst X (pc := 68) (nI 0) dX5_over_68 (by decide) ?_
                refine z_iald X (pc := 69) 1 0 (nI (s 0)) dX5_over_69 rfl rfl (Nat.le_of_ble_eq_true rfl) (by decide) rfl ?_
                refine z_iload X (pc := 70) 0 dX5_over_70 rfl ?_
                refine z_isub X (pc := 72) (v := ((nI (s 0)) - (-(nI k_)))) dX5_over_72 rfl ?_
                refine z_topi (nI (s 0 + k_)) (i32_sub_neg _ _) ?_
                refine z_iconst X (pc := 73) (nI 0) dX5_over_73 (by decide) ?_
                refine z_bipush X (pc := 74) (nI 10) dX5_over_74 (by decide) ?_
                refine zc_S (as := [.int (nI (s 0 + k_)), .int (nI 0), .int (nI 10)]) X (pc := 76) (c_X5_inN lq D t (s 0 + k_) 0 10 (by omega) (by decide) (by decide)) tw_615 tw_617 tw_7 tw_616 [] rfl rfl dX5_over_76 rfl zdX5_in ⟨rfl, rfl, Nat.le_of_ble_eq_true rfl, Nat.le_of_ble_eq_true rfl⟩ (Nat.le_of_ble_eq_true rfl) (Nat.zero_le _) (Nat.zero_le _) (fun v_83 w_84 hp_85 => ?_)
                obtain ⟨rfl, rfl⟩ := hp_85
                refine ⟨rfl, ?_⟩
                refine z_eq (ws2 := [eX5 mq mT (nI ty) mD mS (nI ev) mP (nI kn) mI (nI kp) mE (nI sg) at_ mH mX mR mO fs, eI t mS 5 (nf s), eL t mH 363 f1, eL t mX 363 f2, eL t mR 11 f3, eL t mO 22 f4]) (st2 := [.int (zb (0 ≤ (s 0 + k_) ∧ (s 0 + k_) ≤ 10))]) rfl rfl rfl ?_
                refine z_if_eqB X (pc := 79) 152 dX5_over_79 (by decide) (fun c_79 => ?_) (fun c_79 => ?_)
                · skip
                  refine z_iinc X (pc := 152) (i := 6) 1 (nI 2) [(6, .int (nI 2)), (7, .int (-(nI k_))), (0, .ref mq), (1, .int (nI wt)), (2, .int bs), (3, .long (lN mo)), (5, .int (nI k_))] dX5_over_152 rfl (nI_incc 1 1) (by decide) rfl ?_
                  refine z_goto X (pc := 155) 43 dX5_over_155 (by decide) ?_
                  refine z_iload X (pc := 43) 0 dX5_over_43 rfl ?_
                  refine z_iconst X (pc := 45) (nI 2) dX5_over_45 (by decide) ?_
                  refine z_icmp_geN X (pc := 46) 158 (by omega) (by omega) dX5_over_46 (by decide) (fun c_46 => ?_) (fun c_46 => absurd c_46 (by decide))
                  refine z_iinc X (pc := 158) (i := 5) 6 (nI (k_ + 1)) [(5, .int (nI (k_ + 1))), (6, .int (nI 2)), (7, .int (-(nI k_))), (0, .ref mq), (1, .int (nI wt)), (2, .int bs), (3, .long (lN mo))] dX5_over_158 rfl (nI_incc k_ 1) (by decide) rfl ?_
                  refine z_goto X (pc := 161) 33 dX5_over_161 (by decide) ?_
                  refine z_lv [3, 4, 5, 6, 0] (lv2 := [(0, .ref mq), (1, .int (nI wt)), (2, .int bs), (3, .long (lN mo)), (5, .int (nI (k_ + 1)))]) rfl ?_
                  exact ih_33 (k_ + 1) bs mo fs f1 f2 f3 f4 (by omega) (by omega) (by rw [show k_ + 1 - 1 = (k_ - 1) + 1 by omega, ov_s, ← hov, show k_ - 1 + 1 = k_ by omega]; unfold ovA; rw [if_neg (fun z => hcaA z.1)]; unfold ovB; rw [if_neg (fun z => hcaB z.1)])
                · skip
                  refine z_aload_n X (pc := 82) 2 dX5_over_82 rfl ?_
                  refine z_get X (pc := 83) 0 3 (.ref mS) tu_5 tw_562 dX5_over_83 rfl rfl (by decide) rfl rfl ?_
                  refine z_iconst X (pc := 86) (nI 1) dX5_over_86 (by decide) ?_
                  refine z_iald X (pc := 87) 1 1 (nI (s 1)) dX5_over_87 rfl rfl (Nat.le_of_ble_eq_true rfl) (by decide) rfl ?_
                  refine z_iload X (pc := 88) 0 dX5_over_88 rfl ?_
                  refine z_iadd X (pc := 90) (v := ((nI (s 1)) + (-(nI k_)))) dX5_over_90 rfl ?_
                  refine z_topi (nI (s 1) - nI k_) (i32_add_neg _ _) ?_
                  refine z_iconst X (pc := 91) (nI 0) dX5_over_91 (by decide) ?_
                  refine z_bipush X (pc := 92) (nI 10) dX5_over_92 (by decide) ?_
                  refine zc_S (as := [.int (nI (s 1) - nI k_), .int (nI 0), .int (nI 10)]) X (pc := 94) (c_X5_in lq D t (nI (s 1) - nI k_) (nI 0) (nI 10) ) tw_615 tw_617 tw_7 tw_616 [] rfl rfl dX5_over_94 rfl zdX5_in ⟨rfl, rfl, Nat.le_of_ble_eq_true rfl, Nat.le_of_ble_eq_true rfl⟩ (Nat.le_of_ble_eq_true rfl) (Nat.zero_le _) (Nat.zero_le _) (fun v_86 w_87 hp_88 => ?_)
                  obtain ⟨rfl, rfl⟩ := hp_88
                  refine ⟨rfl, ?_⟩
                  refine z_eq (ws2 := [eX5 mq mT (nI ty) mD mS (nI ev) mP (nI kn) mI (nI kp) mE (nI sg) at_ mH mX mR mO fs, eI t mS 5 (nf s), eL t mH 363 f1, eL t mX 363 f2, eL t mR 11 f3, eL t mO 22 f4]) (st2 := [.int (zb ((nI 0) ≤ (nI (s 1) - nI k_) ∧ (nI (s 1) - nI k_) ≤ (nI 10)))]) rfl rfl rfl ?_
                  refine z_if_eqB X (pc := 97) 152 dX5_over_97 (by decide) (fun c_97 => ?_) (fun c_97 => absurd c_97 (fun z => ov_raw2 hs0 hs1 (by omega) hcaB ⟨⟨(nI_leI (by decide) (by omega)).mpr (by omega), (nI_leI (by omega) (by decide)).mpr c_79.2⟩, z⟩))
                  refine z_iinc X (pc := 152) (i := 6) 1 (nI 2) [(6, .int (nI 2)), (7, .int (-(nI k_))), (0, .ref mq), (1, .int (nI wt)), (2, .int bs), (3, .long (lN mo)), (5, .int (nI k_))] dX5_over_152 rfl (nI_incc 1 1) (by decide) rfl ?_
                  refine z_goto X (pc := 155) 43 dX5_over_155 (by decide) ?_
                  refine z_iload X (pc := 43) 0 dX5_over_43 rfl ?_
                  refine z_iconst X (pc := 45) (nI 2) dX5_over_45 (by decide) ?_
                  refine z_icmp_geN X (pc := 46) 158 (by omega) (by omega) dX5_over_46 (by decide) (fun c_46 => ?_) (fun c_46 => absurd c_46 (by decide))
                  refine z_iinc X (pc := 158) (i := 5) 6 (nI (k_ + 1)) [(5, .int (nI (k_ + 1))), (6, .int (nI 2)), (7, .int (-(nI k_))), (0, .ref mq), (1, .int (nI wt)), (2, .int bs), (3, .long (lN mo))] dX5_over_158 rfl (nI_incc k_ 1) (by decide) rfl ?_
                  refine z_goto X (pc := 161) 33 dX5_over_161 (by decide) ?_
                  refine z_lv [3, 4, 5, 6, 0] (lv2 := [(0, .ref mq), (1, .int (nI wt)), (2, .int bs), (3, .long (lN mo)), (5, .int (nI (k_ + 1)))]) rfl ?_
                  exact ih_33 (k_ + 1) bs mo fs f1 f2 f3 f4 (by omega) (by omega) (by rw [show k_ + 1 - 1 = (k_ - 1) + 1 by omega, ov_s, ← hov, show k_ - 1 + 1 = k_ by omega]; unfold ovA; rw [if_neg (fun z => hcaA z.1)]; unfold ovB; rw [if_neg (fun z => hcaB z.1)])
            · skip
              refine z_aload_n X (pc := 82) 2 dX5_over_82 rfl ?_
              refine z_get X (pc := 83) 0 3 (.ref mS) tu_5 tw_562 dX5_over_83 rfl rfl (by decide) rfl rfl ?_
              refine z_iconst X (pc := 86) (nI 1) dX5_over_86 (by decide) ?_
              refine z_iald X (pc := 87) 1 1 (nI (s 1)) dX5_over_87 rfl rfl (Nat.le_of_ble_eq_true rfl) (by decide) rfl ?_
              refine z_iload X (pc := 88) 0 dX5_over_88 rfl ?_
              refine z_iadd X (pc := 90) (v := (nI (s 1 + k_))) dX5_over_90 (nI_add (s 1) k_) ?_
              refine z_iconst X (pc := 91) (nI 0) dX5_over_91 (by decide) ?_
              refine z_bipush X (pc := 92) (nI 10) dX5_over_92 (by decide) ?_
              refine zc_S (as := [.int (nI (s 1 + k_)), .int (nI 0), .int (nI 10)]) X (pc := 94) (c_X5_inN lq D t (s 1 + k_) 0 10 (by omega) (by decide) (by decide)) tw_615 tw_617 tw_7 tw_616 [] rfl rfl dX5_over_94 rfl zdX5_in ⟨rfl, rfl, Nat.le_of_ble_eq_true rfl, Nat.le_of_ble_eq_true rfl⟩ (Nat.le_of_ble_eq_true rfl) (Nat.zero_le _) (Nat.zero_le _) (fun v_89 w_90 hp_91 => ?_)
              obtain ⟨rfl, rfl⟩ := hp_91
              refine ⟨rfl, ?_⟩
              refine z_eq (ws2 := [eX5 mq mT (nI ty) mD mS (nI ev) mP (nI kn) mI (nI kp) mE (nI sg) at_ mH mX mR mO fs, eI t mS 5 (nf s), eL t mH 363 f1, eL t mX 363 f2, eL t mR 11 f3, eL t mO 22 f4]) (st2 := [.int (zb (0 ≤ (s 1 + k_) ∧ (s 1 + k_) ≤ 10))]) rfl rfl rfl ?_
              refine z_if_eqB X (pc := 97) 152 dX5_over_97 (by decide) (fun c_97 => ?_) (fun c_97 => absurd c_97 (fun z => ov_raw hs0 hs1 (by omega) hcaA ⟨c_79, (nI_leI (by decide) (by omega)).mpr (by omega), (nI_leI (by omega) (by decide)).mpr z.2⟩))
              refine z_iinc X (pc := 152) (i := 6) 1 (nI 1) [(6, .int (nI 1)), (7, .int (nI k_)), (0, .ref mq), (1, .int (nI wt)), (2, .int bs), (3, .long (lN mo)), (5, .int (nI k_))] dX5_over_152 rfl (nI_incc 0 1) (by decide) rfl ?_
              refine z_goto X (pc := 155) 43 dX5_over_155 (by decide) ?_
              refine z_iload X (pc := 43) 0 dX5_over_43 rfl ?_
              refine z_iconst X (pc := 45) (nI 2) dX5_over_45 (by decide) ?_
              refine z_icmp_geN X (pc := 46) 158 (by omega) (by omega) dX5_over_46 (by decide) (fun c_46 => absurd c_46 (by decide)) (fun c_46 => ?_)
              by_cases hcaB : k_ ≤ s 1 ∧ s 0 + k_ ≤ 10
              · skip
                refine z_iload X (pc := 49) 0 dX5_over_49 rfl ?_
                refine z_if_neN X (pc := 51) 59 (by omega) dX5_over_51 (by decide) (fun c_51 => ?_) (fun c_51 => absurd c_51 (by decide))
                refine z_iload X (pc := 59) 6 dX5_over_59 rfl ?_
                refine z_ineg X (pc := 61) (v := (-(nI k_))) dX5_over_61 rfl ?_
                refine z_istore X (pc := 62) (i := 7) [(7, .int (-(nI k_))), (6, .int (nI 1)), (0, .ref mq), (1, .int (nI wt)), (2, .int bs), (3, .long (lN mo)), (5, .int (nI k_))] dX5_over_62 trivial (by decide) rfl ?_
                refine z_aload_n X (pc := 64) 2 dX5_over_64 rfl ?_
                refine z_get X (pc := 65) 0 3 (.ref mS) tu_5 tw_562 dX5_over_65 rfl rfl (by decide) rfl rfl ?_
                refine z_iconst X (pc := 68) (nI 0) dX5_over_68 (by decide) ?_
                refine z_iald X (pc := 69) 1 0 (nI (s 0)) dX5_over_69 rfl rfl (Nat.le_of_ble_eq_true rfl) (by decide) rfl ?_
                refine z_iload X (pc := 70) 0 dX5_over_70 rfl ?_
                refine z_isub X (pc := 72) (v := ((nI (s 0)) - (-(nI k_)))) dX5_over_72 rfl ?_
                refine z_topi (nI (s 0 + k_)) (i32_sub_neg _ _) ?_
                refine z_iconst X (pc := 73) (nI 0) dX5_over_73 (by decide) ?_
                refine z_bipush X (pc := 74) (nI 10) dX5_over_74 (by decide) ?_
                refine zc_S (as := [.int (nI (s 0 + k_)), .int (nI 0), .int (nI 10)]) X (pc := 76) (c_X5_inN lq D t (s 0 + k_) 0 10 (by omega) (by decide) (by decide)) tw_615 tw_617 tw_7 tw_616 [] rfl rfl dX5_over_76 rfl zdX5_in ⟨rfl, rfl, Nat.le_of_ble_eq_true rfl, Nat.le_of_ble_eq_true rfl⟩ (Nat.le_of_ble_eq_true rfl) (Nat.zero_le _) (Nat.zero_le _) (fun v_92 w_93 hp_94 => ?_)
                obtain ⟨rfl, rfl⟩ := hp_94
                refine ⟨rfl, ?_⟩
                refine z_eq (ws2 := [eX5 mq mT (nI ty) mD mS (nI ev) mP (nI kn) mI (nI kp) mE (nI sg) at_ mH mX mR mO fs, eI t mS 5 (nf s), eL t mH 363 f1, eL t mX 363 f2, eL t mR 11 f3, eL t mO 22 f4]) (st2 := [.int (zb (0 ≤ (s 0 + k_) ∧ (s 0 + k_) ≤ 10))]) rfl rfl rfl ?_
                refine z_if_eqB X (pc := 79) 152 dX5_over_79 (by decide) (fun c_79 => absurd c_79 (by omega)) (fun c_79 => ?_)
                refine z_aload_n X (pc := 82) 2 dX5_over_82 rfl ?_
                refine z_get X (pc := 83) 0 3 (.ref mS) tu_5 tw_562 dX5_over_83 rfl rfl (by decide) rfl rfl ?_
                refine z_iconst X (pc := 86) (nI 1) dX5_over_86 (by decide) ?_
                refine z_iald X (pc := 87) 1 1 (nI (s 1)) dX5_over_87 rfl rfl (Nat.le_of_ble_eq_true rfl) (by decide) rfl ?_
                refine z_iload X (pc := 88) 0 dX5_over_88 rfl ?_
                refine z_iadd X (pc := 90) (v := ((nI (s 1)) + (-(nI k_)))) dX5_over_90 rfl ?_
                refine z_topi (nI (s 1 - k_)) (by rw [i32_add_neg, pk_sub (by omega)]) ?_
                refine z_iconst X (pc := 91) (nI 0) dX5_over_91 (by decide) ?_
                refine z_bipush X (pc := 92) (nI 10) dX5_over_92 (by decide) ?_
                refine zc_S (as := [.int (nI (s 1 - k_)), .int (nI 0), .int (nI 10)]) X (pc := 94) (c_X5_inN lq D t (s 1 - k_) 0 10 (by omega) (by decide) (by decide)) tw_615 tw_617 tw_7 tw_616 [] rfl rfl dX5_over_94 rfl zdX5_in ⟨rfl, rfl, Nat.le_of_ble_eq_true rfl, Nat.le_of_ble_eq_true rfl⟩ (Nat.le_of_ble_eq_true rfl) (Nat.zero_le _) (Nat.zero_le _) (fun v_95 w_96 hp_97 => ?_)
                obtain ⟨rfl, rfl⟩ := hp_97
                refine ⟨rfl, ?_⟩
                refine z_eq (ws2 := [eX5 mq mT (nI ty) mD mS (nI ev) mP (nI kn) mI (nI kp) mE (nI sg) at_ mH mX mR mO fs, eI t mS 5 (nf s), eL t mH 363 f1, eL t mX 363 f2, eL t mR 11 f3, eL t mO 22 f4]) (st2 := [.int (zb (0 ≤ (s 1 - k_) ∧ (s 1 - k_) ≤ 10))]) rfl rfl rfl ?_
                refine z_if_eqB X (pc := 97) 152 dX5_over_97 (by decide) (fun c_97 => absurd c_97 (by omega)) (fun c_97 => ?_)
                refine z_aload_n X (pc := 100) 2 dX5_over_100 rfl ?_
                refine z_aload_n X (pc := 101) 2 dX5_over_101 rfl ?_
                refine z_get X (pc := 102) 0 3 (.ref mS) tu_5 tw_562 dX5_over_102 rfl rfl (by decide) rfl rfl ?_
                refine z_iconst X (pc := 105) (nI 0) dX5_over_105 (by decide) ?_
                refine z_iald X (pc := 106) 1 0 (nI (s 0)) dX5_over_106 rfl rfl (Nat.le_of_ble_eq_true rfl) (by decide) rfl ?_
                refine z_iload X (pc := 107) 0 dX5_over_107 rfl ?_
                refine z_isub X (pc := 109) (v := ((nI (s 0)) - (-(nI k_)))) dX5_over_109 rfl ?_
                refine z_topi (nI (s 0 + k_)) (i32_sub_neg _ _) ?_
                refine z_aload_n X (pc := 110) 2 dX5_over_110 rfl ?_
                refine z_get X (pc := 111) 0 3 (.ref mS) tu_5 tw_562 dX5_over_111 rfl rfl (by decide) rfl rfl ?_
                refine z_iconst X (pc := 114) (nI 1) dX5_over_114 (by decide) ?_
                refine z_iald X (pc := 115) 1 1 (nI (s 1)) dX5_over_115 rfl rfl (Nat.le_of_ble_eq_true rfl) (by decide) rfl ?_
                refine z_iload X (pc := 116) 0 dX5_over_116 rfl ?_
                refine z_iadd X (pc := 118) (v := ((nI (s 1)) + (-(nI k_)))) dX5_over_118 rfl ?_
                refine z_topi (nI (s 1 - k_)) (by rw [i32_add_neg, pk_sub (by omega)]) ?_
                refine zc_V (as := [.int (nI (s 0 + k_)), .int (nI (s 1 - k_))]) X (pc := 119) (c_X5_reachesFrom lq D t mq mT mD mS mP mI mE mH mX mR mO ty ev kn kp sg at_ fs s f1 f2 f3 f4 (s 0 + k_) (s 1 - k_) hsk (by omega) (by omega)) tw_757 tw_760 tw_7 tw_759 tw_1037 0 5 rfl rfl [0, 1, 2, 3, 4, 5] rfl rfl dX5_over_119 rfl zdX5_reachesFrom ⟨rfl, rfl, Nat.le_of_ble_eq_true rfl, Nat.le_of_ble_eq_true rfl⟩ (Nat.le_of_ble_eq_true rfl) (Nat.zero_le _) (Nat.zero_le _) (fun v_98 w_99 hp_100 => ?_)
                obtain ⟨FS_101, F1_102, F2_103, F3_104, F4_105, rfl, rfl⟩ := hp_100
                refine ⟨rfl, ?_⟩
                refine z_eq (ws2 := [eX5 mq mT (nI ty) mD mS (nI ev) mP (nI kn) mI (nI kp) mE (nI sg) at_ mH mX mR mO FS_101, eI t mS 5 (nf s), eL t mH 363 F1_102, eL t mX 363 F2_103, eL t mR 11 F3_104, eL t mO 22 F4_105]) (st2 := [.long (lN (rch (s 3) (s 4) 0 (s 0 + k_) (s 1 - k_) (s 2)))]) rfl rfl rfl ?_
                refine z_lstore X (pc := 122) (i := 8) [(8, .long (lN (rch (s 3) (s 4) 0 (s 0 + k_) (s 1 - k_) (s 2)))), (7, .int (-(nI k_))), (6, .int (nI 1)), (0, .ref mq), (1, .int (nI wt)), (2, .int bs), (3, .long (lN mo)), (5, .int (nI k_))] dX5_over_122 trivial (by decide) rfl ?_
                refine z_lload X (pc := 124) 0 dX5_over_124 rfl ?_
                refine z_lload_n X (pc := 126) 6 dX5_over_126 rfl ?_
                refine z_lcmp_leN X (pc := 127) 136 (Nat.lt_trans (rch_lt _ _ _ _ _ _) (by decide)) (by first | omega | exact Nat.lt_trans (rch_lt _ _ _ _ _ _) (by decide)) dX5_over_127 dX5_over_128 (by decide) (fun c_127 => ?_) (fun c_127 => ?_)
                · skip
                  refine z_iload_n X (pc := 136) 5 dX5_over_136 rfl ?_
                  refine z_istore_n X (pc := 137) (i := 2) [(2, .int bs), (8, .long (lN (rch (s 3) (s 4) 0 (s 0 + k_) (s 1 - k_) (s 2)))), (7, .int (-(nI k_))), (6, .int (nI 1)), (0, .ref mq), (1, .int (nI wt)), (3, .long (lN mo)), (5, .int (nI k_))] dX5_over_137 rfl (by decide) rfl ?_
                  have hcB := Nat.not_lt.mpr c_127
                  refine z_lload X (pc := 138) 1 dX5_over_138 rfl ?_
                  refine z_lload_n X (pc := 140) 6 dX5_over_140 rfl ?_
                  refine z_lcmp_leN X (pc := 141) 150 (Nat.lt_trans (rch_lt _ _ _ _ _ _) (by decide)) (by first | omega | exact Nat.lt_trans (rch_lt _ _ _ _ _ _) (by decide)) dX5_over_141 dX5_over_142 (by decide) (fun c_141 => ?_) (fun c_141 => absurd c_141 (by omega))
                  refine z_lload_n X (pc := 150) 6 dX5_over_150 rfl ?_
                  refine z_lstore_n X (pc := 151) (i := 3) [(3, .long (lN mo)), (2, .int bs), (8, .long (lN (rch (s 3) (s 4) 0 (s 0 + k_) (s 1 - k_) (s 2)))), (7, .int (-(nI k_))), (6, .int (nI 1)), (0, .ref mq), (1, .int (nI wt)), (5, .int (nI k_))] dX5_over_151 rfl (by decide) rfl ?_
                  refine z_iinc X (pc := 152) (i := 6) 4 (nI 2) [(6, .int (nI 2)), (3, .long (lN mo)), (2, .int bs), (8, .long (lN (rch (s 3) (s 4) 0 (s 0 + k_) (s 1 - k_) (s 2)))), (7, .int (-(nI k_))), (0, .ref mq), (1, .int (nI wt)), (5, .int (nI k_))] dX5_over_152 rfl (nI_incc 1 1) (by decide) rfl ?_
                  refine z_goto X (pc := 155) 43 dX5_over_155 (by decide) ?_
                  refine z_iload X (pc := 43) 0 dX5_over_43 rfl ?_
                  refine z_iconst X (pc := 45) (nI 2) dX5_over_45 (by decide) ?_
                  refine z_icmp_geN X (pc := 46) 158 (by omega) (by omega) dX5_over_46 (by decide) (fun c_46 => ?_) (fun c_46 => absurd c_46 (by decide))
                  refine z_iinc X (pc := 158) (i := 5) 7 (nI (k_ + 1)) [(5, .int (nI (k_ + 1))), (6, .int (nI 2)), (3, .long (lN mo)), (2, .int bs), (8, .long (lN (rch (s 3) (s 4) 0 (s 0 + k_) (s 1 - k_) (s 2)))), (7, .int (-(nI k_))), (0, .ref mq), (1, .int (nI wt))] dX5_over_158 rfl (nI_incc k_ 1) (by decide) rfl ?_
                  refine z_goto X (pc := 161) 33 dX5_over_161 (by decide) ?_
                  refine z_lv [6, 7, 3, 2, 0] (lv2 := [(0, .ref mq), (1, .int (nI wt)), (2, .int bs), (3, .long (lN mo)), (5, .int (nI (k_ + 1)))]) rfl ?_
                  exact ih_33 (k_ + 1) bs mo FS_101 F1_102 F2_103 F3_104 F4_105 (by omega) (by omega) (by rw [show k_ + 1 - 1 = (k_ - 1) + 1 by omega, ov_s, ← hov, show k_ - 1 + 1 = k_ by omega]; unfold ovA; rw [if_neg (fun z => hcaA z.1)]; unfold ovB; rw [if_neg (fun z => hcB z.2)])
                · skip
                  refine z_iload X (pc := 131) 1 dX5_over_131 rfl ?_
                  refine z_goto X (pc := 133) 137 dX5_over_133 (by decide) ?_
                  refine z_istore_n X (pc := 137) (i := 2) [(2, .int (-(nI k_))), (8, .long (lN (rch (s 3) (s 4) 0 (s 0 + k_) (s 1 - k_) (s 2)))), (7, .int (-(nI k_))), (6, .int (nI 1)), (0, .ref mq), (1, .int (nI wt)), (3, .long (lN mo)), (5, .int (nI k_))] dX5_over_137 rfl (by decide) rfl ?_
                  have hcB := Nat.not_le.mp c_127
                  refine z_lload X (pc := 138) 1 dX5_over_138 rfl ?_
                  refine z_lload_n X (pc := 140) 6 dX5_over_140 rfl ?_
                  refine z_lcmp_leN X (pc := 141) 150 (Nat.lt_trans (rch_lt _ _ _ _ _ _) (by decide)) (by first | omega | exact Nat.lt_trans (rch_lt _ _ _ _ _ _) (by decide)) dX5_over_141 dX5_over_142 (by decide) (fun c_141 => absurd c_141 (by omega)) (fun c_141 => ?_)
                  refine z_lload X (pc := 145) 1 dX5_over_145 rfl ?_
                  refine z_goto X (pc := 147) 151 dX5_over_147 (by decide) ?_
                  refine z_lstore_n X (pc := 151) (i := 3) [(3, .long (lN (rch (s 3) (s 4) 0 (s 0 + k_) (s 1 - k_) (s 2)))), (2, .int (-(nI k_))), (8, .long (lN (rch (s 3) (s 4) 0 (s 0 + k_) (s 1 - k_) (s 2)))), (7, .int (-(nI k_))), (6, .int (nI 1)), (0, .ref mq), (1, .int (nI wt)), (5, .int (nI k_))] dX5_over_151 rfl (by decide) rfl ?_
                  refine z_iinc X (pc := 152) (i := 6) 4 (nI 2) [(6, .int (nI 2)), (3, .long (lN (rch (s 3) (s 4) 0 (s 0 + k_) (s 1 - k_) (s 2)))), (2, .int (-(nI k_))), (8, .long (lN (rch (s 3) (s 4) 0 (s 0 + k_) (s 1 - k_) (s 2)))), (7, .int (-(nI k_))), (0, .ref mq), (1, .int (nI wt)), (5, .int (nI k_))] dX5_over_152 rfl (nI_incc 1 1) (by decide) rfl ?_
                  refine z_goto X (pc := 155) 43 dX5_over_155 (by decide) ?_
                  refine z_iload X (pc := 43) 0 dX5_over_43 rfl ?_
                  refine z_iconst X (pc := 45) (nI 2) dX5_over_45 (by decide) ?_
                  refine z_icmp_geN X (pc := 46) 158 (by omega) (by omega) dX5_over_46 (by decide) (fun c_46 => ?_) (fun c_46 => absurd c_46 (by decide))
                  refine z_iinc X (pc := 158) (i := 5) 7 (nI (k_ + 1)) [(5, .int (nI (k_ + 1))), (6, .int (nI 2)), (3, .long (lN (rch (s 3) (s 4) 0 (s 0 + k_) (s 1 - k_) (s 2)))), (2, .int (-(nI k_))), (8, .long (lN (rch (s 3) (s 4) 0 (s 0 + k_) (s 1 - k_) (s 2)))), (7, .int (-(nI k_))), (0, .ref mq), (1, .int (nI wt))] dX5_over_158 rfl (nI_incc k_ 1) (by decide) rfl ?_
                  refine z_goto X (pc := 161) 33 dX5_over_161 (by decide) ?_
                  refine z_lv [6, 7, 3, 2, 0] (lv2 := [(0, .ref mq), (1, .int (nI wt)), (2, .int (-(nI k_))), (3, .long (lN (rch (s 3) (s 4) 0 (s 0 + k_) (s 1 - k_) (s 2)))), (5, .int (nI (k_ + 1)))]) rfl ?_
                  exact ih_33 (k_ + 1) (-(nI k_)) (ovr s (s 0 + k_) (s 1 - k_)) FS_101 F1_102 F2_103 F3_104 F4_105 (by omega) (by omega) (by rw [show k_ + 1 - 1 = (k_ - 1) + 1 by omega, ov_s, ← hov, show k_ - 1 + 1 = k_ by omega]; unfold ovA; rw [if_neg (fun z => hcaA z.1)]; unfold ovB; rw [if_pos ⟨hcaB, hcB⟩])
              · skip
                refine z_iload X (pc := 49) 0 dX5_over_49 rfl ?_
                refine z_if_neN X (pc := 51) 59 (by omega) dX5_over_51 (by decide) (fun c_51 => ?_) (fun c_51 => absurd c_51 (by decide))
                refine z_iload X (pc := 59) 6 dX5_over_59 rfl ?_
                refine z_ineg X (pc := 61) (v := (-(nI k_))) dX5_over_61 rfl ?_
                refine z_istore X (pc := 62) (i := 7) [(7, .int (-(nI k_))), (6, .int (nI 1)), (0, .ref mq), (1, .int (nI wt)), (2, .int bs), (3, .long (lN mo)), (5, .int (nI k_))] dX5_over_62 trivial (by decide) rfl ?_
                refine z_aload_n X (pc := 64) 2 dX5_over_64 rfl ?_
                refine z_get X (pc := 65) 0 3 (.ref mS) tu_5 tw_562 dX5_over_65 rfl rfl (by decide) rfl rfl ?_
                refine z_iconst X (pc := 68) (nI 0) dX5_over_68 (by decide) ?_
                refine z_iald X (pc := 69) 1 0 (nI (s 0)) dX5_over_69 rfl rfl (Nat.le_of_ble_eq_true rfl) (by decide) rfl ?_
                refine z_iload X (pc := 70) 0 dX5_over_70 rfl ?_
                refine z_isub X (pc := 72) (v := ((nI (s 0)) - (-(nI k_)))) dX5_over_72 rfl ?_
                refine z_topi (nI (s 0 + k_)) (i32_sub_neg _ _) ?_
                refine z_iconst X (pc := 73) (nI 0) dX5_over_73 (by decide) ?_
                refine z_bipush X (pc := 74) (nI 10) dX5_over_74 (by decide) ?_
                refine zc_S (as := [.int (nI (s 0 + k_)), .int (nI 0), .int (nI 10)]) X (pc := 76) (c_X5_inN lq D t (s 0 + k_) 0 10 (by omega) (by decide) (by decide)) tw_615 tw_617 tw_7 tw_616 [] rfl rfl dX5_over_76 rfl zdX5_in ⟨rfl, rfl, Nat.le_of_ble_eq_true rfl, Nat.le_of_ble_eq_true rfl⟩ (Nat.le_of_ble_eq_true rfl) (Nat.zero_le _) (Nat.zero_le _) (fun v_106 w_107 hp_108 => ?_)
                obtain ⟨rfl, rfl⟩ := hp_108
                refine ⟨rfl, ?_⟩
                refine z_eq (ws2 := [eX5 mq mT (nI ty) mD mS (nI ev) mP (nI kn) mI (nI kp) mE (nI sg) at_ mH mX mR mO fs, eI t mS 5 (nf s), eL t mH 363 f1, eL t mX 363 f2, eL t mR 11 f3, eL t mO 22 f4]) (st2 := [.int (zb (0 ≤ (s 0 + k_) ∧ (s 0 + k_) ≤ 10))]) rfl rfl rfl ?_
                refine z_if_eqB X (pc := 79) 152 dX5_over_79 (by decide) (fun c_79 => ?_) (fun c_79 => ?_)
                · skip
                  refine z_iinc X (pc := 152) (i := 6) 1 (nI 2) [(6, .int (nI 2)), (7, .int (-(nI k_))), (0, .ref mq), (1, .int (nI wt)), (2, .int bs), (3, .long (lN mo)), (5, .int (nI k_))] dX5_over_152 rfl (nI_incc 1 1) (by decide) rfl ?_
                  refine z_goto X (pc := 155) 43 dX5_over_155 (by decide) ?_
                  refine z_iload X (pc := 43) 0 dX5_over_43 rfl ?_
                  refine z_iconst X (pc := 45) (nI 2) dX5_over_45 (by decide) ?_
                  refine z_icmp_geN X (pc := 46) 158 (by omega) (by omega) dX5_over_46 (by decide) (fun c_46 => ?_) (fun c_46 => absurd c_46 (by decide))
                  refine z_iinc X (pc := 158) (i := 5) 6 (nI (k_ + 1)) [(5, .int (nI (k_ + 1))), (6, .int (nI 2)), (7, .int (-(nI k_))), (0, .ref mq), (1, .int (nI wt)), (2, .int bs), (3, .long (lN mo))] dX5_over_158 rfl (nI_incc k_ 1) (by decide) rfl ?_
                  refine z_goto X (pc := 161) 33 dX5_over_161 (by decide) ?_
                  refine z_lv [3, 4, 5, 6, 0] (lv2 := [(0, .ref mq), (1, .int (nI wt)), (2, .int bs), (3, .long (lN mo)), (5, .int (nI (k_ + 1)))]) rfl ?_
                  exact ih_33 (k_ + 1) bs mo fs f1 f2 f3 f4 (by omega) (by omega) (by rw [show k_ + 1 - 1 = (k_ - 1) + 1 by omega, ov_s, ← hov, show k_ - 1 + 1 = k_ by omega]; unfold ovA; rw [if_neg (fun z => hcaA z.1)]; unfold ovB; rw [if_neg (fun z => hcaB z.1)])
                · skip
                  refine z_aload_n X (pc := 82) 2 dX5_over_82 rfl ?_
                  refine z_get X (pc := 83) 0 3 (.ref mS) tu_5 tw_562 dX5_over_83 rfl rfl (by decide) rfl rfl ?_
                  refine z_iconst X (pc := 86) (nI 1) dX5_over_86 (by decide) ?_
                  refine z_iald X (pc := 87) 1 1 (nI (s 1)) dX5_over_87 rfl rfl (Nat.le_of_ble_eq_true rfl) (by decide) rfl ?_
                  refine z_iload X (pc := 88) 0 dX5_over_88 rfl ?_
                  refine z_iadd X (pc := 90) (v := ((nI (s 1)) + (-(nI k_)))) dX5_over_90 rfl ?_
                  refine z_topi (nI (s 1) - nI k_) (i32_add_neg _ _) ?_
                  refine z_iconst X (pc := 91) (nI 0) dX5_over_91 (by decide) ?_
                  refine z_bipush X (pc := 92) (nI 10) dX5_over_92 (by decide) ?_
                  refine zc_S (as := [.int (nI (s 1) - nI k_), .int (nI 0), .int (nI 10)]) X (pc := 94) (c_X5_in lq D t (nI (s 1) - nI k_) (nI 0) (nI 10) ) tw_615 tw_617 tw_7 tw_616 [] rfl rfl dX5_over_94 rfl zdX5_in ⟨rfl, rfl, Nat.le_of_ble_eq_true rfl, Nat.le_of_ble_eq_true rfl⟩ (Nat.le_of_ble_eq_true rfl) (Nat.zero_le _) (Nat.zero_le _) (fun v_109 w_110 hp_111 => ?_)
                  obtain ⟨rfl, rfl⟩ := hp_111
                  refine ⟨rfl, ?_⟩
                  refine z_eq (ws2 := [eX5 mq mT (nI ty) mD mS (nI ev) mP (nI kn) mI (nI kp) mE (nI sg) at_ mH mX mR mO fs, eI t mS 5 (nf s), eL t mH 363 f1, eL t mX 363 f2, eL t mR 11 f3, eL t mO 22 f4]) (st2 := [.int (zb ((nI 0) ≤ (nI (s 1) - nI k_) ∧ (nI (s 1) - nI k_) ≤ (nI 10)))]) rfl rfl rfl ?_
                  refine z_if_eqB X (pc := 97) 152 dX5_over_97 (by decide) (fun c_97 => ?_) (fun c_97 => absurd c_97 (fun z => ov_raw2 hs0 hs1 (by omega) hcaB ⟨⟨(nI_leI (by decide) (by omega)).mpr (by omega), (nI_leI (by omega) (by decide)).mpr c_79.2⟩, z⟩))
                  refine z_iinc X (pc := 152) (i := 6) 1 (nI 2) [(6, .int (nI 2)), (7, .int (-(nI k_))), (0, .ref mq), (1, .int (nI wt)), (2, .int bs), (3, .long (lN mo)), (5, .int (nI k_))] dX5_over_152 rfl (nI_incc 1 1) (by decide) rfl ?_
                  refine z_goto X (pc := 155) 43 dX5_over_155 (by decide) ?_
                  refine z_iload X (pc := 43) 0 dX5_over_43 rfl ?_
                  refine z_iconst X (pc := 45) (nI 2) dX5_over_45 (by decide) ?_
                  refine z_icmp_geN X (pc := 46) 158 (by omega) (by omega) dX5_over_46 (by decide) (fun c_46 => ?_) (fun c_46 => absurd c_46 (by decide))
                  refine z_iinc X (pc := 158) (i := 5) 6 (nI (k_ + 1)) [(5, .int (nI (k_ + 1))), (6, .int (nI 2)), (7, .int (-(nI k_))), (0, .ref mq), (1, .int (nI wt)), (2, .int bs), (3, .long (lN mo))] dX5_over_158 rfl (nI_incc k_ 1) (by decide) rfl ?_
                  refine z_goto X (pc := 161) 33 dX5_over_161 (by decide) ?_
                  refine z_lv [3, 4, 5, 6, 0] (lv2 := [(0, .ref mq), (1, .int (nI wt)), (2, .int bs), (3, .long (lN mo)), (5, .int (nI (k_ + 1)))]) rfl ?_
                  exact ih_33 (k_ + 1) bs mo fs f1 f2 f3 f4 (by omega) (by omega) (by rw [show k_ + 1 - 1 = (k_ - 1) + 1 by omega, ov_s, ← hov, show k_ - 1 + 1 = k_ by omega]; unfold ovA; rw [if_neg (fun z => hcaA z.1)]; unfold ovB; rw [if_neg (fun z => hcaB z.1)])
    refine z_lv [3, 4, 2, 1, 0] (lv2 := [(0, .ref mq), (1, .int (nI wt)), (2, .int (nI 0)), (3, .long (lN (rch (s 3) (s 4) 0 (s 0) (s 1) (s 2)))), (5, .int (nI 1))]) rfl ?_
    exact loop_33 12 1 (nI 0) (ovr s (s 0) (s 1)) FS_7 F1_8 F2_9 F3_10 F4_11 (by omega) (by omega) (ov_z s).symm
  · skip
    refine z_iconst X (pc := 9) (-1) dX5_over_9 (by decide) ?_
    exact hRet.i dX5_over_10 ⟨fs, f1, f2, f3, f4, by rw [dz_bad c_6]; rfl, rfl⟩

abbrev rm_X5_coat : Room := { frames := 1, cells := 0, slots := 0, locals := 25 }
set_option maxHeartbeats 4000000 in
set_option maxRecDepth 100000 in
theorem c_X5_coat (lq : Launch) (D : va_G) (t : zT) (mq mT mD mS mP mI mE mH mX mR mO ty ev kn kp sg : Nat) (at_ : Int32) (fs : Int64) (s : Nat → Nat) (e1 e2 e3 : Int32) (hs : sOk s) : Ct lq D t yX5_coat cX5_coat 13 (some .int) rm_X5_coat [.ref mq, .int e1, .int e2, .int e3] [eX5 mq mT (nI ty) mD mS (nI ev) mP (nI kn) mI (nI kp) mE (nI sg) at_ mH mX mR mO fs, eI t mS 5 (nf s)] 0 0 (fun rv rw_ => rv = some (.int (an_coat s (dz 0 9999 e1) (dz 1 60 e2) (dz 0 1 e3))) ∧ rw_ = [eX5 mq mT (nI ty) mD mS (nI ev) mP (nI kn) mI (nI kp) mE (nI sg) at_ mH mX mR mO fs, eI t mS 5 (nf s)]) := by
  refine Ct.of (by decide) (Nat.le_of_ble_eq_true rfl) (fun k X hRet => ?_)
  have X : zX D t k cX5_coat 13 RX5 "coat" rm_X5_coat lq := X
  refine z_eq (lv2 := [(0, .ref mq), (1, .int e1), (2, .int e2), (3, .int e3)]) rfl rfl rfl ?_
  have hsk := hs
  obtain ⟨hs0, hs1, hs2, hs3, hs4⟩ := hs
  refine z_iload_n X (pc := 0) 1 dX5_coat_0 rfl ?_
  refine z_iconst X (pc := 1) (nI 0) dX5_coat_1 (by decide) ?_
  refine z_sipush X (pc := 2) (nI 9999) dX5_coat_2 (by decide) ?_
  refine zc_S (as := [.int e1, .int (nI 0), .int (nI 9999)]) X (pc := 5) (c_X5_in lq D t e1 (nI 0) (nI 9999) ) tw_615 tw_617 tw_7 tw_616 [] rfl rfl dX5_coat_5 rfl zdX5_in ⟨rfl, rfl, Nat.le_of_ble_eq_true rfl, Nat.le_of_ble_eq_true rfl⟩ (Nat.le_of_ble_eq_true rfl) (Nat.zero_le _) (Nat.zero_le _) (fun v_1 w_2 hp_3 => ?_)
  obtain ⟨rfl, rfl⟩ := hp_3
  refine ⟨rfl, ?_⟩
  refine z_eq (ws2 := [eX5 mq mT (nI ty) mD mS (nI ev) mP (nI kn) mI (nI kp) mE (nI sg) at_ mH mX mR mO fs, eI t mS 5 (nf s)]) (st2 := [.int (zb ((nI 0) ≤ e1 ∧ e1 ≤ (nI 9999)))]) rfl rfl rfl ?_
  refine z_if_eqB X (pc := 8) 30 dX5_coat_8 (by decide) (fun c_8 => ?_) (fun c_8 => ?_)
  · skip
    refine z_iconst X (pc := 30) (-1) dX5_coat_30 (by decide) ?_
    exact hRet.i dX5_coat_31 ⟨by rw [dz_bad (a := 0) (b := 9999) c_8]; rfl, rfl⟩
  · skip
    refine z_iload_n X (pc := 11) 2 dX5_coat_11 rfl ?_
    refine z_iconst X (pc := 12) (nI 1) dX5_coat_12 (by decide) ?_
    refine z_bipush X (pc := 13) (nI 60) dX5_coat_13 (by decide) ?_
    refine zc_S (as := [.int e2, .int (nI 1), .int (nI 60)]) X (pc := 15) (c_X5_in lq D t e2 (nI 1) (nI 60) ) tw_615 tw_617 tw_7 tw_616 [] rfl rfl dX5_coat_15 rfl zdX5_in ⟨rfl, rfl, Nat.le_of_ble_eq_true rfl, Nat.le_of_ble_eq_true rfl⟩ (Nat.le_of_ble_eq_true rfl) (Nat.zero_le _) (Nat.zero_le _) (fun v_4 w_5 hp_6 => ?_)
    obtain ⟨rfl, rfl⟩ := hp_6
    refine ⟨rfl, ?_⟩
    refine z_eq (ws2 := [eX5 mq mT (nI ty) mD mS (nI ev) mP (nI kn) mI (nI kp) mE (nI sg) at_ mH mX mR mO fs, eI t mS 5 (nf s)]) (st2 := [.int (zb ((nI 1) ≤ e2 ∧ e2 ≤ (nI 60)))]) rfl rfl rfl ?_
    refine z_if_eqB X (pc := 18) 30 dX5_coat_18 (by decide) (fun c_18 => ?_) (fun c_18 => ?_)
    · skip
      refine z_iconst X (pc := 30) (-1) dX5_coat_30 (by decide) ?_
      exact hRet.i dX5_coat_31 ⟨by rw [dz_bad (a := 1) (b := 60) c_18]; cases dz 0 9999 e1 <;> rfl, rfl⟩
    · skip
      refine z_iload_n X (pc := 21) 3 dX5_coat_21 rfl ?_
      refine z_iconst X (pc := 22) (nI 0) dX5_coat_22 (by decide) ?_
      refine z_iconst X (pc := 23) (nI 1) dX5_coat_23 (by decide) ?_
      refine zc_S (as := [.int e3, .int (nI 0), .int (nI 1)]) X (pc := 24) (c_X5_in lq D t e3 (nI 0) (nI 1) ) tw_615 tw_617 tw_7 tw_616 [] rfl rfl dX5_coat_24 rfl zdX5_in ⟨rfl, rfl, Nat.le_of_ble_eq_true rfl, Nat.le_of_ble_eq_true rfl⟩ (Nat.le_of_ble_eq_true rfl) (Nat.zero_le _) (Nat.zero_le _) (fun v_7 w_8 hp_9 => ?_)
      obtain ⟨rfl, rfl⟩ := hp_9
      refine ⟨rfl, ?_⟩
      refine z_eq (ws2 := [eX5 mq mT (nI ty) mD mS (nI ev) mP (nI kn) mI (nI kp) mE (nI sg) at_ mH mX mR mO fs, eI t mS 5 (nf s)]) (st2 := [.int (zb ((nI 0) ≤ e3 ∧ e3 ≤ (nI 1)))]) rfl rfl rfl ?_
      refine z_if_neB X (pc := 27) 32 dX5_coat_27 (by decide) (fun c_27 => ?_) (fun c_27 => ?_)
      · skip
        obtain ⟨z, z_lo, z_hi, rfl⟩ := inR (by decide) (by decide) c_8
        obtain ⟨n, n_lo, n_hi, rfl⟩ := inR (by decide) (by decide) c_18
        obtain ⟨wt, wt_lo, wt_hi, rfl⟩ := inR (by decide) (by decide) c_27
        refine z_aload_n X (pc := 32) 0 dX5_coat_32 rfl ?_
        refine z_get X (pc := 33) 0 3 (.ref mS) tu_5 tw_562 dX5_coat_33 rfl rfl (by decide) rfl rfl ?_
        refine z_iconst X (pc := 36) (nI 0) dX5_coat_36 (by decide) ?_
        refine z_iald X (pc := 37) 1 0 (nI (s 0)) dX5_coat_37 rfl rfl (Nat.le_of_ble_eq_true rfl) (by decide) rfl ?_
        refine z_istore X (pc := 38) (i := 4) [(4, .int (nI (s 0))), (0, .ref mq), (1, .int (nI z)), (2, .int (nI n)), (3, .int (nI wt))] dX5_coat_38 trivial (by decide) rfl ?_
        refine z_aload_n X (pc := 40) 1 dX5_coat_40 rfl ?_
        refine z_get X (pc := 41) 0 3 (.ref mS) tu_5 tw_562 dX5_coat_41 rfl rfl (by decide) rfl rfl ?_
        refine z_iconst X (pc := 44) (nI 1) dX5_coat_44 (by decide) ?_
        refine z_iald X (pc := 45) 1 1 (nI (s 1)) dX5_coat_45 rfl rfl (Nat.le_of_ble_eq_true rfl) (by decide) rfl ?_
        refine z_istore X (pc := 46) (i := 5) [(5, .int (nI (s 1))), (4, .int (nI (s 0))), (0, .ref mq), (1, .int (nI z)), (2, .int (nI n)), (3, .int (nI wt))] dX5_coat_46 trivial (by decide) rfl ?_
        refine z_aload_n X (pc := 48) 2 dX5_coat_48 rfl ?_
        refine z_get X (pc := 49) 0 3 (.ref mS) tu_5 tw_562 dX5_coat_49 rfl rfl (by decide) rfl rfl ?_
        refine z_iconst X (pc := 52) (nI 2) dX5_coat_52 (by decide) ?_
        refine z_iald X (pc := 53) 1 2 (nI (s 2)) dX5_coat_53 rfl rfl (Nat.le_of_ble_eq_true rfl) (by decide) rfl ?_
        refine z_istore X (pc := 54) (i := 6) [(6, .int (nI (s 2))), (5, .int (nI (s 1))), (4, .int (nI (s 0))), (0, .ref mq), (1, .int (nI z)), (2, .int (nI n)), (3, .int (nI wt))] dX5_coat_54 trivial (by decide) rfl ?_
        refine z_iconst X (pc := 56) (nI 0) dX5_coat_56 (by decide) ?_
        refine z_istore X (pc := 57) (i := 7) [(7, .int (nI 0)), (6, .int (nI (s 2))), (5, .int (nI (s 1))), (4, .int (nI (s 0))), (0, .ref mq), (1, .int (nI z)), (2, .int (nI n)), (3, .int (nI wt))] dX5_coat_57 trivial (by decide) rfl ?_
        refine z_iconst X (pc := 59) (nI 0) dX5_coat_59 (by decide) ?_
        refine z_istore X (pc := 60) (i := 8) [(8, .int (nI 0)), (7, .int (nI 0)), (6, .int (nI (s 2))), (5, .int (nI (s 1))), (4, .int (nI (s 0))), (0, .ref mq), (1, .int (nI z)), (2, .int (nI n)), (3, .int (nI wt))] dX5_coat_60 trivial (by decide) rfl ?_
        have loop_62 : ∀ (fuel_62 : Nat) (k_ : Nat) (p : Nat × Nat × Nat × Nat), n < k_ + fuel_62 → (k_ ≤ n) → (p = co s z k_) → Z D k (0, 0) [eX5 mq mT (nI ty) mD mS (nI ev) mP (nI kn) mI (nI kp) mE (nI sg) at_ mH mX mR mO fs, eI t mS 5 (nf s)] 62 [(0, .ref mq), (1, .int (nI z)), (2, .int (nI n)), (3, .int (nI wt)), (4, .int (nI p.1)), (5, .int (nI p.2.1)), (6, .int (nI p.2.2.1)), (7, .int (nI p.2.2.2)), (8, .int (nI k_))] [] := by
          intro fuel_62
          induction fuel_62 with
          | zero =>
            intro k_ p hfuel_62 hk hp
            exfalso; omega
          | succ fuel_62 ih_62 =>
            intro k_ p hfuel_62 hk hp
            have hpo := co_ok s hsk z k_
            rw [← hp] at hpo
            obtain ⟨hp1, hp2, hp3, hp4⟩ := hpo
            refine z_iload X (pc := 62) 8 dX5_coat_62 rfl ?_
            refine z_iload_n X (pc := 64) 2 dX5_coat_64 rfl ?_
            refine z_icmp_geN X (pc := 65) 216 (by omega) (by omega) dX5_coat_65 (by decide) (fun c_65 => ?_) (fun c_65 => ?_)
            · skip
              refine z_iload_n X (pc := 216) 3 dX5_coat_216 rfl ?_
              refine z_if_neN X (pc := 217) 225 (by omega) dX5_coat_217 (by decide) (fun c_217 => ?_) (fun c_217 => ?_)
              · skip
                refine z_iload X (pc := 225) 4 dX5_coat_225 rfl ?_
                refine z_iload X (pc := 227) 5 dX5_coat_227 rfl ?_
                refine z_iadd X (pc := 229) (v := (nI (p.1 + p.2.1))) dX5_coat_229 (nI_add p.1 p.2.1) ?_
                exact hRet.i dX5_coat_230 ⟨by rw [dz_ok (j := z) (a := 0) (b := 9999) (by decide) z_lo z_hi, dz_ok (j := n) (a := 1) (b := 60) (by decide) n_lo n_hi, dz_ok (j := wt) (a := 0) (b := 1) (by decide) wt_lo wt_hi]; simp only [an_coat, ← show k_ = n by omega, ← hp, if_neg c_217], rfl⟩
              · skip
                refine z_iload X (pc := 220) 7 dX5_coat_220 rfl ?_
                refine z_goto X (pc := 222) 230 dX5_coat_222 (by decide) ?_
                exact hRet.i dX5_coat_230 ⟨by rw [dz_ok (j := z) (a := 0) (b := 9999) (by decide) z_lo z_hi, dz_ok (j := n) (a := 1) (b := 60) (by decide) n_lo n_hi, dz_ok (j := wt) (a := 0) (b := 1) (by decide) wt_lo wt_hi]; simp only [an_coat, ← show k_ = n by omega, ← hp, if_pos c_217], rfl⟩
            · skip
              refine z_ldc2 X (pc := 68) (7919) dX5_coat_68 tw_805 ?_
              refine z_topl (lN 7919) rfl ?_
              refine z_iload_n X (pc := 71) 1 dX5_coat_71 rfl ?_
              refine z_i2l X (pc := 72) (v := (lN z)) dX5_coat_72 (nI_l (by omega)) ?_
              refine z_lmul X (pc := 73) (v := (lN (7919 * z))) dX5_coat_73 (lN_mul _ _) ?_
              refine z_ldc2 X (pc := 74) (6151) dX5_coat_74 tw_806 ?_
              refine z_topl (lN 6151) rfl ?_
              refine z_iload X (pc := 77) 8 dX5_coat_77 rfl ?_
              refine z_i2l X (pc := 79) (v := (lN k_)) dX5_coat_79 (nI_l (by omega)) ?_
              refine z_lmul X (pc := 80) (v := (lN (6151 * k_))) dX5_coat_80 (lN_mul _ _) ?_
              refine z_ladd X (pc := 81) (v := (lN (7919 * z + (6151 * k_)))) dX5_coat_81 (lN_add (7919 * z) (6151 * k_)) ?_
              refine z_lconst X (pc := 82) (lN 1) dX5_coat_82 (by decide) ?_
              refine z_ladd X (pc := 83) (v := (lN (7919 * z + (6151 * k_) + 1))) dX5_coat_83 (lN_add (7919 * z + (6151 * k_)) 1) ?_
              have hxx : (7919 * z + 6151 * k_ + 1) * (7919 * z + 6151 * k_ + 1) ≤ 100000000 * 100000000 := Nat.mul_le_mul (by omega) (by omega)
              refine z_lstore X (pc := 84) (i := 9) [(9, .long (lN (7919 * z + (6151 * k_) + 1))), (0, .ref mq), (1, .int (nI z)), (2, .int (nI n)), (3, .int (nI wt)), (4, .int (nI p.1)), (5, .int (nI p.2.1)), (6, .int (nI p.2.2.1)), (7, .int (nI p.2.2.2)), (8, .int (nI k_))] dX5_coat_84 trivial (by decide) rfl ?_
              refine z_lload X (pc := 86) 0 dX5_coat_86 rfl ?_
              refine z_lload X (pc := 88) 0 dX5_coat_88 rfl ?_
              refine z_lmul X (pc := 90) (v := (lN ((7919 * z + (6151 * k_) + 1) * (7919 * z + (6151 * k_) + 1)))) dX5_coat_90 (lN_mul _ _) ?_
              refine z_ldc2 X (pc := 91) (65521) dX5_coat_91 tw_807 ?_
              refine z_topl (lN 65521) rfl ?_
              refine z_lrem X (pc := 94) (v := (lN (((7919 * z + (6151 * k_) + 1) * (7919 * z + (6151 * k_) + 1)) % 65521))) dX5_coat_94 (by decide) (pk_lRem (by omega) (by omega) (by omega)) ?_
              refine z_l2i X (pc := 95) (v := (nI (((7919 * z + (6151 * k_) + 1) * (7919 * z + (6151 * k_) + 1)) % 65521))) dX5_coat_95 (lN_i _) ?_
              refine z_bipush X (pc := 96) (nI 8) dX5_coat_96 (by decide) ?_
              refine z_idiv X (pc := 98) (v := (nI ((((7919 * z + (6151 * k_) + 1) * (7919 * z + (6151 * k_) + 1)) % 65521) / 8))) dX5_coat_98 (by decide) (pk_div (by omega) (by omega) (by omega)) ?_
              refine z_topi (nI (drw z k_)) rfl ?_
              refine z_istore X (pc := 99) (i := 11) [(11, .int (nI (drw z k_))), (9, .long (lN (7919 * z + (6151 * k_) + 1))), (0, .ref mq), (1, .int (nI z)), (2, .int (nI n)), (3, .int (nI wt)), (4, .int (nI p.1)), (5, .int (nI p.2.1)), (6, .int (nI p.2.2.1)), (7, .int (nI p.2.2.2)), (8, .int (nI k_))] dX5_coat_99 trivial (by decide) rfl ?_
              refine z_iload X (pc := 101) 0 dX5_coat_101 rfl ?_
              refine z_iconst X (pc := 103) (nI 4) dX5_coat_103 (by decide) ?_
              refine z_irem X (pc := 104) (v := (nI ((drw z k_) % 4))) dX5_coat_104 (by decide) (pk_rem (by unfold drw; omega) (by omega) (by omega)) ?_
              refine z_iload X (pc := 105) 6 dX5_coat_105 rfl ?_
              refine z_iload X (pc := 107) 7 dX5_coat_107 rfl ?_
              refine z_iload X (pc := 109) 8 dX5_coat_109 rfl ?_
              refine z_aload_n X (pc := 111) 2 dX5_coat_111 rfl ?_
              refine z_get X (pc := 112) 0 3 (.ref mS) tu_5 tw_562 dX5_coat_112 rfl rfl (by decide) rfl rfl ?_
              refine z_iconst X (pc := 115) (nI 3) dX5_coat_115 (by decide) ?_
              refine z_iald X (pc := 116) 1 3 (nI (s 3)) dX5_coat_116 rfl rfl (Nat.le_of_ble_eq_true rfl) (by decide) rfl ?_
              refine z_aload_n X (pc := 117) 2 dX5_coat_117 rfl ?_
              refine z_get X (pc := 118) 0 3 (.ref mS) tu_5 tw_562 dX5_coat_118 rfl rfl (by decide) rfl rfl ?_
              refine z_iconst X (pc := 121) (nI 4) dX5_coat_121 (by decide) ?_
              refine z_iald X (pc := 122) 1 4 (nI (s 4)) dX5_coat_122 rfl rfl (Nat.le_of_ble_eq_true rfl) (by decide) rfl ?_
              refine zc_S (as := [.int (nI p.1), .int (nI p.2.1), .int (nI p.2.2.1), .int (nI (s 3)), .int (nI (s 4))]) X (pc := 123) (c_X5_toLeft lq D t p.1 p.2.1 p.2.2.1 (s 3) (s 4) hs3 hs4 (by omega) (by omega) (by omega)) tw_661 tw_663 tw_7 tw_662 [] rfl rfl dX5_coat_123 rfl zdX5_toLeft ⟨rfl, rfl, Nat.le_of_ble_eq_true rfl, Nat.le_of_ble_eq_true rfl⟩ (Nat.le_of_ble_eq_true rfl) (Nat.zero_le _) (Nat.zero_le _) (fun v_10 w_11 hp_12 => ?_)
              obtain ⟨rfl, rfl⟩ := hp_12
              refine ⟨rfl, ?_⟩
              refine z_eq (ws2 := [eX5 mq mT (nI ty) mD mS (nI ev) mP (nI kn) mI (nI kp) mE (nI sg) at_ mH mX mR mO fs, eI t mS 5 (nf s)]) (st2 := [.int (nI (htl (s 3) (s 4) p.1 p.2.1 p.2.2.1)), .int (nI ((drw z k_) % 4))]) rfl rfl rfl ?_
              have hq4 := @htl_le (s 3) (s 4) p.1 p.2.1 p.2.2.1 hs4
              refine z_icmp_geN X (pc := 126) 133 (by omega) (by omega) dX5_coat_126 (by decide) (fun c_126 => ?_) (fun c_126 => ?_)
              · skip
                have hlt := Nat.not_lt.mpr c_126
                refine z_iconst X (pc := 133) (nI 1) dX5_coat_133 (by decide) ?_
                refine z_istore X (pc := 134) (i := 6) [(6, .int (nI 1)), (11, .int (nI (drw z k_))), (9, .long (lN (7919 * z + (6151 * k_) + 1))), (0, .ref mq), (1, .int (nI z)), (2, .int (nI n)), (3, .int (nI wt)), (4, .int (nI p.1)), (5, .int (nI p.2.1)), (7, .int (nI p.2.2.2)), (8, .int (nI k_))] dX5_coat_134 trivial (by decide) rfl ?_
                refine z_iload X (pc := 136) 0 dX5_coat_136 rfl ?_
                refine z_if_neN X (pc := 138) 146 (by omega) dX5_coat_138 (by decide) (fun c_138 => ?_) (fun c_138 => absurd c_138 (by decide))
                refine z_iload X (pc := 146) 8 dX5_coat_146 rfl ?_
                refine z_istore X (pc := 148) (i := 12) [(12, .int (nI p.2.1)), (6, .int (nI 1)), (11, .int (nI (drw z k_))), (9, .long (lN (7919 * z + (6151 * k_) + 1))), (0, .ref mq), (1, .int (nI z)), (2, .int (nI n)), (3, .int (nI wt)), (4, .int (nI p.1)), (5, .int (nI p.2.1)), (7, .int (nI p.2.2.2)), (8, .int (nI k_))] dX5_coat_148 trivial (by decide) rfl ?_
                refine z_iload X (pc := 150) 10 dX5_coat_150 rfl ?_
                refine z_iload X (pc := 152) 0 dX5_coat_152 rfl ?_
                refine z_if_neN X (pc := 154) 161 (by omega) dX5_coat_154 (by decide) (fun c_154 => ?_) (fun c_154 => ?_)
                · skip
                  refine z_iconst X (pc := 161) (nI 0) dX5_coat_161 (by decide) ?_
                  refine z_iadd X (pc := 162) (v := (nI p.2.2.2)) dX5_coat_162 (nI_add p.2.2.2 0) ?_
                  refine z_istore X (pc := 163) (i := 7) [(7, .int (nI p.2.2.2)), (12, .int (nI p.2.1)), (6, .int (nI 1)), (11, .int (nI (drw z k_))), (9, .long (lN (7919 * z + (6151 * k_) + 1))), (0, .ref mq), (1, .int (nI z)), (2, .int (nI n)), (3, .int (nI wt)), (4, .int (nI p.1)), (5, .int (nI p.2.1)), (8, .int (nI k_))] dX5_coat_163 trivial (by decide) rfl ?_
                  refine z_iload X (pc := 165) 1 dX5_coat_165 rfl ?_
                  refine z_if_neN X (pc := 167) 175 (by omega) dX5_coat_167 (by decide) (fun c_167 => ?_) (fun c_167 => absurd c_167 (by omega))
                  refine z_iload X (pc := 175) 1 dX5_coat_175 rfl ?_
                  refine z_iconst X (pc := 177) (nI 1) dX5_coat_177 (by decide) ?_
                  refine z_isub X (pc := 178) (v := (nI (p.2.1 - 1))) dX5_coat_178 (pk_sub (by omega)) ?_
                  refine z_istore X (pc := 179) (i := 12) [(12, .int (nI (p.2.1 - 1))), (7, .int (nI p.2.2.2)), (6, .int (nI 1)), (11, .int (nI (drw z k_))), (9, .long (lN (7919 * z + (6151 * k_) + 1))), (0, .ref mq), (1, .int (nI z)), (2, .int (nI n)), (3, .int (nI wt)), (4, .int (nI p.1)), (5, .int (nI p.2.1)), (8, .int (nI k_))] dX5_coat_179 trivial (by decide) rfl ?_
                  refine z_iload X (pc := 181) 2 dX5_coat_181 rfl ?_
                  refine z_if_neN X (pc := 183) 191 (by omega) dX5_coat_183 (by decide) (fun c_183 => ?_) (fun c_183 => absurd c_183 (by decide))
                  refine z_iload X (pc := 191) 9 dX5_coat_191 rfl ?_
                  refine z_istore X (pc := 193) (i := 4) [(4, .int (nI p.1)), (12, .int (nI (p.2.1 - 1))), (7, .int (nI p.2.2.2)), (6, .int (nI 1)), (11, .int (nI (drw z k_))), (9, .long (lN (7919 * z + (6151 * k_) + 1))), (0, .ref mq), (1, .int (nI z)), (2, .int (nI n)), (3, .int (nI wt)), (5, .int (nI p.2.1)), (8, .int (nI k_))] dX5_coat_193 trivial (by decide) rfl ?_
                  refine z_iload X (pc := 195) 3 dX5_coat_195 rfl ?_
                  refine z_iconst X (pc := 197) (nI 1) dX5_coat_197 (by decide) ?_
                  refine z_icmp_neN X (pc := 198) 206 (by omega) (by omega) dX5_coat_198 (by decide) (fun c_198 => absurd c_198 (by decide)) (fun c_198 => ?_)
                  refine z_iload X (pc := 201) 1 dX5_coat_201 rfl ?_
                  refine z_goto X (pc := 203) 208 dX5_coat_203 (by decide) ?_
                  refine z_istore X (pc := 208) (i := 5) [(5, .int (nI (p.2.1 - 1))), (4, .int (nI p.1)), (12, .int (nI (p.2.1 - 1))), (7, .int (nI p.2.2.2)), (6, .int (nI 1)), (11, .int (nI (drw z k_))), (9, .long (lN (7919 * z + (6151 * k_) + 1))), (0, .ref mq), (1, .int (nI z)), (2, .int (nI n)), (3, .int (nI wt)), (8, .int (nI k_))] dX5_coat_208 trivial (by decide) rfl ?_
                  refine z_iinc X (pc := 210) (i := 8) 11 (nI (k_ + 1)) [(8, .int (nI (k_ + 1))), (5, .int (nI (p.2.1 - 1))), (4, .int (nI p.1)), (12, .int (nI (p.2.1 - 1))), (7, .int (nI p.2.2.2)), (6, .int (nI 1)), (11, .int (nI (drw z k_))), (9, .long (lN (7919 * z + (6151 * k_) + 1))), (0, .ref mq), (1, .int (nI z)), (2, .int (nI n)), (3, .int (nI wt))] dX5_coat_210 rfl (nI_incc k_ 1) (by decide) rfl ?_
                  refine z_goto X (pc := 213) 62 dX5_coat_213 (by decide) ?_
                  have hem : ¬ p.2.1 = 0 := c_154
                  have hco : coS s z k_ p = (p.1, p.2.1 - 1, 1, p.2.2.2) := by unfold coS; rw [if_neg hlt]; simp only [if_neg hem]
                  refine z_eq (lv2 := [(8, .int (nI (k_ + 1))), (5, .int (nI ((coS s z k_ p).2.1))), (4, .int (nI ((coS s z k_ p).1))), (12, .int (nI (p.2.1 - 1))), (7, .int (nI ((coS s z k_ p).2.2.2))), (6, .int (nI ((coS s z k_ p).2.2.1))), (11, .int (nI (drw z k_))), (9, .long (lN (7919 * z + (6151 * k_) + 1))), (0, .ref mq), (1, .int (nI z)), (2, .int (nI n)), (3, .int (nI wt))]) rfl (by rw [hco]) rfl ?_
                  refine z_lv [8, 9, 10, 11, 2, 1, 5, 4, 0] (lv2 := [(0, .ref mq), (1, .int (nI z)), (2, .int (nI n)), (3, .int (nI wt)), (4, .int (nI ((coS s z k_ p).1))), (5, .int (nI ((coS s z k_ p).2.1))), (6, .int (nI ((coS s z k_ p).2.2.1))), (7, .int (nI ((coS s z k_ p).2.2.2))), (8, .int (nI (k_ + 1)))]) rfl ?_
                  exact ih_62 (k_ + 1) (coS s z k_ p) (by omega) (by omega) (by rw [hp, co_s])
                · skip
                  refine z_iconst X (pc := 157) (nI 1) dX5_coat_157 (by decide) ?_
                  refine z_goto X (pc := 158) 162 dX5_coat_158 (by decide) ?_
                  refine z_iadd X (pc := 162) (v := (nI (p.2.2.2 + 1))) dX5_coat_162 (nI_add p.2.2.2 1) ?_
                  refine z_istore X (pc := 163) (i := 7) [(7, .int (nI (p.2.2.2 + 1))), (12, .int (nI p.2.1)), (6, .int (nI 1)), (11, .int (nI (drw z k_))), (9, .long (lN (7919 * z + (6151 * k_) + 1))), (0, .ref mq), (1, .int (nI z)), (2, .int (nI n)), (3, .int (nI wt)), (4, .int (nI p.1)), (5, .int (nI p.2.1)), (8, .int (nI k_))] dX5_coat_163 trivial (by decide) rfl ?_
                  refine z_iload X (pc := 165) 1 dX5_coat_165 rfl ?_
                  refine z_if_neN X (pc := 167) 175 (by omega) dX5_coat_167 (by decide) (fun c_167 => absurd c_167 (by omega)) (fun c_167 => ?_)
                  refine z_bipush X (pc := 170) (nI 10) dX5_coat_170 (by decide) ?_
                  refine z_goto X (pc := 172) 179 dX5_coat_172 (by decide) ?_
                  refine z_istore X (pc := 179) (i := 12) [(12, .int (nI 10)), (7, .int (nI (p.2.2.2 + 1))), (6, .int (nI 1)), (11, .int (nI (drw z k_))), (9, .long (lN (7919 * z + (6151 * k_) + 1))), (0, .ref mq), (1, .int (nI z)), (2, .int (nI n)), (3, .int (nI wt)), (4, .int (nI p.1)), (5, .int (nI p.2.1)), (8, .int (nI k_))] dX5_coat_179 trivial (by decide) rfl ?_
                  refine z_iload X (pc := 181) 2 dX5_coat_181 rfl ?_
                  refine z_if_neN X (pc := 183) 191 (by omega) dX5_coat_183 (by decide) (fun c_183 => ?_) (fun c_183 => absurd c_183 (by decide))
                  refine z_iload X (pc := 191) 9 dX5_coat_191 rfl ?_
                  refine z_istore X (pc := 193) (i := 4) [(4, .int (nI p.1)), (12, .int (nI 10)), (7, .int (nI (p.2.2.2 + 1))), (6, .int (nI 1)), (11, .int (nI (drw z k_))), (9, .long (lN (7919 * z + (6151 * k_) + 1))), (0, .ref mq), (1, .int (nI z)), (2, .int (nI n)), (3, .int (nI wt)), (5, .int (nI p.2.1)), (8, .int (nI k_))] dX5_coat_193 trivial (by decide) rfl ?_
                  refine z_iload X (pc := 195) 3 dX5_coat_195 rfl ?_
                  refine z_iconst X (pc := 197) (nI 1) dX5_coat_197 (by decide) ?_
                  refine z_icmp_neN X (pc := 198) 206 (by omega) (by omega) dX5_coat_198 (by decide) (fun c_198 => absurd c_198 (by decide)) (fun c_198 => ?_)
                  refine z_iload X (pc := 201) 1 dX5_coat_201 rfl ?_
                  refine z_goto X (pc := 203) 208 dX5_coat_203 (by decide) ?_
                  refine z_istore X (pc := 208) (i := 5) [(5, .int (nI 10)), (4, .int (nI p.1)), (12, .int (nI 10)), (7, .int (nI (p.2.2.2 + 1))), (6, .int (nI 1)), (11, .int (nI (drw z k_))), (9, .long (lN (7919 * z + (6151 * k_) + 1))), (0, .ref mq), (1, .int (nI z)), (2, .int (nI n)), (3, .int (nI wt)), (8, .int (nI k_))] dX5_coat_208 trivial (by decide) rfl ?_
                  refine z_iinc X (pc := 210) (i := 8) 11 (nI (k_ + 1)) [(8, .int (nI (k_ + 1))), (5, .int (nI 10)), (4, .int (nI p.1)), (12, .int (nI 10)), (7, .int (nI (p.2.2.2 + 1))), (6, .int (nI 1)), (11, .int (nI (drw z k_))), (9, .long (lN (7919 * z + (6151 * k_) + 1))), (0, .ref mq), (1, .int (nI z)), (2, .int (nI n)), (3, .int (nI wt))] dX5_coat_210 rfl (nI_incc k_ 1) (by decide) rfl ?_
                  refine z_goto X (pc := 213) 62 dX5_coat_213 (by decide) ?_
                  have hem : p.2.1 = 0 := c_154
                  have hco : coS s z k_ p = (p.1, 10, 1, p.2.2.2 + 1) := by unfold coS; rw [if_neg hlt]; simp only [if_pos hem]
                  refine z_eq (lv2 := [(8, .int (nI (k_ + 1))), (5, .int (nI ((coS s z k_ p).2.1))), (4, .int (nI ((coS s z k_ p).1))), (12, .int (nI 10)), (7, .int (nI ((coS s z k_ p).2.2.2))), (6, .int (nI ((coS s z k_ p).2.2.1))), (11, .int (nI (drw z k_))), (9, .long (lN (7919 * z + (6151 * k_) + 1))), (0, .ref mq), (1, .int (nI z)), (2, .int (nI n)), (3, .int (nI wt))]) rfl (by rw [hco]) rfl ?_
                  refine z_lv [8, 9, 10, 11, 2, 1, 5, 4, 0] (lv2 := [(0, .ref mq), (1, .int (nI z)), (2, .int (nI n)), (3, .int (nI wt)), (4, .int (nI ((coS s z k_ p).1))), (5, .int (nI ((coS s z k_ p).2.1))), (6, .int (nI ((coS s z k_ p).2.2.1))), (7, .int (nI ((coS s z k_ p).2.2.2))), (8, .int (nI (k_ + 1)))]) rfl ?_
                  exact ih_62 (k_ + 1) (coS s z k_ p) (by omega) (by omega) (by rw [hp, co_s])
              · skip
                have hlt := Nat.not_le.mp c_126
                refine z_iconst X (pc := 129) (nI 0) dX5_coat_129 (by decide) ?_
                refine z_goto X (pc := 130) 134 dX5_coat_130 (by decide) ?_
                refine z_istore X (pc := 134) (i := 6) [(6, .int (nI 0)), (11, .int (nI (drw z k_))), (9, .long (lN (7919 * z + (6151 * k_) + 1))), (0, .ref mq), (1, .int (nI z)), (2, .int (nI n)), (3, .int (nI wt)), (4, .int (nI p.1)), (5, .int (nI p.2.1)), (7, .int (nI p.2.2.2)), (8, .int (nI k_))] dX5_coat_134 trivial (by decide) rfl ?_
                refine z_iload X (pc := 136) 0 dX5_coat_136 rfl ?_
                refine z_if_neN X (pc := 138) 146 (by omega) dX5_coat_138 (by decide) (fun c_138 => absurd c_138 (by decide)) (fun c_138 => ?_)
                refine z_iload X (pc := 141) 7 dX5_coat_141 rfl ?_
                refine z_goto X (pc := 143) 148 dX5_coat_143 (by decide) ?_
                refine z_istore X (pc := 148) (i := 12) [(12, .int (nI p.1)), (6, .int (nI 0)), (11, .int (nI (drw z k_))), (9, .long (lN (7919 * z + (6151 * k_) + 1))), (0, .ref mq), (1, .int (nI z)), (2, .int (nI n)), (3, .int (nI wt)), (4, .int (nI p.1)), (5, .int (nI p.2.1)), (7, .int (nI p.2.2.2)), (8, .int (nI k_))] dX5_coat_148 trivial (by decide) rfl ?_
                refine z_iload X (pc := 150) 10 dX5_coat_150 rfl ?_
                refine z_iload X (pc := 152) 0 dX5_coat_152 rfl ?_
                refine z_if_neN X (pc := 154) 161 (by omega) dX5_coat_154 (by decide) (fun c_154 => ?_) (fun c_154 => ?_)
                · skip
                  refine z_iconst X (pc := 161) (nI 0) dX5_coat_161 (by decide) ?_
                  refine z_iadd X (pc := 162) (v := (nI p.2.2.2)) dX5_coat_162 (nI_add p.2.2.2 0) ?_
                  refine z_istore X (pc := 163) (i := 7) [(7, .int (nI p.2.2.2)), (12, .int (nI p.1)), (6, .int (nI 0)), (11, .int (nI (drw z k_))), (9, .long (lN (7919 * z + (6151 * k_) + 1))), (0, .ref mq), (1, .int (nI z)), (2, .int (nI n)), (3, .int (nI wt)), (4, .int (nI p.1)), (5, .int (nI p.2.1)), (8, .int (nI k_))] dX5_coat_163 trivial (by decide) rfl ?_
                  refine z_iload X (pc := 165) 1 dX5_coat_165 rfl ?_
                  refine z_if_neN X (pc := 167) 175 (by omega) dX5_coat_167 (by decide) (fun c_167 => ?_) (fun c_167 => absurd c_167 (by omega))
                  refine z_iload X (pc := 175) 1 dX5_coat_175 rfl ?_
                  refine z_iconst X (pc := 177) (nI 1) dX5_coat_177 (by decide) ?_
                  refine z_isub X (pc := 178) (v := (nI (p.1 - 1))) dX5_coat_178 (pk_sub (by omega)) ?_
                  refine z_istore X (pc := 179) (i := 12) [(12, .int (nI (p.1 - 1))), (7, .int (nI p.2.2.2)), (6, .int (nI 0)), (11, .int (nI (drw z k_))), (9, .long (lN (7919 * z + (6151 * k_) + 1))), (0, .ref mq), (1, .int (nI z)), (2, .int (nI n)), (3, .int (nI wt)), (4, .int (nI p.1)), (5, .int (nI p.2.1)), (8, .int (nI k_))] dX5_coat_179 trivial (by decide) rfl ?_
                  refine z_iload X (pc := 181) 2 dX5_coat_181 rfl ?_
                  refine z_if_neN X (pc := 183) 191 (by omega) dX5_coat_183 (by decide) (fun c_183 => absurd c_183 (by decide)) (fun c_183 => ?_)
                  refine z_iload X (pc := 186) 0 dX5_coat_186 rfl ?_
                  refine z_goto X (pc := 188) 193 dX5_coat_188 (by decide) ?_
                  refine z_istore X (pc := 193) (i := 4) [(4, .int (nI (p.1 - 1))), (12, .int (nI (p.1 - 1))), (7, .int (nI p.2.2.2)), (6, .int (nI 0)), (11, .int (nI (drw z k_))), (9, .long (lN (7919 * z + (6151 * k_) + 1))), (0, .ref mq), (1, .int (nI z)), (2, .int (nI n)), (3, .int (nI wt)), (5, .int (nI p.2.1)), (8, .int (nI k_))] dX5_coat_193 trivial (by decide) rfl ?_
                  refine z_iload X (pc := 195) 3 dX5_coat_195 rfl ?_
                  refine z_iconst X (pc := 197) (nI 1) dX5_coat_197 (by decide) ?_
                  refine z_icmp_neN X (pc := 198) 206 (by omega) (by omega) dX5_coat_198 (by decide) (fun c_198 => ?_) (fun c_198 => absurd c_198 (by decide))
                  refine z_iload X (pc := 206) 10 dX5_coat_206 rfl ?_
                  refine z_istore X (pc := 208) (i := 5) [(5, .int (nI p.2.1)), (4, .int (nI (p.1 - 1))), (12, .int (nI (p.1 - 1))), (7, .int (nI p.2.2.2)), (6, .int (nI 0)), (11, .int (nI (drw z k_))), (9, .long (lN (7919 * z + (6151 * k_) + 1))), (0, .ref mq), (1, .int (nI z)), (2, .int (nI n)), (3, .int (nI wt)), (8, .int (nI k_))] dX5_coat_208 trivial (by decide) rfl ?_
                  refine z_iinc X (pc := 210) (i := 8) 11 (nI (k_ + 1)) [(8, .int (nI (k_ + 1))), (5, .int (nI p.2.1)), (4, .int (nI (p.1 - 1))), (12, .int (nI (p.1 - 1))), (7, .int (nI p.2.2.2)), (6, .int (nI 0)), (11, .int (nI (drw z k_))), (9, .long (lN (7919 * z + (6151 * k_) + 1))), (0, .ref mq), (1, .int (nI z)), (2, .int (nI n)), (3, .int (nI wt))] dX5_coat_210 rfl (nI_incc k_ 1) (by decide) rfl ?_
                  refine z_goto X (pc := 213) 62 dX5_coat_213 (by decide) ?_
                  have hem : ¬ p.1 = 0 := c_154
                  have hco : coS s z k_ p = (p.1 - 1, p.2.1, 0, p.2.2.2) := by unfold coS; rw [if_pos hlt]; simp only [if_neg hem]
                  refine z_eq (lv2 := [(8, .int (nI (k_ + 1))), (5, .int (nI ((coS s z k_ p).2.1))), (4, .int (nI ((coS s z k_ p).1))), (12, .int (nI (p.1 - 1))), (7, .int (nI ((coS s z k_ p).2.2.2))), (6, .int (nI ((coS s z k_ p).2.2.1))), (11, .int (nI (drw z k_))), (9, .long (lN (7919 * z + (6151 * k_) + 1))), (0, .ref mq), (1, .int (nI z)), (2, .int (nI n)), (3, .int (nI wt))]) rfl (by rw [hco]) rfl ?_
                  refine z_lv [8, 9, 10, 11, 2, 1, 5, 4, 0] (lv2 := [(0, .ref mq), (1, .int (nI z)), (2, .int (nI n)), (3, .int (nI wt)), (4, .int (nI ((coS s z k_ p).1))), (5, .int (nI ((coS s z k_ p).2.1))), (6, .int (nI ((coS s z k_ p).2.2.1))), (7, .int (nI ((coS s z k_ p).2.2.2))), (8, .int (nI (k_ + 1)))]) rfl ?_
                  exact ih_62 (k_ + 1) (coS s z k_ p) (by omega) (by omega) (by rw [hp, co_s])
                · skip
                  refine z_iconst X (pc := 157) (nI 1) dX5_coat_157 (by decide) ?_
                  refine z_goto X (pc := 158) 162 dX5_coat_158 (by decide) ?_
                  refine z_iadd X (pc := 162) (v := (nI (p.2.2.2 + 1))) dX5_coat_162 (nI_add p.2.2.2 1) ?_
                  refine z_istore X (pc := 163) (i := 7) [(7, .int (nI (p.2.2.2 + 1))), (12, .int (nI p.1)), (6, .int (nI 0)), (11, .int (nI (drw z k_))), (9, .long (lN (7919 * z + (6151 * k_) + 1))), (0, .ref mq), (1, .int (nI z)), (2, .int (nI n)), (3, .int (nI wt)), (4, .int (nI p.1)), (5, .int (nI p.2.1)), (8, .int (nI k_))] dX5_coat_163 trivial (by decide) rfl ?_
                  refine z_iload X (pc := 165) 1 dX5_coat_165 rfl ?_
                  refine z_if_neN X (pc := 167) 175 (by omega) dX5_coat_167 (by decide) (fun c_167 => absurd c_167 (by omega)) (fun c_167 => ?_)
                  refine z_bipush X (pc := 170) (nI 10) dX5_coat_170 (by decide) ?_
                  refine z_goto X (pc := 172) 179 dX5_coat_172 (by decide) ?_
                  refine z_istore X (pc := 179) (i := 12) [(12, .int (nI 10)), (7, .int (nI (p.2.2.2 + 1))), (6, .int (nI 0)), (11, .int (nI (drw z k_))), (9, .long (lN (7919 * z + (6151 * k_) + 1))), (0, .ref mq), (1, .int (nI z)), (2, .int (nI n)), (3, .int (nI wt)), (4, .int (nI p.1)), (5, .int (nI p.2.1)), (8, .int (nI k_))] dX5_coat_179 trivial (by decide) rfl ?_
                  refine z_iload X (pc := 181) 2 dX5_coat_181 rfl ?_
                  refine z_if_neN X (pc := 183) 191 (by omega) dX5_coat_183 (by decide) (fun c_183 => absurd c_183 (by decide)) (fun c_183 => ?_)
                  refine z_iload X (pc := 186) 0 dX5_coat_186 rfl ?_
                  refine z_goto X (pc := 188) 193 dX5_coat_188 (by decide) ?_
                  refine z_istore X (pc := 193) (i := 4) [(4, .int (nI 10)), (12, .int (nI 10)), (7, .int (nI (p.2.2.2 + 1))), (6, .int (nI 0)), (11, .int (nI (drw z k_))), (9, .long (lN (7919 * z + (6151 * k_) + 1))), (0, .ref mq), (1, .int (nI z)), (2, .int (nI n)), (3, .int (nI wt)), (5, .int (nI p.2.1)), (8, .int (nI k_))] dX5_coat_193 trivial (by decide) rfl ?_
                  refine z_iload X (pc := 195) 3 dX5_coat_195 rfl ?_
                  refine z_iconst X (pc := 197) (nI 1) dX5_coat_197 (by decide) ?_
                  refine z_icmp_neN X (pc := 198) 206 (by omega) (by omega) dX5_coat_198 (by decide) (fun c_198 => ?_) (fun c_198 => absurd c_198 (by decide))
                  refine z_iload X (pc := 206) 10 dX5_coat_206 rfl ?_
                  refine z_istore X (pc := 208) (i := 5) [(5, .int (nI p.2.1)), (4, .int (nI 10)), (12, .int (nI 10)), (7, .int (nI (p.2.2.2 + 1))), (6, .int (nI 0)), (11, .int (nI (drw z k_))), (9, .long (lN (7919 * z + (6151 * k_) + 1))), (0, .ref mq), (1, .int (nI z)), (2, .int (nI n)), (3, .int (nI wt)), (8, .int (nI k_))] dX5_coat_208 trivial (by decide) rfl ?_
                  refine z_iinc X (pc := 210) (i := 8) 11 (nI (k_ + 1)) [(8, .int (nI (k_ + 1))), (5, .int (nI p.2.1)), (4, .int (nI 10)), (12, .int (nI 10)), (7, .int (nI (p.2.2.2 + 1))), (6, .int (nI 0)), (11, .int (nI (drw z k_))), (9, .long (lN (7919 * z + (6151 * k_) + 1))), (0, .ref mq), (1, .int (nI z)), (2, .int (nI n)), (3, .int (nI wt))] dX5_coat_210 rfl (nI_incc k_ 1) (by decide) rfl ?_
                  refine z_goto X (pc := 213) 62 dX5_coat_213 (by decide) ?_
                  have hem : p.1 = 0 := c_154
                  have hco : coS s z k_ p = (10, p.2.1, 0, p.2.2.2 + 1) := by unfold coS; rw [if_pos hlt]; simp only [if_pos hem]
                  refine z_eq (lv2 := [(8, .int (nI (k_ + 1))), (5, .int (nI ((coS s z k_ p).2.1))), (4, .int (nI ((coS s z k_ p).1))), (12, .int (nI 10)), (7, .int (nI ((coS s z k_ p).2.2.2))), (6, .int (nI ((coS s z k_ p).2.2.1))), (11, .int (nI (drw z k_))), (9, .long (lN (7919 * z + (6151 * k_) + 1))), (0, .ref mq), (1, .int (nI z)), (2, .int (nI n)), (3, .int (nI wt))]) rfl (by rw [hco]) rfl ?_
                  refine z_lv [8, 9, 10, 11, 2, 1, 5, 4, 0] (lv2 := [(0, .ref mq), (1, .int (nI z)), (2, .int (nI n)), (3, .int (nI wt)), (4, .int (nI ((coS s z k_ p).1))), (5, .int (nI ((coS s z k_ p).2.1))), (6, .int (nI ((coS s z k_ p).2.2.1))), (7, .int (nI ((coS s z k_ p).2.2.2))), (8, .int (nI (k_ + 1)))]) rfl ?_
                  exact ih_62 (k_ + 1) (coS s z k_ p) (by omega) (by omega) (by rw [hp, co_s])
        refine z_eq (lv2 := [(8, .int (nI 0)), (7, .int (nI (((s 0, s 1, s 2, 0) : Nat × Nat × Nat × Nat).2.2.2))), (6, .int (nI (((s 0, s 1, s 2, 0) : Nat × Nat × Nat × Nat).2.2.1))), (5, .int (nI (((s 0, s 1, s 2, 0) : Nat × Nat × Nat × Nat).2.1))), (4, .int (nI (((s 0, s 1, s 2, 0) : Nat × Nat × Nat × Nat).1))), (0, .ref mq), (1, .int (nI z)), (2, .int (nI n)), (3, .int (nI wt))]) rfl rfl rfl ?_
        refine z_lv [5, 6, 7, 8, 4, 3, 2, 1, 0] (lv2 := [(0, .ref mq), (1, .int (nI z)), (2, .int (nI n)), (3, .int (nI wt)), (4, .int (nI (((s 0, s 1, s 2, 0) : Nat × Nat × Nat × Nat).1))), (5, .int (nI (((s 0, s 1, s 2, 0) : Nat × Nat × Nat × Nat).2.1))), (6, .int (nI (((s 0, s 1, s 2, 0) : Nat × Nat × Nat × Nat).2.2.1))), (7, .int (nI (((s 0, s 1, s 2, 0) : Nat × Nat × Nat × Nat).2.2.2))), (8, .int (nI 0))]) rfl ?_
        exact loop_62 (n + 1) 0 (s 0, s 1, s 2, 0) (by omega) (by omega) (co_z s z).symm
      · skip
        refine z_iconst X (pc := 30) (-1) dX5_coat_30 (by decide) ?_
        exact hRet.i dX5_coat_31 ⟨by rw [dz_bad (a := 0) (b := 1) c_27]; cases dz 0 9999 e1 <;> cases dz 1 60 e2 <;> rfl, rfl⟩

abbrev rm_X5_level : Room := { frames := 2, cells := 0, slots := 0, locals := 62 }
set_option maxHeartbeats 4000000 in
set_option maxRecDepth 100000 in
theorem c_X5_level (lq : Launch) (D : va_G) (t : zT) (mq mT mD mS mP mI mE mH mX mR mO ty ev kn kp sg : Nat) (at_ : Int32) (fs : Int64) (s : Nat → Nat) (f1 f2 f3 f4 : Nat → Int64) (e : Int32) (hs : sOk s) : Ct lq D t yX5_level cX5_level 8 (some .int) rm_X5_level [.ref mq, .int e] [eX5 mq mT (nI ty) mD mS (nI ev) mP (nI kn) mI (nI kp) mE (nI sg) at_ mH mX mR mO fs, eI t mS 5 (nf s), eL t mH 363 f1, eL t mX 363 f2, eL t mR 11 f3, eL t mO 22 f4] 0 0 (fun rv rw_ => ∃ (FS : Int64) (F1 : Nat → Int64) (F2 : Nat → Int64) (F3 : Nat → Int64) (F4 : Nat → Int64), rv = some (.int (an_level s (dz 0 20 e))) ∧ rw_ = [eX5 mq mT (nI ty) mD mS (nI ev) mP (nI kn) mI (nI kp) mE (nI sg) at_ mH mX mR mO FS, eI t mS 5 (nf s), eL t mH 363 F1, eL t mX 363 F2, eL t mR 11 F3, eL t mO 22 F4]) := by
  refine Ct.of (by decide) (Nat.le_of_ble_eq_true rfl) (fun k X hRet => ?_)
  have X : zX D t k cX5_level 8 RX5 "level" rm_X5_level lq := X
  refine z_eq (lv2 := [(0, .ref mq), (1, .int e)]) rfl rfl rfl ?_
  have hsk := hs
  obtain ⟨hs0, hs1, hs2, hs3, hs4⟩ := hs
  refine z_iload_n X (pc := 0) 1 dX5_level_0 rfl ?_
  refine z_iconst X (pc := 1) (nI 0) dX5_level_1 (by decide) ?_
  refine z_bipush X (pc := 2) (nI 20) dX5_level_2 (by decide) ?_
  refine zc_S (as := [.int e, .int (nI 0), .int (nI 20)]) X (pc := 4) (c_X5_in lq D t e (nI 0) (nI 20) ) tw_615 tw_617 tw_7 tw_616 [] rfl rfl dX5_level_4 rfl zdX5_in ⟨rfl, rfl, Nat.le_of_ble_eq_true rfl, Nat.le_of_ble_eq_true rfl⟩ (Nat.le_of_ble_eq_true rfl) (Nat.zero_le _) (Nat.zero_le _) (fun v_1 w_2 hp_3 => ?_)
  obtain ⟨rfl, rfl⟩ := hp_3
  refine ⟨rfl, ?_⟩
  refine z_eq (ws2 := [eX5 mq mT (nI ty) mD mS (nI ev) mP (nI kn) mI (nI kp) mE (nI sg) at_ mH mX mR mO fs, eI t mS 5 (nf s), eL t mH 363 f1, eL t mX 363 f2, eL t mR 11 f3, eL t mO 22 f4]) (st2 := [.int (zb ((nI 0) ≤ e ∧ e ≤ (nI 20)))]) rfl rfl rfl ?_
  refine z_if_neB X (pc := 7) 12 dX5_level_7 (by decide) (fun c_7 => ?_) (fun c_7 => ?_)
  · skip
    obtain ⟨n, n_lo, n_hi, rfl⟩ := inR (by decide) (by decide) c_7
    refine z_aload_n X (pc := 12) 0 dX5_level_12 rfl ?_
    refine zc_V (as := []) X (pc := 13) (c_X5_clears lq D t mq mT mD mS mP mI mE mH mX mR mO ty ev kn kp sg at_ fs f3 f4 ) tw_703 tw_706 tw_7 tw_705 tw_1032 0 5 rfl rfl [0, 4, 5] rfl rfl dX5_level_13 rfl zdX5_clears ⟨rfl, rfl, Nat.le_of_ble_eq_true rfl, Nat.le_of_ble_eq_true rfl⟩ (Nat.le_of_ble_eq_true rfl) (Nat.zero_le _) (Nat.zero_le _) (fun v_4 w_5 hp_6 => ?_)
    obtain ⟨rfl, rfl⟩ := hp_6
    refine ⟨rfl, ?_⟩
    refine z_eq (ws2 := [eX5 mq mT (nI ty) mD mS (nI ev) mP (nI kn) mI (nI kp) mE (nI sg) at_ mH mX mR mO (lN 0), eI t mS 5 (nf s), eL t mH 363 f1, eL t mX 363 f2, eL t mR 11 (lf (fun _ => 0)), eL t mO 22 (lf (fun _ => 0))]) (st2 := []) rfl rfl rfl ?_
    refine z_aload_n X (pc := 16) 0 dX5_level_16 rfl ?_
    refine z_aload_n X (pc := 17) 0 dX5_level_17 rfl ?_
    refine z_get X (pc := 18) 0 3 (.ref mS) tu_5 tw_562 dX5_level_18 rfl rfl (by decide) rfl rfl ?_
    refine z_iconst X (pc := 21) (nI 0) dX5_level_21 (by decide) ?_
    refine z_iald X (pc := 22) 1 0 (nI (s 0)) dX5_level_22 rfl rfl (Nat.le_of_ble_eq_true rfl) (by decide) rfl ?_
    refine z_aload_n X (pc := 23) 0 dX5_level_23 rfl ?_
    refine z_get X (pc := 24) 0 3 (.ref mS) tu_5 tw_562 dX5_level_24 rfl rfl (by decide) rfl rfl ?_
    refine z_iconst X (pc := 27) (nI 1) dX5_level_27 (by decide) ?_
    refine z_iald X (pc := 28) 1 1 (nI (s 1)) dX5_level_28 rfl rfl (Nat.le_of_ble_eq_true rfl) (by decide) rfl ?_
    refine z_aload_n X (pc := 29) 0 dX5_level_29 rfl ?_
    refine z_get X (pc := 30) 0 3 (.ref mS) tu_5 tw_562 dX5_level_30 rfl rfl (by decide) rfl rfl ?_
    refine z_iconst X (pc := 33) (nI 2) dX5_level_33 (by decide) ?_
    refine z_iald X (pc := 34) 1 2 (nI (s 2)) dX5_level_34 rfl rfl (Nat.le_of_ble_eq_true rfl) (by decide) rfl ?_
    refine zc_V (as := [.int (nI (s 0)), .int (nI (s 1)), .int (nI (s 2))]) X (pc := 35) (c_X5_begin0 lq D t mq mT mD mS mP mI mE mH mX mR mO ty ev kn kp sg at_ (lN 0) (s 0) (s 1) (s 2) f1 (by omega) (by omega) (by omega)) tw_708 tw_711 tw_7 tw_710 tw_1033 0 5 rfl rfl [0, 2] rfl rfl dX5_level_35 rfl zdX5_begin0 ⟨rfl, rfl, Nat.le_of_ble_eq_true rfl, Nat.le_of_ble_eq_true rfl⟩ (Nat.le_of_ble_eq_true rfl) (Nat.zero_le _) (Nat.zero_le _) (fun v_7 w_8 hp_9 => ?_)
    obtain ⟨rfl, rfl⟩ := hp_9
    refine ⟨rfl, ?_⟩
    refine z_eq (ws2 := [eX5 mq mT (nI ty) mD mS (nI ev) mP (nI kn) mI (nI kp) mE (nI sg) at_ mH mX mR mO (lN 0), eI t mS 5 (nf s), eL t mH 363 (lf (emb ((s 0) + (s 1)) (vup (fun _ => 0) ((s 0) * 3 + (s 2)) 1))), eL t mX 363 f2, eL t mR 11 (lf (fun _ => 0)), eL t mO 22 (lf (fun _ => 0))]) (st2 := []) rfl rfl rfl ?_
    refine z_lconst X (pc := 38) (lN 1) dX5_level_38 (by decide) ?_
    refine z_lstore_n X (pc := 39) (i := 2) [(2, .long (lN 1)), (0, .ref mq), (1, .int (nI n))] dX5_level_39 rfl (by decide) rfl ?_
    refine z_iconst X (pc := 40) (nI 1) dX5_level_40 (by decide) ?_
    refine z_istore X (pc := 41) (i := 4) [(4, .int (nI 1)), (2, .long (lN 1)), (0, .ref mq), (1, .int (nI n))] dX5_level_41 trivial (by decide) rfl ?_
    have loop_43 : ∀ (fuel_43 : Nat) (st_ : Nat) (b : wA) (os : Nat → Nat) (sn : Nat → Nat) (el : Nat) (f2 : Nat → Int64), n + 1 < st_ + fuel_43 → (1 ≤ st_ ∧ st_ ≤ n + 1) → (b = (rn (s 3) (s 4) 0 (s 0) (s 1) (s 2) (st_ - 1))) → Z D k (0, 0) [eX5 mq mT (nI ty) mD mS (nI ev) mP (nI kn) mI (nI kp) mE (nI sg) at_ mH mX mR mO (lN el), eI t mS 5 (nf s), eL t mH 363 (lf (emb (s 0 + s 1 - (st_ - 1)) b.1)), eL t mX 363 f2, eL t mR 11 (lf os), eL t mO 22 (lf sn)] 43 [(0, .ref mq), (1, .int (nI n)), (2, .long (lN (4 ^ (st_ - 1)))), (4, .int (nI st_))] [] := by
      intro fuel_43
      induction fuel_43 with
      | zero =>
        intro st_ b os sn el f2 hfuel_43 hst hb
        exfalso; omega
      | succ fuel_43 ih_43 =>
        intro st_ b os sn el f2 hfuel_43 hst hb
        have hwk := wok_run (kd := s 3) (en := 0) hs4 (wok0 (en := 0) hs0 hs1 hs2) (st_ - 1)
        rw [show wrun (s 3) (s 4) 0 (s 0 + s 1) 21 (wst0 0 (s 0) (s 1) (s 2)) (st_ - 1) = b from hb.symm] at hwk
        refine z_iload X (pc := 43) 3 dX5_level_43 rfl ?_
        refine z_iload_n X (pc := 45) 1 dX5_level_45 rfl ?_
        refine z_icmp_gtN X (pc := 46) 81 (by omega) (by omega) dX5_level_46 (by decide) (fun c_46 => ?_) (fun c_46 => ?_)
        · skip
          refine z_lconst X (pc := 81) (lN 0) dX5_level_81 (by decide) ?_
          refine z_lstore X (pc := 82) (i := 4) [(4, .long (lN 0)), (0, .ref mq), (1, .int (nI n)), (2, .long (lN (4 ^ (st_ - 1))))] dX5_level_82 trivial (by decide) rfl ?_
          refine z_iconst X (pc := 84) (nI 0) dX5_level_84 (by decide) ?_
          refine z_istore X (pc := 85) (i := 6) [(6, .int (nI 0)), (4, .long (lN 0)), (0, .ref mq), (1, .int (nI n)), (2, .long (lN (4 ^ (st_ - 1))))] dX5_level_85 trivial (by decide) rfl ?_
          have loop_87 : ∀ (fuel_87 : Nat) (j : Nat) (su : Nat), 11 < j + fuel_87 → (j ≤ 11) → (su = sm (diag (s 0 + s 1 - n) (rn (s 3) (s 4) 0 (s 0) (s 1) (s 2) n).1) j) → Z D k (0, 0) [eX5 mq mT (nI ty) mD mS (nI ev) mP (nI kn) mI (nI kp) mE (nI sg) at_ mH mX mR mO (lN el), eI t mS 5 (nf s), eL t mH 363 (lf (emb (s 0 + s 1 - n) (rn (s 3) (s 4) 0 (s 0) (s 1) (s 2) n).1)), eL t mX 363 f2, eL t mR 11 (lf os), eL t mO 22 (lf sn)] 87 [(0, .ref mq), (1, .int (nI n)), (2, .long (lN (4 ^ n))), (4, .long (lN su)), (6, .int (nI j))] [] := by
            intro fuel_87
            induction fuel_87 with
            | zero =>
              intro j su hfuel_87 hj hsu
              exfalso; omega
            | succ fuel_87 ih_87 =>
              intro j su hfuel_87 hj hsu
              refine z_iload X (pc := 87) 4 dX5_level_87 rfl ?_
              refine z_bipush X (pc := 89) (nI 11) dX5_level_89 (by decide) ?_
              refine z_icmp_geN X (pc := 91) 134 (by omega) (by omega) dX5_level_91 (by decide) (fun c_91 => ?_) (fun c_91 => ?_)
              · skip
                refine z_lload X (pc := 134) 3 dX5_level_134 rfl ?_
                refine z_lload_n X (pc := 136) 2 dX5_level_136 rfl ?_
                refine zc_S (as := [.long (lN su), .long (lN (4 ^ n))]) X (pc := 137) (c_X5_cut lq D t su (4 ^ n) (by rw [hsu, show j = 11 by omega, diag_lev (by omega)]; have h9 := lev_bd (m := s 0 + s 1 - n) (by omega) (wok_run (kd := s 3) (en := 0) hs4 (wok0 (en := 0) hs0 hs1 hs2) n); have h8 := Nat.le_mul_of_pos_right (lev (s 0 + s 1 - n) (rn (s 3) (s 4) 0 (s 0) (s 1) (s 2) n).1) (pow4_pos (21 - n)); exact Nat.le_trans h8 h9) ⟨pow4_pos n, by have h9 : 4 ^ n ≤ 4 ^ 20 := Nat.pow_le_pow_right (by decide) (by omega); have h8 : (4 : Nat) ^ 20 = 1099511627776 := rfl; omega⟩) tw_720 tw_722 tw_7 tw_721 [] rfl rfl dX5_level_137 rfl zdX5_cut ⟨rfl, rfl, Nat.le_of_ble_eq_true rfl, Nat.le_of_ble_eq_true rfl⟩ (Nat.le_of_ble_eq_true rfl) (Nat.zero_le _) (Nat.zero_le _) (fun v_10 w_11 hp_12 => ?_)
                obtain ⟨rfl, rfl⟩ := hp_12
                refine ⟨rfl, ?_⟩
                refine z_eq (ws2 := [eX5 mq mT (nI ty) mD mS (nI ev) mP (nI kn) mI (nI kp) mE (nI sg) at_ mH mX mR mO (lN el), eI t mS 5 (nf s), eL t mH 363 (lf (emb (s 0 + s 1 - n) (rn (s 3) (s 4) 0 (s 0) (s 1) (s 2) n).1)), eL t mX 363 f2, eL t mR 11 (lf os), eL t mO 22 (lf sn)]) (st2 := [.int (nI (10000 * su / (4 ^ n)))]) rfl rfl rfl ?_
                exact hRet.i dX5_level_140 ⟨(lN el), (lf (emb (s 0 + s 1 - n) (rn (s 3) (s 4) 0 (s 0) (s 1) (s 2) n).1)), f2, (lf os), (lf sn), by rw [dz_ok (j := n) (a := 0) (b := 20) (by decide) n_lo n_hi]; show _ = some (Value.int (nI _)); rw [hsu, show j = 11 by omega, diag_lev (by omega), pow_cut (by omega)], rfl⟩
              · skip
                refine z_iconst X (pc := 94) (nI 0) dX5_level_94 (by decide) ?_
                refine z_istore X (pc := 95) (i := 7) [(7, .int (nI 0)), (0, .ref mq), (1, .int (nI n)), (2, .long (lN (4 ^ n))), (4, .long (lN su)), (6, .int (nI j))] dX5_level_95 trivial (by decide) rfl ?_
                have loop_97 : ∀ (fuel_97 : Nat) (la : Nat) (su2 : Nat), 3 < la + fuel_97 → (la ≤ 3) → (su2 = su + (if j + j = s 0 + s 1 - n then sm (fun i => (rn (s 3) (s 4) 0 (s 0) (s 1) (s 2) n).1 (j * 3 + i)) la else 0)) → Z D k (0, 0) [eX5 mq mT (nI ty) mD mS (nI ev) mP (nI kn) mI (nI kp) mE (nI sg) at_ mH mX mR mO (lN el), eI t mS 5 (nf s), eL t mH 363 (lf (emb (s 0 + s 1 - n) (rn (s 3) (s 4) 0 (s 0) (s 1) (s 2) n).1)), eL t mX 363 f2, eL t mR 11 (lf os), eL t mO 22 (lf sn)] 97 [(0, .ref mq), (1, .int (nI n)), (2, .long (lN (4 ^ n))), (4, .long (lN su2)), (6, .int (nI j)), (7, .int (nI la))] [] := by
                  intro fuel_97
                  induction fuel_97 with
                  | zero =>
                    intro la su2 hfuel_97 hla hsu2
                    exfalso; omega
                  | succ fuel_97 ih_97 =>
                    intro la su2 hfuel_97 hla hsu2
                    refine z_iload X (pc := 97) 5 dX5_level_97 rfl ?_
                    refine z_iconst X (pc := 99) (nI 3) dX5_level_99 (by decide) ?_
                    refine z_icmp_geN X (pc := 100) 128 (by omega) (by omega) dX5_level_100 (by decide) (fun c_100 => ?_) (fun c_100 => ?_)
                    · skip
                      refine z_iinc X (pc := 128) (i := 6) 4 (nI (j + 1)) [(6, .int (nI (j + 1))), (0, .ref mq), (1, .int (nI n)), (2, .long (lN (4 ^ n))), (4, .long (lN su2)), (7, .int (nI la))] dX5_level_128 rfl (nI_incc j 1) (by decide) rfl ?_
                      refine z_goto X (pc := 131) 87 dX5_level_131 (by decide) ?_
                      refine z_lv [1, 2, 3, 4, 0] (lv2 := [(0, .ref mq), (1, .int (nI n)), (2, .long (lN (4 ^ n))), (4, .long (lN su2)), (6, .int (nI (j + 1)))]) rfl ?_
                      exact ih_87 (j + 1) su2 (by omega) (by omega) (by rw [hsu2, show la = 3 by omega, sm_s (diag (s 0 + s 1 - n) (rn (s 3) (s 4) 0 (s 0) (s 1) (s 2) n).1) j, hsu]; rfl)
                    · skip
                      refine z_lload X (pc := 103) 3 dX5_level_103 rfl ?_
                      refine z_aload_n X (pc := 105) 0 dX5_level_105 rfl ?_
                      refine z_get X (pc := 106) 0 12 (.ref mH) tu_5 tw_571 dX5_level_106 rfl rfl (by decide) rfl rfl ?_
                      refine z_iload X (pc := 109) 4 dX5_level_109 rfl ?_
                      refine z_iload X (pc := 111) 4 dX5_level_111 rfl ?_
                      refine z_iload X (pc := 113) 5 dX5_level_113 rfl ?_
                      refine zc_S (as := [.int (nI j), .int (nI j), .int (nI la)]) X (pc := 115) (c_X5_spot lq D t j j la ) tw_712 tw_714 tw_7 tw_713 [] rfl rfl dX5_level_115 rfl zdX5_spot ⟨rfl, rfl, Nat.le_of_ble_eq_true rfl, Nat.le_of_ble_eq_true rfl⟩ (Nat.le_of_ble_eq_true rfl) (Nat.zero_le _) (Nat.zero_le _) (fun v_13 w_14 hp_15 => ?_)
                      obtain ⟨rfl, rfl⟩ := hp_15
                      refine ⟨rfl, ?_⟩
                      refine z_eq (ws2 := [eX5 mq mT (nI ty) mD mS (nI ev) mP (nI kn) mI (nI kp) mE (nI sg) at_ mH mX mR mO (lN el), eI t mS 5 (nf s), eL t mH 363 (lf (emb (s 0 + s 1 - n) (rn (s 3) (s 4) 0 (s 0) (s 1) (s 2) n).1)), eL t mX 363 f2, eL t mR 11 (lf os), eL t mO 22 (lf sn)]) (st2 := [.int (nI (33 * j + 3 * j + la)), .ref mH, .long (lN su2)]) rfl rfl rfl ?_
                      refine z_lald X (pc := 118) 2 (33 * j + 3 * j + la) (lN (if j + j = s 0 + s 1 - n then (rn (s 3) (s 4) 0 (s 0) (s 1) (s 2) n).1 (j * 3 + la) else 0)) dX5_level_118 rfl rfl (Nat.le_of_ble_eq_true rfl) (by omega) (by show lN (emb _ _ _) = _; rw [emb_at (by omega) (by omega)]) ?_
                      refine z_ladd X (pc := 119) (v := (lN (su2 + (if j + j = s 0 + s 1 - n then (rn (s 3) (s 4) 0 (s 0) (s 1) (s 2) n).1 (j * 3 + la) else 0)))) dX5_level_119 (lN_add su2 (if j + j = s 0 + s 1 - n then (rn (s 3) (s 4) 0 (s 0) (s 1) (s 2) n).1 (j * 3 + la) else 0)) ?_
                      refine z_lstore X (pc := 120) (i := 4) [(4, .long (lN (su2 + (if j + j = s 0 + s 1 - n then (rn (s 3) (s 4) 0 (s 0) (s 1) (s 2) n).1 (j * 3 + la) else 0)))), (0, .ref mq), (1, .int (nI n)), (2, .long (lN (4 ^ n))), (6, .int (nI j)), (7, .int (nI la))] dX5_level_120 trivial (by decide) rfl ?_
                      refine z_iinc X (pc := 122) (i := 7) 5 (nI (la + 1)) [(7, .int (nI (la + 1))), (4, .long (lN (su2 + (if j + j = s 0 + s 1 - n then (rn (s 3) (s 4) 0 (s 0) (s 1) (s 2) n).1 (j * 3 + la) else 0)))), (0, .ref mq), (1, .int (nI n)), (2, .long (lN (4 ^ n))), (6, .int (nI j))] dX5_level_122 rfl (nI_incc la 1) (by decide) rfl ?_
                      refine z_goto X (pc := 125) 97 dX5_level_125 (by decide) ?_
                      refine z_lv [2, 3, 4, 1, 5, 0] (lv2 := [(0, .ref mq), (1, .int (nI n)), (2, .long (lN (4 ^ n))), (4, .long (lN (su2 + (if j + j = s 0 + s 1 - n then (rn (s 3) (s 4) 0 (s 0) (s 1) (s 2) n).1 (j * 3 + la) else 0)))), (6, .int (nI j)), (7, .int (nI (la + 1)))]) rfl ?_
                      exact ih_97 (la + 1) (su2 + (if j + j = s 0 + s 1 - n then (rn (s 3) (s 4) 0 (s 0) (s 1) (s 2) n).1 (j * 3 + la) else 0)) (by omega) (by omega) (by rw [hsu2, Nat.add_assoc]; congr 1; split; rw [sm_s]; rfl)
                refine z_lv [1, 2, 3, 4, 5, 0] (lv2 := [(0, .ref mq), (1, .int (nI n)), (2, .long (lN (4 ^ n))), (4, .long (lN su)), (6, .int (nI j)), (7, .int (nI 0))]) rfl ?_
                exact loop_97 4 0 su (by omega) (by omega) (by split; rw [sm_z]; rfl; rfl)
          have hsn : st_ - 1 = n := by omega
          refine z_eq (ws2 := [eX5 mq mT (nI ty) mD mS (nI ev) mP (nI kn) mI (nI kp) mE (nI sg) at_ mH mX mR mO (lN el), eI t mS 5 (nf s), eL t mH 363 (lf (emb (s 0 + s 1 - n) (rn (s 3) (s 4) 0 (s 0) (s 1) (s 2) n).1)), eL t mX 363 f2, eL t mR 11 (lf os), eL t mO 22 (lf sn)]) (lv2 := [(6, .int (nI 0)), (4, .long (lN 0)), (0, .ref mq), (1, .int (nI n)), (2, .long (lN (4 ^ n)))]) (by rw [hb, hsn]) (by rw [hsn]) rfl ?_
          refine z_lv [2, 3, 4, 1, 0] (lv2 := [(0, .ref mq), (1, .int (nI n)), (2, .long (lN (4 ^ n))), (4, .long (lN 0)), (6, .int (nI 0))]) rfl ?_
          exact loop_87 12 0 0 (by omega) (by omega) (sm_z _).symm
        · skip
          refine z_aload_n X (pc := 49) 0 dX5_level_49 rfl ?_
          refine z_aload_n X (pc := 50) 0 dX5_level_50 rfl ?_
          refine z_get X (pc := 51) 0 3 (.ref mS) tu_5 tw_562 dX5_level_51 rfl rfl (by decide) rfl rfl ?_
          refine z_iconst X (pc := 54) (nI 3) dX5_level_54 (by decide) ?_
          refine z_iald X (pc := 55) 1 3 (nI (s 3)) dX5_level_55 rfl rfl (Nat.le_of_ble_eq_true rfl) (by decide) rfl ?_
          refine z_aload_n X (pc := 56) 0 dX5_level_56 rfl ?_
          refine z_get X (pc := 57) 0 3 (.ref mS) tu_5 tw_562 dX5_level_57 rfl rfl (by decide) rfl rfl ?_
          refine z_iconst X (pc := 60) (nI 4) dX5_level_60 (by decide) ?_
          refine z_iald X (pc := 61) 1 4 (nI (s 4)) dX5_level_61 rfl rfl (Nat.le_of_ble_eq_true rfl) (by decide) rfl ?_
          refine z_iconst X (pc := 62) (nI 0) dX5_level_62 (by decide) ?_
          refine z_iload X (pc := 63) 3 dX5_level_63 rfl ?_
          refine z_lconst X (pc := 65) (lN 0) dX5_level_65 (by decide) ?_
          refine zc_V (as := [.int (nI (s 3)), .int (nI (s 4)), .int (nI 0), .int (nI st_), .long (lN 0)]) X (pc := 66) (c_X5_goes lq D t mq mT mD mS mP mI mE mH mX mR mO ty ev kn kp sg at_ (lN 0) (s 3) (s 4) 0 st_ 0 (s 0 + s 1 - (st_ - 1)) el b.1 os sn f2 (by omega) (by omega) (by decide) (by omega) (by omega) hwk.1 (fun c hc => by have h9 := wok_bd hwk hc; have h8 := Nat.le_mul_of_pos_right (b.1 c) (pow4_pos (21 - (st_ - 1))); omega)) tw_716 tw_719 tw_7 tw_718 tw_1034 0 5 rfl rfl [0, 2, 3, 4, 5] rfl rfl dX5_level_66 rfl zdX5_goes ⟨rfl, rfl, Nat.le_of_ble_eq_true rfl, Nat.le_of_ble_eq_true rfl⟩ (Nat.le_of_ble_eq_true rfl) (Nat.zero_le _) (Nat.zero_le _) (fun v_16 w_17 hp_18 => ?_)
          obtain ⟨F2_19, rfl, rfl⟩ := hp_18
          refine ⟨rfl, ?_⟩
          refine z_eq (ws2 := [eX5 mq mT (nI ty) mD mS (nI ev) mP (nI kn) mI (nI kp) mE (nI sg) at_ mH mX mR mO (lN ((cou (s 3) (s 4) 0 0 (s 0 + s 1 - (st_ - 1)) b.1 11 (((fun _ => 0), os, sn st_, el) : wA)).2.2.2)), eI t mS 5 (nf s), eL t mH 363 (lf (emb ((s 0 + s 1 - (st_ - 1)) - 1) (cou (s 3) (s 4) 0 0 (s 0 + s 1 - (st_ - 1)) b.1 11 (((fun _ => 0), os, sn st_, el) : wA)).1)), eL t mX 363 F2_19, eL t mR 11 (lf ((cou (s 3) (s 4) 0 0 (s 0 + s 1 - (st_ - 1)) b.1 11 (((fun _ => 0), os, sn st_, el) : wA)).2.1)), eL t mO 22 (lf (vup sn st_ (cou (s 3) (s 4) 0 0 (s 0 + s 1 - (st_ - 1)) b.1 11 (((fun _ => 0), os, sn st_, el) : wA)).2.2.1))]) (st2 := []) rfl rfl rfl ?_
          obtain ⟨b2, hb2⟩ : ∃ bb : wA, bb = (rn (s 3) (s 4) 0 (s 0) (s 1) (s 2) (st_ - 1 + 1)) := ⟨_, rfl⟩
          have hb3 : (cou (s 3) (s 4) 0 0 (s 0 + s 1 - (st_ - 1)) b.1 11 ((fun _ => 0), os, sn st_, el)).1 = b2.1 := by rw [hb2, rn, wrun_s, ← rn, ← hb]; exact wst_fst _ _ _ _ _ _
          refine z_eq (ws2 := [eX5 mq mT (nI ty) mD mS (nI ev) mP (nI kn) mI (nI kp) mE (nI sg) at_ mH mX mR mO (lN ((cou (s 3) (s 4) 0 0 (s 0 + s 1 - (st_ - 1)) b.1 11 (((fun _ => 0), os, sn st_, el) : wA)).2.2.2)), eI t mS 5 (nf s), eL t mH 363 (lf (emb (s 0 + s 1 - (st_ + 1 - 1)) b2.1)), eL t mX 363 F2_19, eL t mR 11 (lf ((cou (s 3) (s 4) 0 0 (s 0 + s 1 - (st_ - 1)) b.1 11 (((fun _ => 0), os, sn st_, el) : wA)).2.1)), eL t mO 22 (lf (vup sn st_ (cou (s 3) (s 4) 0 0 (s 0 + s 1 - (st_ - 1)) b.1 11 (((fun _ => 0), os, sn st_, el) : wA)).2.2.1))]) (by rw [hb3, Nat.sub_sub, show st_ - 1 + 1 = st_ by omega, show st_ + 1 - 1 = st_ by omega]) rfl rfl ?_
          refine z_lload_n X (pc := 69) 2 dX5_level_69 rfl ?_
          refine z_ldc2 X (pc := 70) (4) dX5_level_70 tw_715 ?_
          refine z_topl (lN 4) rfl ?_
          refine z_lmul X (pc := 73) (v := (lN ((4 ^ (st_ - 1)) * 4))) dX5_level_73 (lN_mul _ _) ?_
          refine z_lstore_n X (pc := 74) (i := 2) [(2, .long (lN ((4 ^ (st_ - 1)) * 4))), (0, .ref mq), (1, .int (nI n)), (4, .int (nI st_))] dX5_level_74 rfl (by decide) rfl ?_
          refine z_iinc X (pc := 75) (i := 4) 3 (nI (st_ + 1)) [(4, .int (nI (st_ + 1))), (2, .long (lN ((4 ^ (st_ - 1)) * 4))), (0, .ref mq), (1, .int (nI n))] dX5_level_75 rfl (nI_incc st_ 1) (by decide) rfl ?_
          refine z_goto X (pc := 78) 43 dX5_level_78 (by decide) ?_
          refine z_eq (lv2 := [(4, .int (nI (st_ + 1))), (2, .long (lN (4 ^ (st_ + 1 - 1)))), (0, .ref mq), (1, .int (nI n))]) rfl (by rw [show st_ + 1 - 1 = (st_ - 1) + 1 by omega, Nat.pow_succ]) rfl ?_
          refine z_lv [2, 3, 1, 0] (lv2 := [(0, .ref mq), (1, .int (nI n)), (2, .long (lN (4 ^ (st_ + 1 - 1)))), (4, .int (nI (st_ + 1)))]) rfl ?_
          exact ih_43 (st_ + 1) b2 ((cou (s 3) (s 4) 0 0 (s 0 + s 1 - (st_ - 1)) b.1 11 (((fun _ => 0), os, sn st_, el) : wA)).2.1) (vup sn st_ (cou (s 3) (s 4) 0 0 (s 0 + s 1 - (st_ - 1)) b.1 11 (((fun _ => 0), os, sn st_, el) : wA)).2.2.1) ((cou (s 3) (s 4) 0 0 (s 0 + s 1 - (st_ - 1)) b.1 11 (((fun _ => 0), os, sn st_, el) : wA)).2.2.2) F2_19 (by omega) (by omega) (by rw [hb2, show st_ - 1 + 1 = st_ by omega, show st_ + 1 - 1 = st_ by omega])
    obtain ⟨b0, hb0⟩ : ∃ b : wA, b = (rn (s 3) (s 4) 0 (s 0) (s 1) (s 2) 0) := ⟨_, rfl⟩
    have hb1 : b0 = (vup (fun _ => 0) (s 0 * 3 + s 2) 1, (fun _ => 0), 0, 0) := by rw [hb0, rn, wrun_z, wst0, if_neg (by omega)]
    refine z_eq (ws2 := [eX5 mq mT (nI ty) mD mS (nI ev) mP (nI kn) mI (nI kp) mE (nI sg) at_ mH mX mR mO (lN 0), eI t mS 5 (nf s), eL t mH 363 (lf (emb (s 0 + s 1 - (1 - 1)) b0.1)), eL t mX 363 f2, eL t mR 11 (lf (fun _ => 0)), eL t mO 22 (lf (fun _ => 0))]) (by rw [hb1]; rfl) rfl rfl ?_
    refine z_lv [2, 3, 1, 0] (lv2 := [(0, .ref mq), (1, .int (nI n)), (2, .long (lN 1)), (4, .int (nI 1))]) rfl ?_
    exact loop_43 (n + 2) 1 b0 (fun _ => 0) (fun _ => 0) 0 f2 (by omega) (by omega) hb0
  · skip
    refine z_iconst X (pc := 10) (-1) dX5_level_10 (by decide) ?_
    exact hRet.i dX5_level_11 ⟨fs, f1, f2, f3, f4, by rw [dz_bad c_7]; rfl, rfl⟩
