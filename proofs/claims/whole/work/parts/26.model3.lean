/-! PART 26: the reference: worth, begin, over, better, evenings, coat, level -/
theorem nI_m4 {n : Nat} (h : n < 2 ^ 31) : ¬ nI n = -4 := by
  intro z
  have h0 := nI_pos (n := n) h
  rw [z] at h0
  exact h0 (by decide)
def bgF (o : Option (Nat × Nat)) : Int32 := match o with
  | none => -4
  | some p => nI p.1
def bgL (o : Option (Nat × Nat)) : Nat := match o with
  | none => 0
  | some p => p.2
theorem i32_sub_neg (a k : Nat) : nI a - -(nI k) = nI (a + k) := by rw [Int32.sub_neg, nI_add]
theorem i32_add_neg (a k : Nat) : nI a + -(nI k) = nI a - nI k := (Int32.sub_eq_add_neg _ _).symm
theorem pow_cut {u n : Nat} (hn : n ≤ 21) : 10000 * u / 4 ^ n = u * 4 ^ (21 - n) * 10000 / 4398046511104 := by
  have e : (4398046511104 : Nat) = 4 ^ n * 4 ^ (21 - n) := by rw [← Nat.pow_add, show n + (21 - n) = 21 by omega]
  rw [e, show u * 4 ^ (21 - n) * 10000 = 10000 * u * 4 ^ (21 - n) by rw [Nat.mul_comm (u * 4 ^ (21 - n)), Nat.mul_assoc], Nat.mul_div_mul_right _ _ (pow4_pos _)]
/-- both boxes alike: the diagonal of the reference's row -/
noncomputable def diag (M : Nat) (w : Nat → Nat) (k : Nat) : Nat := if k + k = M then sm (fun j => w (k * 3 + j)) 3 else 0
theorem diag_sum {M : Nat} {w : Nat → Nat} : ∀ n : Nat, sm (diag M w) n = if M % 2 = 0 ∧ M / 2 < n then sm (fun j => w (M / 2 * 3 + j)) 3 else 0
  | 0 => by rw [sm_z, if_neg (by omega)]
  | n + 1 => by
    rw [sm_s, diag_sum n]
    unfold diag
    by_cases h : n + n = M
    · rw [if_neg (by omega), if_pos h, if_pos (by omega), Nat.zero_add, show M / 2 = n by omega]
    · rw [if_neg h, Nat.add_zero]
      by_cases h2 : M % 2 = 0 ∧ M / 2 < n
      · rw [if_pos h2, if_pos (by omega)]
      · rw [if_neg h2, if_neg (by omega)]
theorem diag_lev {M : Nat} {w : Nat → Nat} (hM : M ≤ 20) : sm (diag M w) 11 = lev M w := by
  rw [diag_sum]; unfold lev
  by_cases h : M % 2 = 0
  · rw [if_pos (by omega), if_pos h]
  · rw [if_neg (by omega), if_neg h]
abbrev rm_X5_worth : Room := { frames := 4, cells := 0, slots := 0, locals := 112 }
set_option maxHeartbeats 4000000 in
set_option maxRecDepth 100000 in
theorem c_X5_worth (lq : Launch) (D : va_G) (t : zT) (mq mT mD mS mP mI mE mH mX mR mO ty ev kn kp sg : Nat) (at_ : Int32) (fs : Int64) (s : Nat → Nat) (f1 f2 f3 f4 : Nat → Int64) (e : Int32) (hs : sOk s) : Ct lq D t yX5_worth cX5_worth 4 (some .int) rm_X5_worth [.ref mq, .int e] [eX5 mq mT (nI ty) mD mS (nI ev) mP (nI kn) mI (nI kp) mE (nI sg) at_ mH mX mR mO fs, eI t mS 5 (nf s), eL t mH 363 f1, eL t mX 363 f2, eL t mR 11 f3, eL t mO 22 f4] 0 0 (fun rv rw_ => ∃ (FS : Int64) (F1 : Nat → Int64) (F2 : Nat → Int64) (F3 : Nat → Int64) (F4 : Nat → Int64), rv = some (.int (an_worth s (dz 0 1 e))) ∧ rw_ = [eX5 mq mT (nI ty) mD mS (nI ev) mP (nI kn) mI (nI kp) mE (nI sg) at_ mH mX mR mO FS, eI t mS 5 (nf s), eL t mH 363 F1, eL t mX 363 F2, eL t mR 11 F3, eL t mO 22 F4]) := by
  refine Ct.of (by decide) (Nat.le_of_ble_eq_true rfl) (fun k X hRet => ?_)
  have X : zX D t k cX5_worth 4 RX5 "worth" rm_X5_worth lq := X
  refine z_eq (lv2 := [(0, .ref mq), (1, .int e)]) rfl rfl rfl ?_
  have hsk := hs
  obtain ⟨hs0, hs1, hs2, hs3, hs4⟩ := hs
  refine z_iload_n X (pc := 0) 1 dX5_worth_0 rfl ?_
  refine z_iconst X (pc := 1) (nI 0) dX5_worth_1 (by decide) ?_
  refine z_iconst X (pc := 2) (nI 1) dX5_worth_2 (by decide) ?_
  refine zc_S (as := [.int e, .int (nI 0), .int (nI 1)]) X (pc := 3) (c_X5_in lq D t e (nI 0) (nI 1) ) tw_615 tw_617 tw_7 tw_616 [] rfl rfl dX5_worth_3 rfl zdX5_in ⟨rfl, rfl, Nat.le_of_ble_eq_true rfl, Nat.le_of_ble_eq_true rfl⟩ (Nat.le_of_ble_eq_true rfl) (Nat.zero_le _) (Nat.zero_le _) (fun v_1 w_2 hp_3 => ?_)
  obtain ⟨rfl, rfl⟩ := hp_3
  refine ⟨rfl, ?_⟩
  refine z_eq (ws2 := [eX5 mq mT (nI ty) mD mS (nI ev) mP (nI kn) mI (nI kp) mE (nI sg) at_ mH mX mR mO fs, eI t mS 5 (nf s), eL t mH 363 f1, eL t mX 363 f2, eL t mR 11 f3, eL t mO 22 f4]) (st2 := [.int (zb ((nI 0) ≤ e ∧ e ≤ (nI 1)))]) rfl rfl rfl ?_
  refine z_if_neB X (pc := 6) 11 dX5_worth_6 (by decide) (fun c_6 => ?_) (fun c_6 => ?_)
  · skip
    obtain ⟨sd, sd_lo, sd_hi, rfl⟩ := inR (by decide) (by decide) c_6
    rcases (show sd = 0 ∨ sd = 1 by omega) with rfl | rfl
    · skip
      refine z_aload_n X (pc := 11) 0 dX5_worth_11 rfl ?_
      refine z_get X (pc := 12) 0 3 (.ref mS) tu_5 tw_562 dX5_worth_12 rfl rfl (by decide) rfl rfl ?_
      refine z_iload_n X (pc := 15) 1 dX5_worth_15 rfl ?_
      refine z_iald X (pc := 16) 1 0 (nI (s 0)) dX5_worth_16 rfl rfl (Nat.le_of_ble_eq_true rfl) (by decide) rfl ?_
      refine z_bipush X (pc := 17) (nI 10) dX5_worth_17 (by decide) ?_
      refine z_icmp_neN X (pc := 19) 25 (by omega) (by omega) dX5_worth_19 (by decide) (fun c_19 => ?_) (fun c_19 => ?_)
      · skip
        refine z_iload_n X (pc := 25) 1 dX5_worth_25 rfl ?_
        refine z_if_neN X (pc := 26) 50 (by omega) dX5_worth_26 (by decide) (fun c_26 => absurd c_26 (by decide)) (fun c_26 => ?_)
        refine z_aload_n X (pc := 29) 0 dX5_worth_29 rfl ?_
        refine z_aload_n X (pc := 30) 0 dX5_worth_30 rfl ?_
        refine z_get X (pc := 31) 0 3 (.ref mS) tu_5 tw_562 dX5_worth_31 rfl rfl (by decide) rfl rfl ?_
        refine z_iconst X (pc := 34) (nI 0) dX5_worth_34 (by decide) ?_
        refine z_iald X (pc := 35) 1 0 (nI (s 0)) dX5_worth_35 rfl rfl (Nat.le_of_ble_eq_true rfl) (by decide) rfl ?_
        refine z_iconst X (pc := 36) (nI 1) dX5_worth_36 (by decide) ?_
        refine z_iadd X (pc := 37) (v := (nI (s 0 + 1))) dX5_worth_37 (nI_add (s 0) 1) ?_
        refine z_aload_n X (pc := 38) 0 dX5_worth_38 rfl ?_
        refine z_get X (pc := 39) 0 3 (.ref mS) tu_5 tw_562 dX5_worth_39 rfl rfl (by decide) rfl rfl ?_
        refine z_iconst X (pc := 42) (nI 1) dX5_worth_42 (by decide) ?_
        refine z_iald X (pc := 43) 1 1 (nI (s 1)) dX5_worth_43 rfl rfl (Nat.le_of_ble_eq_true rfl) (by decide) rfl ?_
        refine zc_V (as := [.int (nI (s 0 + 1)), .int (nI (s 1))]) X (pc := 44) (c_X5_reachesFrom lq D t mq mT mD mS mP mI mE mH mX mR mO ty ev kn kp sg at_ fs s f1 f2 f3 f4 (s 0 + 1) (s 1) hsk (by omega) (by omega)) tw_757 tw_760 tw_7 tw_759 tw_1037 0 5 rfl rfl [0, 1, 2, 3, 4, 5] rfl rfl dX5_worth_44 rfl zdX5_reachesFrom ⟨rfl, rfl, Nat.le_of_ble_eq_true rfl, Nat.le_of_ble_eq_true rfl⟩ (Nat.le_of_ble_eq_true rfl) (Nat.zero_le _) (Nat.zero_le _) (fun v_4 w_5 hp_6 => ?_)
        obtain ⟨FS_7, F1_8, F2_9, F3_10, F4_11, rfl, rfl⟩ := hp_6
        refine ⟨rfl, ?_⟩
        refine z_eq (ws2 := [eX5 mq mT (nI ty) mD mS (nI ev) mP (nI kn) mI (nI kp) mE (nI sg) at_ mH mX mR mO FS_7, eI t mS 5 (nf s), eL t mH 363 F1_8, eL t mX 363 F2_9, eL t mR 11 F3_10, eL t mO 22 F4_11]) (st2 := [.long (lN (rch (s 3) (s 4) 0 (s 0 + 1) (s 1) (s 2)))]) rfl rfl rfl ?_
        refine z_goto X (pc := 47) 68 dX5_worth_47 (by decide) ?_
        refine z_lstore_n X (pc := 68) (i := 2) [(2, .long (lN (rch (s 3) (s 4) 0 (s 0 + 1) (s 1) (s 2)))), (0, .ref mq), (1, .int (nI 0))] dX5_worth_68 rfl (by decide) rfl ?_
        refine z_ldc2 X (pc := 69) (100) dX5_worth_69 tw_728 ?_
        refine z_topl (lN 100) rfl ?_
        refine z_lload_n X (pc := 72) 0 dX5_worth_72 rfl ?_
        refine z_aload_n X (pc := 73) 1 dX5_worth_73 rfl ?_
        refine z_aload_n X (pc := 74) 1 dX5_worth_74 rfl ?_
        refine z_get X (pc := 75) 0 3 (.ref mS) tu_5 tw_562 dX5_worth_75 rfl rfl (by decide) rfl rfl ?_
        refine z_iconst X (pc := 78) (nI 0) dX5_worth_78 (by decide) ?_
        refine z_iald X (pc := 79) 1 0 (nI (s 0)) dX5_worth_79 rfl rfl (Nat.le_of_ble_eq_true rfl) (by decide) rfl ?_
        refine z_aload_n X (pc := 80) 1 dX5_worth_80 rfl ?_
        refine z_get X (pc := 81) 0 3 (.ref mS) tu_5 tw_562 dX5_worth_81 rfl rfl (by decide) rfl rfl ?_
        refine z_iconst X (pc := 84) (nI 1) dX5_worth_84 (by decide) ?_
        refine z_iald X (pc := 85) 1 1 (nI (s 1)) dX5_worth_85 rfl rfl (Nat.le_of_ble_eq_true rfl) (by decide) rfl ?_
        refine zc_V (as := [.int (nI (s 0)), .int (nI (s 1))]) X (pc := 86) (c_X5_reachesFrom lq D t mq mT mD mS mP mI mE mH mX mR mO ty ev kn kp sg at_ FS_7 s F1_8 F2_9 F3_10 F4_11 (s 0) (s 1) hsk (by omega) (by omega)) tw_757 tw_760 tw_7 tw_759 tw_1037 0 5 rfl rfl [0, 1, 2, 3, 4, 5] rfl rfl dX5_worth_86 rfl zdX5_reachesFrom ⟨rfl, rfl, Nat.le_of_ble_eq_true rfl, Nat.le_of_ble_eq_true rfl⟩ (Nat.le_of_ble_eq_true rfl) (Nat.zero_le _) (Nat.zero_le _) (fun v_12 w_13 hp_14 => ?_)
        obtain ⟨FS_15, F1_16, F2_17, F3_18, F4_19, rfl, rfl⟩ := hp_14
        refine ⟨rfl, ?_⟩
        refine z_eq (ws2 := [eX5 mq mT (nI ty) mD mS (nI ev) mP (nI kn) mI (nI kp) mE (nI sg) at_ mH mX mR mO FS_15, eI t mS 5 (nf s), eL t mH 363 F1_16, eL t mX 363 F2_17, eL t mR 11 F3_18, eL t mO 22 F4_19]) (st2 := [.long (lN (rch (s 3) (s 4) 0 (s 0) (s 1) (s 2))), .long (lN (rch (s 3) (s 4) 0 (s 0 + 1) (s 1) (s 2))), .long (lN 100)]) rfl rfl rfl ?_
        refine z_lsub X (pc := 89) (v := ((lN (rch (s 3) (s 4) 0 (s 0 + 1) (s 1) (s 2))) - (lN (rch (s 3) (s 4) 0 (s 0) (s 1) (s 2))))) dX5_worth_89 rfl ?_
        refine z_lmul X (pc := 90) (v := ((lN 100) * ((lN (rch (s 3) (s 4) 0 (s 0 + 1) (s 1) (s 2))) - (lN (rch (s 3) (s 4) 0 (s 0) (s 1) (s 2)))))) dX5_worth_90 rfl ?_
        refine z_ldc2 X (pc := 91) (4398046511104) dX5_worth_91 tw_707 ?_
        refine z_topl (lN 4398046511104) rfl ?_
        refine z_ldiv X (pc := 94) (v := (((lN 100) * ((lN (rch (s 3) (s 4) 0 (s 0 + 1) (s 1) (s 2))) - (lN (rch (s 3) (s 4) 0 (s 0) (s 1) (s 2))))) / (lN 4398046511104))) dX5_worth_94 (by decide) rfl ?_
        refine z_l2i X (pc := 95) (v := ((((lN 100) * ((lN (rch (s 3) (s 4) 0 (s 0 + 1) (s 1) (s 2))) - (lN (rch (s 3) (s 4) 0 (s 0) (s 1) (s 2))))) / (lN 4398046511104)).toInt32)) dX5_worth_95 rfl ?_
        refine z_sipush X (pc := 96) (nI 10000) dX5_worth_96 (by decide) ?_
        refine z_iadd X (pc := 99) (v := (((((lN 100) * ((lN (rch (s 3) (s 4) 0 (s 0 + 1) (s 1) (s 2))) - (lN (rch (s 3) (s 4) 0 (s 0) (s 1) (s 2))))) / (lN 4398046511104)).toInt32) + (nI 10000))) dX5_worth_99 rfl ?_
        exact hRet.i dX5_worth_100 ⟨FS_15, F1_16, F2_17, F3_18, F4_19, by rw [dz_ok (by decide) (by decide) (by decide), Int64.mul_comm (lN 100)]; exact congrArg (fun z => some (Value.int z)) (if_neg (show ¬ s 0 = 10 by omega)).symm, rfl⟩
      · skip
        refine z_bipush X (pc := 22) (-3) dX5_worth_22 (by decide) ?_
        exact hRet.i dX5_worth_24 ⟨fs, f1, f2, f3, f4, by rw [dz_ok (by decide) (by decide) (by decide)]; exact congrArg (fun z => some (Value.int z)) (if_pos (show s 0 = 10 by omega)).symm, rfl⟩
    · skip
      refine z_aload_n X (pc := 11) 0 dX5_worth_11 rfl ?_
      refine z_get X (pc := 12) 0 3 (.ref mS) tu_5 tw_562 dX5_worth_12 rfl rfl (by decide) rfl rfl ?_
      refine z_iload_n X (pc := 15) 1 dX5_worth_15 rfl ?_
      refine z_iald X (pc := 16) 1 1 (nI (s 1)) dX5_worth_16 rfl rfl (Nat.le_of_ble_eq_true rfl) (by decide) rfl ?_
      refine z_bipush X (pc := 17) (nI 10) dX5_worth_17 (by decide) ?_
      refine z_icmp_neN X (pc := 19) 25 (by omega) (by omega) dX5_worth_19 (by decide) (fun c_19 => ?_) (fun c_19 => ?_)
      · skip
        refine z_iload_n X (pc := 25) 1 dX5_worth_25 rfl ?_
        refine z_if_neN X (pc := 26) 50 (by omega) dX5_worth_26 (by decide) (fun c_26 => ?_) (fun c_26 => absurd c_26 (by decide))
        refine z_aload_n X (pc := 50) 0 dX5_worth_50 rfl ?_
        refine z_aload_n X (pc := 51) 0 dX5_worth_51 rfl ?_
        refine z_get X (pc := 52) 0 3 (.ref mS) tu_5 tw_562 dX5_worth_52 rfl rfl (by decide) rfl rfl ?_
        refine z_iconst X (pc := 55) (nI 0) dX5_worth_55 (by decide) ?_
        refine z_iald X (pc := 56) 1 0 (nI (s 0)) dX5_worth_56 rfl rfl (Nat.le_of_ble_eq_true rfl) (by decide) rfl ?_
        refine z_aload_n X (pc := 57) 0 dX5_worth_57 rfl ?_
        refine z_get X (pc := 58) 0 3 (.ref mS) tu_5 tw_562 dX5_worth_58 rfl rfl (by decide) rfl rfl ?_
        refine z_iconst X (pc := 61) (nI 1) dX5_worth_61 (by decide) ?_
        refine z_iald X (pc := 62) 1 1 (nI (s 1)) dX5_worth_62 rfl rfl (Nat.le_of_ble_eq_true rfl) (by decide) rfl ?_
        refine z_iconst X (pc := 63) (nI 1) dX5_worth_63 (by decide) ?_
        refine z_iadd X (pc := 64) (v := (nI (s 1 + 1))) dX5_worth_64 (nI_add (s 1) 1) ?_
        refine zc_V (as := [.int (nI (s 0)), .int (nI (s 1 + 1))]) X (pc := 65) (c_X5_reachesFrom lq D t mq mT mD mS mP mI mE mH mX mR mO ty ev kn kp sg at_ fs s f1 f2 f3 f4 (s 0) (s 1 + 1) hsk (by omega) (by omega)) tw_757 tw_760 tw_7 tw_759 tw_1037 0 5 rfl rfl [0, 1, 2, 3, 4, 5] rfl rfl dX5_worth_65 rfl zdX5_reachesFrom ⟨rfl, rfl, Nat.le_of_ble_eq_true rfl, Nat.le_of_ble_eq_true rfl⟩ (Nat.le_of_ble_eq_true rfl) (Nat.zero_le _) (Nat.zero_le _) (fun v_20 w_21 hp_22 => ?_)
        obtain ⟨FS_23, F1_24, F2_25, F3_26, F4_27, rfl, rfl⟩ := hp_22
        refine ⟨rfl, ?_⟩
        refine z_eq (ws2 := [eX5 mq mT (nI ty) mD mS (nI ev) mP (nI kn) mI (nI kp) mE (nI sg) at_ mH mX mR mO FS_23, eI t mS 5 (nf s), eL t mH 363 F1_24, eL t mX 363 F2_25, eL t mR 11 F3_26, eL t mO 22 F4_27]) (st2 := [.long (lN (rch (s 3) (s 4) 0 (s 0) (s 1 + 1) (s 2)))]) rfl rfl rfl ?_
        refine z_lstore_n X (pc := 68) (i := 2) [(2, .long (lN (rch (s 3) (s 4) 0 (s 0) (s 1 + 1) (s 2)))), (0, .ref mq), (1, .int (nI 1))] dX5_worth_68 rfl (by decide) rfl ?_
        refine z_ldc2 X (pc := 69) (100) dX5_worth_69 tw_728 ?_
        refine z_topl (lN 100) rfl ?_
        refine z_lload_n X (pc := 72) 0 dX5_worth_72 rfl ?_
        refine z_aload_n X (pc := 73) 1 dX5_worth_73 rfl ?_
        refine z_aload_n X (pc := 74) 1 dX5_worth_74 rfl ?_
        refine z_get X (pc := 75) 0 3 (.ref mS) tu_5 tw_562 dX5_worth_75 rfl rfl (by decide) rfl rfl ?_
        refine z_iconst X (pc := 78) (nI 0) dX5_worth_78 (by decide) ?_
        refine z_iald X (pc := 79) 1 0 (nI (s 0)) dX5_worth_79 rfl rfl (Nat.le_of_ble_eq_true rfl) (by decide) rfl ?_
        refine z_aload_n X (pc := 80) 1 dX5_worth_80 rfl ?_
        refine z_get X (pc := 81) 0 3 (.ref mS) tu_5 tw_562 dX5_worth_81 rfl rfl (by decide) rfl rfl ?_
        refine z_iconst X (pc := 84) (nI 1) dX5_worth_84 (by decide) ?_
        refine z_iald X (pc := 85) 1 1 (nI (s 1)) dX5_worth_85 rfl rfl (Nat.le_of_ble_eq_true rfl) (by decide) rfl ?_
        refine zc_V (as := [.int (nI (s 0)), .int (nI (s 1))]) X (pc := 86) (c_X5_reachesFrom lq D t mq mT mD mS mP mI mE mH mX mR mO ty ev kn kp sg at_ FS_23 s F1_24 F2_25 F3_26 F4_27 (s 0) (s 1) hsk (by omega) (by omega)) tw_757 tw_760 tw_7 tw_759 tw_1037 0 5 rfl rfl [0, 1, 2, 3, 4, 5] rfl rfl dX5_worth_86 rfl zdX5_reachesFrom ⟨rfl, rfl, Nat.le_of_ble_eq_true rfl, Nat.le_of_ble_eq_true rfl⟩ (Nat.le_of_ble_eq_true rfl) (Nat.zero_le _) (Nat.zero_le _) (fun v_28 w_29 hp_30 => ?_)
        obtain ⟨FS_31, F1_32, F2_33, F3_34, F4_35, rfl, rfl⟩ := hp_30
        refine ⟨rfl, ?_⟩
        refine z_eq (ws2 := [eX5 mq mT (nI ty) mD mS (nI ev) mP (nI kn) mI (nI kp) mE (nI sg) at_ mH mX mR mO FS_31, eI t mS 5 (nf s), eL t mH 363 F1_32, eL t mX 363 F2_33, eL t mR 11 F3_34, eL t mO 22 F4_35]) (st2 := [.long (lN (rch (s 3) (s 4) 0 (s 0) (s 1) (s 2))), .long (lN (rch (s 3) (s 4) 0 (s 0) (s 1 + 1) (s 2))), .long (lN 100)]) rfl rfl rfl ?_
        refine z_lsub X (pc := 89) (v := ((lN (rch (s 3) (s 4) 0 (s 0) (s 1 + 1) (s 2))) - (lN (rch (s 3) (s 4) 0 (s 0) (s 1) (s 2))))) dX5_worth_89 rfl ?_
        refine z_lmul X (pc := 90) (v := ((lN 100) * ((lN (rch (s 3) (s 4) 0 (s 0) (s 1 + 1) (s 2))) - (lN (rch (s 3) (s 4) 0 (s 0) (s 1) (s 2)))))) dX5_worth_90 rfl ?_
        refine z_ldc2 X (pc := 91) (4398046511104) dX5_worth_91 tw_707 ?_
        refine z_topl (lN 4398046511104) rfl ?_
        refine z_ldiv X (pc := 94) (v := (((lN 100) * ((lN (rch (s 3) (s 4) 0 (s 0) (s 1 + 1) (s 2))) - (lN (rch (s 3) (s 4) 0 (s 0) (s 1) (s 2))))) / (lN 4398046511104))) dX5_worth_94 (by decide) rfl ?_
        refine z_l2i X (pc := 95) (v := ((((lN 100) * ((lN (rch (s 3) (s 4) 0 (s 0) (s 1 + 1) (s 2))) - (lN (rch (s 3) (s 4) 0 (s 0) (s 1) (s 2))))) / (lN 4398046511104)).toInt32)) dX5_worth_95 rfl ?_
        refine z_sipush X (pc := 96) (nI 10000) dX5_worth_96 (by decide) ?_
        refine z_iadd X (pc := 99) (v := (((((lN 100) * ((lN (rch (s 3) (s 4) 0 (s 0) (s 1 + 1) (s 2))) - (lN (rch (s 3) (s 4) 0 (s 0) (s 1) (s 2))))) / (lN 4398046511104)).toInt32) + (nI 10000))) dX5_worth_99 rfl ?_
        exact hRet.i dX5_worth_100 ⟨FS_31, F1_32, F2_33, F3_34, F4_35, by rw [dz_ok (by decide) (by decide) (by decide), Int64.mul_comm (lN 100)]; exact congrArg (fun z => some (Value.int z)) (if_neg (show ¬ s 1 = 10 by omega)).symm, rfl⟩
      · skip
        refine z_bipush X (pc := 22) (-3) dX5_worth_22 (by decide) ?_
        exact hRet.i dX5_worth_24 ⟨fs, f1, f2, f3, f4, by rw [dz_ok (by decide) (by decide) (by decide)]; exact congrArg (fun z => some (Value.int z)) (if_pos (show s 1 = 10 by omega)).symm, rfl⟩
  · skip
    refine z_iconst X (pc := 9) (-1) dX5_worth_9 (by decide) ?_
    exact hRet.i dX5_worth_10 ⟨fs, f1, f2, f3, f4, by rw [dz_bad c_6]; rfl, rfl⟩

abbrev rm_X5_better : Room := { frames := 3, cells := 0, slots := 0, locals := 90 }
set_option maxHeartbeats 4000000 in
set_option maxRecDepth 100000 in
theorem c_X5_better (lq : Launch) (D : va_G) (t : zT) (mq mT mD mS mP mI mE mH mX mR mO ty ev kn kp sg : Nat) (at_ : Int32) (fs : Int64) (s : Nat → Nat) (f1 f2 f3 f4 : Nat → Int64) (e1 e2 e3 e4 : Int32) (hs : sOk s) : Ct lq D t yX5_better cX5_better 9 (some .int) rm_X5_better [.ref mq, .int e1, .int e2, .int e3, .int e4] [eX5 mq mT (nI ty) mD mS (nI ev) mP (nI kn) mI (nI kp) mE (nI sg) at_ mH mX mR mO fs, eI t mS 5 (nf s), eL t mH 363 f1, eL t mX 363 f2, eL t mR 11 f3, eL t mO 22 f4] 0 0 (fun rv rw_ => ∃ (FS : Int64) (F1 : Nat → Int64) (F2 : Nat → Int64) (F3 : Nat → Int64) (F4 : Nat → Int64), rv = some (.int (an_better s (dz 0 3 e1) (dz 0 4 e2) (dz 0 3 e3) (dz 0 4 e4))) ∧ rw_ = [eX5 mq mT (nI ty) mD mS (nI ev) mP (nI kn) mI (nI kp) mE (nI sg) at_ mH mX mR mO FS, eI t mS 5 (nf s), eL t mH 363 F1, eL t mX 363 F2, eL t mR 11 F3, eL t mO 22 F4]) := by
  refine Ct.of (by decide) (Nat.le_of_ble_eq_true rfl) (fun k X hRet => ?_)
  have X : zX D t k cX5_better 9 RX5 "better" rm_X5_better lq := X
  refine z_eq (lv2 := [(0, .ref mq), (1, .int e1), (2, .int e2), (3, .int e3), (4, .int e4)]) rfl rfl rfl ?_
  have hsk := hs
  obtain ⟨hs0, hs1, hs2, hs3, hs4⟩ := hs
  refine z_iload_n X (pc := 0) 1 dX5_better_0 rfl ?_
  refine z_iconst X (pc := 1) (nI 0) dX5_better_1 (by decide) ?_
  refine z_iconst X (pc := 2) (nI 3) dX5_better_2 (by decide) ?_
  refine zc_S (as := [.int e1, .int (nI 0), .int (nI 3)]) X (pc := 3) (c_X5_in lq D t e1 (nI 0) (nI 3) ) tw_615 tw_617 tw_7 tw_616 [] rfl rfl dX5_better_3 rfl zdX5_in ⟨rfl, rfl, Nat.le_of_ble_eq_true rfl, Nat.le_of_ble_eq_true rfl⟩ (Nat.le_of_ble_eq_true rfl) (Nat.zero_le _) (Nat.zero_le _) (fun v_1 w_2 hp_3 => ?_)
  obtain ⟨rfl, rfl⟩ := hp_3
  refine ⟨rfl, ?_⟩
  refine z_eq (ws2 := [eX5 mq mT (nI ty) mD mS (nI ev) mP (nI kn) mI (nI kp) mE (nI sg) at_ mH mX mR mO fs, eI t mS 5 (nf s), eL t mH 363 f1, eL t mX 363 f2, eL t mR 11 f3, eL t mO 22 f4]) (st2 := [.int (zb ((nI 0) ≤ e1 ∧ e1 ≤ (nI 3)))]) rfl rfl rfl ?_
  refine z_if_eqB X (pc := 6) 37 dX5_better_6 (by decide) (fun c_6 => ?_) (fun c_6 => ?_)
  · skip
    refine z_iconst X (pc := 37) (-1) dX5_better_37 (by decide) ?_
    exact hRet.i dX5_better_38 ⟨fs, f1, f2, f3, f4, by rw [bad4 (Or.inl (dz_bad c_6))], rfl⟩
  · skip
    refine z_iload_n X (pc := 9) 2 dX5_better_9 rfl ?_
    refine z_iconst X (pc := 10) (nI 0) dX5_better_10 (by decide) ?_
    refine z_iconst X (pc := 11) (nI 4) dX5_better_11 (by decide) ?_
    refine zc_S (as := [.int e2, .int (nI 0), .int (nI 4)]) X (pc := 12) (c_X5_in lq D t e2 (nI 0) (nI 4) ) tw_615 tw_617 tw_7 tw_616 [] rfl rfl dX5_better_12 rfl zdX5_in ⟨rfl, rfl, Nat.le_of_ble_eq_true rfl, Nat.le_of_ble_eq_true rfl⟩ (Nat.le_of_ble_eq_true rfl) (Nat.zero_le _) (Nat.zero_le _) (fun v_4 w_5 hp_6 => ?_)
    obtain ⟨rfl, rfl⟩ := hp_6
    refine ⟨rfl, ?_⟩
    refine z_eq (ws2 := [eX5 mq mT (nI ty) mD mS (nI ev) mP (nI kn) mI (nI kp) mE (nI sg) at_ mH mX mR mO fs, eI t mS 5 (nf s), eL t mH 363 f1, eL t mX 363 f2, eL t mR 11 f3, eL t mO 22 f4]) (st2 := [.int (zb ((nI 0) ≤ e2 ∧ e2 ≤ (nI 4)))]) rfl rfl rfl ?_
    refine z_if_eqB X (pc := 15) 37 dX5_better_15 (by decide) (fun c_15 => ?_) (fun c_15 => ?_)
    · skip
      refine z_iconst X (pc := 37) (-1) dX5_better_37 (by decide) ?_
      exact hRet.i dX5_better_38 ⟨fs, f1, f2, f3, f4, by rw [bad4 (Or.inr (Or.inl (dz_bad c_15)))], rfl⟩
    · skip
      refine z_iload_n X (pc := 18) 3 dX5_better_18 rfl ?_
      refine z_iconst X (pc := 19) (nI 0) dX5_better_19 (by decide) ?_
      refine z_iconst X (pc := 20) (nI 3) dX5_better_20 (by decide) ?_
      refine zc_S (as := [.int e3, .int (nI 0), .int (nI 3)]) X (pc := 21) (c_X5_in lq D t e3 (nI 0) (nI 3) ) tw_615 tw_617 tw_7 tw_616 [] rfl rfl dX5_better_21 rfl zdX5_in ⟨rfl, rfl, Nat.le_of_ble_eq_true rfl, Nat.le_of_ble_eq_true rfl⟩ (Nat.le_of_ble_eq_true rfl) (Nat.zero_le _) (Nat.zero_le _) (fun v_7 w_8 hp_9 => ?_)
      obtain ⟨rfl, rfl⟩ := hp_9
      refine ⟨rfl, ?_⟩
      refine z_eq (ws2 := [eX5 mq mT (nI ty) mD mS (nI ev) mP (nI kn) mI (nI kp) mE (nI sg) at_ mH mX mR mO fs, eI t mS 5 (nf s), eL t mH 363 f1, eL t mX 363 f2, eL t mR 11 f3, eL t mO 22 f4]) (st2 := [.int (zb ((nI 0) ≤ e3 ∧ e3 ≤ (nI 3)))]) rfl rfl rfl ?_
      refine z_if_eqB X (pc := 24) 37 dX5_better_24 (by decide) (fun c_24 => ?_) (fun c_24 => ?_)
      · skip
        refine z_iconst X (pc := 37) (-1) dX5_better_37 (by decide) ?_
        exact hRet.i dX5_better_38 ⟨fs, f1, f2, f3, f4, by rw [bad4 (Or.inr (Or.inr (Or.inl (dz_bad c_24))))], rfl⟩
      · skip
        refine z_iload X (pc := 27) 4 dX5_better_27 rfl ?_
        refine z_iconst X (pc := 29) (nI 0) dX5_better_29 (by decide) ?_
        refine z_iconst X (pc := 30) (nI 4) dX5_better_30 (by decide) ?_
        refine zc_S (as := [.int e4, .int (nI 0), .int (nI 4)]) X (pc := 31) (c_X5_in lq D t e4 (nI 0) (nI 4) ) tw_615 tw_617 tw_7 tw_616 [] rfl rfl dX5_better_31 rfl zdX5_in ⟨rfl, rfl, Nat.le_of_ble_eq_true rfl, Nat.le_of_ble_eq_true rfl⟩ (Nat.le_of_ble_eq_true rfl) (Nat.zero_le _) (Nat.zero_le _) (fun v_10 w_11 hp_12 => ?_)
        obtain ⟨rfl, rfl⟩ := hp_12
        refine ⟨rfl, ?_⟩
        refine z_eq (ws2 := [eX5 mq mT (nI ty) mD mS (nI ev) mP (nI kn) mI (nI kp) mE (nI sg) at_ mH mX mR mO fs, eI t mS 5 (nf s), eL t mH 363 f1, eL t mX 363 f2, eL t mR 11 f3, eL t mO 22 f4]) (st2 := [.int (zb ((nI 0) ≤ e4 ∧ e4 ≤ (nI 4)))]) rfl rfl rfl ?_
        refine z_if_neB X (pc := 34) 39 dX5_better_34 (by decide) (fun c_34 => ?_) (fun c_34 => ?_)
        · skip
          obtain ⟨kd, kd_lo, kd_hi, rfl⟩ := inR (by decide) (by decide) c_6
          obtain ⟨x, x_lo, x_hi, rfl⟩ := inR (by decide) (by decide) c_15
          obtain ⟨od, od_lo, od_hi, rfl⟩ := inR (by decide) (by decide) c_24
          obtain ⟨y, y_lo, y_hi, rfl⟩ := inR (by decide) (by decide) c_34
          refine z_aload_n X (pc := 39) 0 dX5_better_39 rfl ?_
          refine z_aload_n X (pc := 40) 0 dX5_better_40 rfl ?_
          refine z_get X (pc := 41) 0 3 (.ref mS) tu_5 tw_562 dX5_better_41 rfl rfl (by decide) rfl rfl ?_
          refine z_iconst X (pc := 44) (nI 0) dX5_better_44 (by decide) ?_
          refine z_iald X (pc := 45) 1 0 (nI (s 0)) dX5_better_45 rfl rfl (Nat.le_of_ble_eq_true rfl) (by decide) rfl ?_
          refine z_aload_n X (pc := 46) 0 dX5_better_46 rfl ?_
          refine z_get X (pc := 47) 0 3 (.ref mS) tu_5 tw_562 dX5_better_47 rfl rfl (by decide) rfl rfl ?_
          refine z_iconst X (pc := 50) (nI 1) dX5_better_50 (by decide) ?_
          refine z_iald X (pc := 51) 1 1 (nI (s 1)) dX5_better_51 rfl rfl (Nat.le_of_ble_eq_true rfl) (by decide) rfl ?_
          refine z_iload_n X (pc := 52) 1 dX5_better_52 rfl ?_
          refine z_iload_n X (pc := 53) 2 dX5_better_53 rfl ?_
          refine z_iconst X (pc := 54) (nI 0) dX5_better_54 (by decide) ?_
          refine zc_V (as := [.int (nI (s 0)), .int (nI (s 1)), .int (nI kd), .int (nI x), .int (nI 0)]) X (pc := 55) (c_X5_weighs lq D t mq mT mD mS mP mI mE mH mX mR mO ty ev kn kp sg at_ fs s f1 f2 f3 f4 (s 0) (s 1) kd x 0 (by omega) (by omega) hs2 (by omega) (by omega) (by decide)) tw_699 tw_702 tw_7 tw_701 tw_1031 0 5 rfl rfl [0, 1, 2, 3, 4, 5] rfl rfl dX5_better_55 rfl zdX5_weighs ⟨rfl, rfl, Nat.le_of_ble_eq_true rfl, Nat.le_of_ble_eq_true rfl⟩ (Nat.le_of_ble_eq_true rfl) (Nat.zero_le _) (Nat.zero_le _) (fun v_13 w_14 hp_15 => ?_)
          obtain ⟨FS_16, F1_17, F2_18, hf_19, rfl, rfl⟩ := hp_15
          refine ⟨rfl, ?_⟩
          refine z_eq (ws2 := [eX5 mq mT (nI ty) mD mS (nI ev) mP (nI kn) mI (nI kp) mE (nI sg) at_ mH mX mR mO FS_16, eI t mS 5 (nf s), eL t mH 363 F1_17, eL t mX 363 F2_18, eL t mR 11 (lf ((rn kd x 0 (s 0) (s 1) (s 2) 21).2.1)), eL t mO 22 (lf (snF kd x 0 (s 0) (s 1) (s 2)))]) (st2 := []) rfl rfl rfl ?_
          refine z_aload_n X (pc := 58) 0 dX5_better_58 rfl ?_
          refine zc_V (as := []) X (pc := 59) (c_X5_reaches lq D t mq mT mD mS mP mI mE mH mX mR mO ty ev kn kp sg at_ FS_16 (snF kd x 0 (s 0) (s 1) (s 2)) ) tw_741 tw_744 tw_7 tw_743 tw_1036 0 5 rfl rfl [0, 5] rfl rfl dX5_better_59 rfl zdX5_reaches ⟨rfl, rfl, Nat.le_of_ble_eq_true rfl, Nat.le_of_ble_eq_true rfl⟩ (Nat.le_of_ble_eq_true rfl) (Nat.zero_le _) (Nat.zero_le _) (fun v_20 w_21 hp_22 => ?_)
          obtain ⟨rfl, rfl⟩ := hp_22
          refine ⟨rfl, ?_⟩
          refine z_eq (ws2 := [eX5 mq mT (nI ty) mD mS (nI ev) mP (nI kn) mI (nI kp) mE (nI sg) at_ mH mX mR mO FS_16, eI t mS 5 (nf s), eL t mH 363 F1_17, eL t mX 363 F2_18, eL t mR 11 (lf ((rn kd x 0 (s 0) (s 1) (s 2) 21).2.1)), eL t mO 22 (lf (snF kd x 0 (s 0) (s 1) (s 2)))]) (st2 := [.long (lN (sm (fun k => k * (snF kd x 0 (s 0) (s 1) (s 2)) k) 22))]) rfl rfl rfl ?_
          refine z_topl (lN (rch kd x 0 (s 0) (s 1) (s 2))) (by rw [sn_rch (by omega) hs0 hs1 hs2]) ?_
          refine z_lstore X (pc := 62) (i := 5) [(5, .long (lN (rch kd x 0 (s 0) (s 1) (s 2)))), (0, .ref mq), (1, .int (nI kd)), (2, .int (nI x)), (3, .int (nI od)), (4, .int (nI y))] dX5_better_62 trivial (by decide) rfl ?_
          refine z_aload_n X (pc := 64) 1 dX5_better_64 rfl ?_
          refine z_aload_n X (pc := 65) 1 dX5_better_65 rfl ?_
          refine z_get X (pc := 66) 0 3 (.ref mS) tu_5 tw_562 dX5_better_66 rfl rfl (by decide) rfl rfl ?_
          refine z_iconst X (pc := 69) (nI 0) dX5_better_69 (by decide) ?_
          refine z_iald X (pc := 70) 1 0 (nI (s 0)) dX5_better_70 rfl rfl (Nat.le_of_ble_eq_true rfl) (by decide) rfl ?_
          refine z_aload_n X (pc := 71) 1 dX5_better_71 rfl ?_
          refine z_get X (pc := 72) 0 3 (.ref mS) tu_5 tw_562 dX5_better_72 rfl rfl (by decide) rfl rfl ?_
          refine z_iconst X (pc := 75) (nI 1) dX5_better_75 (by decide) ?_
          refine z_iald X (pc := 76) 1 1 (nI (s 1)) dX5_better_76 rfl rfl (Nat.le_of_ble_eq_true rfl) (by decide) rfl ?_
          refine z_iload_n X (pc := 77) 4 dX5_better_77 rfl ?_
          refine z_iload X (pc := 78) 5 dX5_better_78 rfl ?_
          refine z_iconst X (pc := 80) (nI 0) dX5_better_80 (by decide) ?_
          refine zc_V (as := [.int (nI (s 0)), .int (nI (s 1)), .int (nI od), .int (nI y), .int (nI 0)]) X (pc := 81) (c_X5_weighs lq D t mq mT mD mS mP mI mE mH mX mR mO ty ev kn kp sg at_ FS_16 s F1_17 F2_18 (lf ((rn kd x 0 (s 0) (s 1) (s 2) 21).2.1)) (lf (snF kd x 0 (s 0) (s 1) (s 2))) (s 0) (s 1) od y 0 (by omega) (by omega) hs2 (by omega) (by omega) (by decide)) tw_699 tw_702 tw_7 tw_701 tw_1031 0 5 rfl rfl [0, 1, 2, 3, 4, 5] rfl rfl dX5_better_81 rfl zdX5_weighs ⟨rfl, rfl, Nat.le_of_ble_eq_true rfl, Nat.le_of_ble_eq_true rfl⟩ (Nat.le_of_ble_eq_true rfl) (Nat.zero_le _) (Nat.zero_le _) (fun v_23 w_24 hp_25 => ?_)
          obtain ⟨FS_26, F1_27, F2_28, hf_29, rfl, rfl⟩ := hp_25
          refine ⟨rfl, ?_⟩
          refine z_eq (ws2 := [eX5 mq mT (nI ty) mD mS (nI ev) mP (nI kn) mI (nI kp) mE (nI sg) at_ mH mX mR mO FS_26, eI t mS 5 (nf s), eL t mH 363 F1_27, eL t mX 363 F2_28, eL t mR 11 (lf ((rn od y 0 (s 0) (s 1) (s 2) 21).2.1)), eL t mO 22 (lf (snF od y 0 (s 0) (s 1) (s 2)))]) (st2 := []) rfl rfl rfl ?_
          refine z_aload_n X (pc := 84) 1 dX5_better_84 rfl ?_
          refine zc_V (as := []) X (pc := 85) (c_X5_reaches lq D t mq mT mD mS mP mI mE mH mX mR mO ty ev kn kp sg at_ FS_26 (snF od y 0 (s 0) (s 1) (s 2)) ) tw_741 tw_744 tw_7 tw_743 tw_1036 0 5 rfl rfl [0, 5] rfl rfl dX5_better_85 rfl zdX5_reaches ⟨rfl, rfl, Nat.le_of_ble_eq_true rfl, Nat.le_of_ble_eq_true rfl⟩ (Nat.le_of_ble_eq_true rfl) (Nat.zero_le _) (Nat.zero_le _) (fun v_30 w_31 hp_32 => ?_)
          obtain ⟨rfl, rfl⟩ := hp_32
          refine ⟨rfl, ?_⟩
          refine z_eq (ws2 := [eX5 mq mT (nI ty) mD mS (nI ev) mP (nI kn) mI (nI kp) mE (nI sg) at_ mH mX mR mO FS_26, eI t mS 5 (nf s), eL t mH 363 F1_27, eL t mX 363 F2_28, eL t mR 11 (lf ((rn od y 0 (s 0) (s 1) (s 2) 21).2.1)), eL t mO 22 (lf (snF od y 0 (s 0) (s 1) (s 2)))]) (st2 := [.long (lN (sm (fun k => k * (snF od y 0 (s 0) (s 1) (s 2)) k) 22))]) rfl rfl rfl ?_
          refine z_topl (lN (rch od y 0 (s 0) (s 1) (s 2))) (by rw [sn_rch (by omega) hs0 hs1 hs2]) ?_
          refine z_lstore X (pc := 88) (i := 7) [(7, .long (lN (rch od y 0 (s 0) (s 1) (s 2)))), (5, .long (lN (rch kd x 0 (s 0) (s 1) (s 2)))), (0, .ref mq), (1, .int (nI kd)), (2, .int (nI x)), (3, .int (nI od)), (4, .int (nI y))] dX5_better_88 trivial (by decide) rfl ?_
          refine z_lload X (pc := 90) 1 dX5_better_90 rfl ?_
          refine z_lload X (pc := 92) 0 dX5_better_92 rfl ?_
          refine z_lcmp_leN X (pc := 94) 102 (Nat.lt_trans (rch_lt _ _ _ _ _ _) (by decide)) (Nat.lt_trans (rch_lt _ _ _ _ _ _) (by decide)) dX5_better_94 dX5_better_95 (by decide) (fun c_94 => ?_) (fun c_94 => ?_)
          · skip
            refine z_lload X (pc := 102) 1 dX5_better_102 rfl ?_
            refine z_lload X (pc := 104) 0 dX5_better_104 rfl ?_
            refine z_lcmp_geN X (pc := 106) 114 (Nat.lt_trans (rch_lt _ _ _ _ _ _) (by decide)) (Nat.lt_trans (rch_lt _ _ _ _ _ _) (by decide)) dX5_better_106 dX5_better_107 (by decide) (fun c_106 => ?_) (fun c_106 => ?_)
            · skip
              refine z_iconst X (pc := 114) (nI 0) dX5_better_114 (by decide) ?_
              exact hRet.i dX5_better_115 ⟨FS_26, F1_27, F2_28, (lf ((rn od y 0 (s 0) (s 1) (s 2) 21).2.1)), (lf (snF od y 0 (s 0) (s 1) (s 2))), by rw [dz_ok (j := kd) (a := 0) (b := 3) (by decide) kd_lo kd_hi, dz_ok (j := x) (a := 0) (b := 4) (by decide) x_lo x_hi, dz_ok (j := od) (a := 0) (b := 3) (by decide) od_lo od_hi, dz_ok (j := y) (a := 0) (b := 4) (by decide) y_lo y_hi]; exact congrArg (fun z => some (Value.int z)) (if_pos (by omega)).symm, rfl⟩
            · skip
              refine z_iconst X (pc := 110) (nI 2) dX5_better_110 (by decide) ?_
              refine z_goto X (pc := 111) 115 dX5_better_111 (by decide) ?_
              exact hRet.i dX5_better_115 ⟨FS_26, F1_27, F2_28, (lf ((rn od y 0 (s 0) (s 1) (s 2) 21).2.1)), (lf (snF od y 0 (s 0) (s 1) (s 2))), by rw [dz_ok (j := kd) (a := 0) (b := 3) (by decide) kd_lo kd_hi, dz_ok (j := x) (a := 0) (b := 4) (by decide) x_lo x_hi, dz_ok (j := od) (a := 0) (b := 3) (by decide) od_lo od_hi, dz_ok (j := y) (a := 0) (b := 4) (by decide) y_lo y_hi]; exact congrArg (fun z => some (Value.int z)) ((if_neg (by omega)).trans (if_neg (by omega))).symm, rfl⟩
          · skip
            refine z_iconst X (pc := 98) (nI 1) dX5_better_98 (by decide) ?_
            refine z_goto X (pc := 99) 115 dX5_better_99 (by decide) ?_
            exact hRet.i dX5_better_115 ⟨FS_26, F1_27, F2_28, (lf ((rn od y 0 (s 0) (s 1) (s 2) 21).2.1)), (lf (snF od y 0 (s 0) (s 1) (s 2))), by rw [dz_ok (j := kd) (a := 0) (b := 3) (by decide) kd_lo kd_hi, dz_ok (j := x) (a := 0) (b := 4) (by decide) x_lo x_hi, dz_ok (j := od) (a := 0) (b := 3) (by decide) od_lo od_hi, dz_ok (j := y) (a := 0) (b := 4) (by decide) y_lo y_hi]; exact congrArg (fun z => some (Value.int z)) ((if_neg (by omega)).trans (if_pos (by omega))).symm, rfl⟩
        · skip
          refine z_iconst X (pc := 37) (-1) dX5_better_37 (by decide) ?_
          exact hRet.i dX5_better_38 ⟨fs, f1, f2, f3, f4, by rw [bad4 (Or.inr (Or.inr (Or.inr (dz_bad c_34))))], rfl⟩

abbrev rm_X5_begin : Room := { frames := 3, cells := 0, slots := 0, locals := 90 }
set_option maxHeartbeats 4000000 in
set_option maxRecDepth 100000 in
theorem c_X5_begin (lq : Launch) (D : va_G) (t : zT) (mq mT mD mS mP mI mE mH mX mR mO ty ev kn kp sg : Nat) (at_ : Int32) (fs : Int64) (s : Nat → Nat) (f1 f2 f3 f4 : Nat → Int64) (e1 e2 e3 : Int32) (hs : sOk s) : Ct lq D t yX5_begin cX5_begin 9 (some .int) rm_X5_begin [.ref mq, .int e1, .int e2, .int e3] [eX5 mq mT (nI ty) mD mS (nI ev) mP (nI kn) mI (nI kp) mE (nI sg) at_ mH mX mR mO fs, eI t mS 5 (nf s), eL t mH 363 f1, eL t mX 363 f2, eL t mR 11 f3, eL t mO 22 f4] 0 0 (fun rv rw_ => ∃ (FS : Int64) (F1 : Nat → Int64) (F2 : Nat → Int64) (F3 : Nat → Int64) (F4 : Nat → Int64), rv = some (.int (an_begin s (dz 0 20 e1) (dz 0 21 e2) (dz 0 1 e3))) ∧ rw_ = [eX5 mq mT (nI ty) mD mS (nI ev) mP (nI kn) mI (nI kp) mE (nI sg) at_ mH mX mR mO FS, eI t mS 5 (nf s), eL t mH 363 F1, eL t mX 363 F2, eL t mR 11 F3, eL t mO 22 F4]) := by
  refine Ct.of (by decide) (Nat.le_of_ble_eq_true rfl) (fun k X hRet => ?_)
  have X : zX D t k cX5_begin 9 RX5 "begin" rm_X5_begin lq := X
  refine z_eq (lv2 := [(0, .ref mq), (1, .int e1), (2, .int e2), (3, .int e3)]) rfl rfl rfl ?_
  have hsk := hs
  obtain ⟨hs0, hs1, hs2, hs3, hs4⟩ := hs
  refine z_iload_n X (pc := 0) 1 dX5_begin_0 rfl ?_
  refine z_iconst X (pc := 1) (nI 0) dX5_begin_1 (by decide) ?_
  refine z_bipush X (pc := 2) (nI 20) dX5_begin_2 (by decide) ?_
  refine zc_S (as := [.int e1, .int (nI 0), .int (nI 20)]) X (pc := 4) (c_X5_in lq D t e1 (nI 0) (nI 20) ) tw_615 tw_617 tw_7 tw_616 [] rfl rfl dX5_begin_4 rfl zdX5_in ⟨rfl, rfl, Nat.le_of_ble_eq_true rfl, Nat.le_of_ble_eq_true rfl⟩ (Nat.le_of_ble_eq_true rfl) (Nat.zero_le _) (Nat.zero_le _) (fun v_1 w_2 hp_3 => ?_)
  obtain ⟨rfl, rfl⟩ := hp_3
  refine ⟨rfl, ?_⟩
  refine z_eq (ws2 := [eX5 mq mT (nI ty) mD mS (nI ev) mP (nI kn) mI (nI kp) mE (nI sg) at_ mH mX mR mO fs, eI t mS 5 (nf s), eL t mH 363 f1, eL t mX 363 f2, eL t mR 11 f3, eL t mO 22 f4]) (st2 := [.int (zb ((nI 0) ≤ e1 ∧ e1 ≤ (nI 20)))]) rfl rfl rfl ?_
  refine z_if_eqB X (pc := 7) 29 dX5_begin_7 (by decide) (fun c_7 => ?_) (fun c_7 => ?_)
  · skip
    refine z_iconst X (pc := 29) (-1) dX5_begin_29 (by decide) ?_
    exact hRet.i dX5_begin_30 ⟨fs, f1, f2, f3, f4, by rw [dz_bad (a := 0) (b := 20) c_7]; rfl, rfl⟩
  · skip
    refine z_iload_n X (pc := 10) 2 dX5_begin_10 rfl ?_
    refine z_iconst X (pc := 11) (nI 0) dX5_begin_11 (by decide) ?_
    refine z_bipush X (pc := 12) (nI 21) dX5_begin_12 (by decide) ?_
    refine zc_S (as := [.int e2, .int (nI 0), .int (nI 21)]) X (pc := 14) (c_X5_in lq D t e2 (nI 0) (nI 21) ) tw_615 tw_617 tw_7 tw_616 [] rfl rfl dX5_begin_14 rfl zdX5_in ⟨rfl, rfl, Nat.le_of_ble_eq_true rfl, Nat.le_of_ble_eq_true rfl⟩ (Nat.le_of_ble_eq_true rfl) (Nat.zero_le _) (Nat.zero_le _) (fun v_4 w_5 hp_6 => ?_)
    obtain ⟨rfl, rfl⟩ := hp_6
    refine ⟨rfl, ?_⟩
    refine z_eq (ws2 := [eX5 mq mT (nI ty) mD mS (nI ev) mP (nI kn) mI (nI kp) mE (nI sg) at_ mH mX mR mO fs, eI t mS 5 (nf s), eL t mH 363 f1, eL t mX 363 f2, eL t mR 11 f3, eL t mO 22 f4]) (st2 := [.int (zb ((nI 0) ≤ e2 ∧ e2 ≤ (nI 21)))]) rfl rfl rfl ?_
    refine z_if_eqB X (pc := 17) 29 dX5_begin_17 (by decide) (fun c_17 => ?_) (fun c_17 => ?_)
    · skip
      refine z_iconst X (pc := 29) (-1) dX5_begin_29 (by decide) ?_
      exact hRet.i dX5_begin_30 ⟨fs, f1, f2, f3, f4, by rw [dz_bad (a := 0) (b := 21) c_17]; cases dz 0 20 e1 <;> rfl, rfl⟩
    · skip
      refine z_iload_n X (pc := 20) 3 dX5_begin_20 rfl ?_
      refine z_iconst X (pc := 21) (nI 0) dX5_begin_21 (by decide) ?_
      refine z_iconst X (pc := 22) (nI 1) dX5_begin_22 (by decide) ?_
      refine zc_S (as := [.int e3, .int (nI 0), .int (nI 1)]) X (pc := 23) (c_X5_in lq D t e3 (nI 0) (nI 1) ) tw_615 tw_617 tw_7 tw_616 [] rfl rfl dX5_begin_23 rfl zdX5_in ⟨rfl, rfl, Nat.le_of_ble_eq_true rfl, Nat.le_of_ble_eq_true rfl⟩ (Nat.le_of_ble_eq_true rfl) (Nat.zero_le _) (Nat.zero_le _) (fun v_7 w_8 hp_9 => ?_)
      obtain ⟨rfl, rfl⟩ := hp_9
      refine ⟨rfl, ?_⟩
      refine z_eq (ws2 := [eX5 mq mT (nI ty) mD mS (nI ev) mP (nI kn) mI (nI kp) mE (nI sg) at_ mH mX mR mO fs, eI t mS 5 (nf s), eL t mH 363 f1, eL t mX 363 f2, eL t mR 11 f3, eL t mO 22 f4]) (st2 := [.int (zb ((nI 0) ≤ e3 ∧ e3 ≤ (nI 1)))]) rfl rfl rfl ?_
      refine z_if_neB X (pc := 26) 31 dX5_begin_26 (by decide) (fun c_26 => ?_) (fun c_26 => ?_)
      · skip
        obtain ⟨tt, tt_lo, tt_hi, rfl⟩ := inR (by decide) (by decide) c_7
        obtain ⟨n, n_lo, n_hi, rfl⟩ := inR (by decide) (by decide) c_17
        obtain ⟨wt, wt_lo, wt_hi, rfl⟩ := inR (by decide) (by decide) c_26
        refine z_bipush X (pc := 31) (-4) dX5_begin_31 (by decide) ?_
        refine z_istore X (pc := 33) (i := 4) [(4, .int (-4)), (0, .ref mq), (1, .int (nI tt)), (2, .int (nI n)), (3, .int (nI wt))] dX5_begin_33 trivial (by decide) rfl ?_
        refine z_lconst X (pc := 35) (lN 0) dX5_begin_35 (by decide) ?_
        refine z_lstore X (pc := 36) (i := 5) [(5, .long (lN 0)), (4, .int (-4)), (0, .ref mq), (1, .int (nI tt)), (2, .int (nI n)), (3, .int (nI wt))] dX5_begin_36 trivial (by decide) rfl ?_
        refine z_iconst X (pc := 38) (nI 0) dX5_begin_38 (by decide) ?_
        refine z_istore X (pc := 39) (i := 7) [(7, .int (nI 0)), (5, .long (lN 0)), (4, .int (-4)), (0, .ref mq), (1, .int (nI tt)), (2, .int (nI n)), (3, .int (nI wt))] dX5_begin_39 trivial (by decide) rfl ?_
        have loop_41 : ∀ (fuel_41 : Nat) (l : Nat) (o : Option (Nat × Nat)) (fs : Int64) (f1 : Nat → Int64) (f2 : Nat → Int64) (f3 : Nat → Int64) (f4 : Nat → Int64), 11 < l + fuel_41 → (l ≤ 11) → (o = bgn s tt n l) → Z D k (0, 0) [eX5 mq mT (nI ty) mD mS (nI ev) mP (nI kn) mI (nI kp) mE (nI sg) at_ mH mX mR mO fs, eI t mS 5 (nf s), eL t mH 363 f1, eL t mX 363 f2, eL t mR 11 f3, eL t mO 22 f4] 41 [(0, .ref mq), (1, .int (nI tt)), (2, .int (nI n)), (3, .int (nI wt)), (4, .int (bgF o)), (5, .long (lN (bgL o))), (7, .int (nI l))] [] := by
          intro fuel_41
          induction fuel_41 with
          | zero =>
            intro l o fs f1 f2 f3 f4 hfuel_41 hl hbo
            exfalso; omega
          | succ fuel_41 ih_41 =>
            intro l o fs f1 f2 f3 f4 hfuel_41 hl hbo
            refine z_iload X (pc := 41) 6 dX5_begin_41 rfl ?_
            refine z_bipush X (pc := 43) (nI 10) dX5_begin_43 (by decide) ?_
            refine z_icmp_gtN X (pc := 45) 146 (by omega) (by omega) dX5_begin_45 (by decide) (fun c_45 => ?_) (fun c_45 => ?_)
            · skip
              have hl11 : l = 11 := by omega
              obtain ⟨p9, hp8⟩ := @bgn_some s tt n 11 (tt - 10) (by omega) (by omega)
              have hp9 : some p9 = bgn s tt n 11 := hp8.symm
              obtain rfl : o = some p9 := by rw [hbo, hl11, hp8]
              have hple := bgn_le hsk (by decide) p9 hp8
              refine z_eq (lv2 := [(0, .ref mq), (1, .int (nI tt)), (2, .int (nI n)), (3, .int (nI wt)), (4, .int (nI p9.1)), (5, .long (lN p9.2)), (7, .int (nI l))]) rfl rfl rfl ?_
              refine z_iload_n X (pc := 146) 3 dX5_begin_146 rfl ?_
              refine z_if_neN X (pc := 147) 155 (by omega) dX5_begin_147 (by decide) (fun c_147 => ?_) (fun c_147 => ?_)
              · skip
                refine z_ldc2 X (pc := 155) (4398046511104) dX5_begin_155 tw_707 ?_
                refine z_topl (lN 4398046511104) rfl ?_
                refine z_lload X (pc := 158) 5 dX5_begin_158 rfl ?_
                refine z_lsub X (pc := 160) (v := (lN (4398046511104 - p9.2))) dX5_begin_160 (lN_sub (by omega)) ?_
                refine z_ldc2 X (pc := 161) (4398046511104) dX5_begin_161 tw_707 ?_
                refine z_topl (lN 4398046511104) rfl ?_
                refine zc_S (as := [.long (lN (4398046511104 - p9.2)), .long (lN 4398046511104)]) X (pc := 164) (c_X5_cut lq D t (4398046511104 - p9.2) 4398046511104 (by omega) (by decide)) tw_720 tw_722 tw_7 tw_721 [] rfl rfl dX5_begin_164 rfl zdX5_cut ⟨rfl, rfl, Nat.le_of_ble_eq_true rfl, Nat.le_of_ble_eq_true rfl⟩ (Nat.le_of_ble_eq_true rfl) (Nat.zero_le _) (Nat.zero_le _) (fun v_10 w_11 hp_12 => ?_)
                obtain ⟨rfl, rfl⟩ := hp_12
                refine ⟨rfl, ?_⟩
                refine z_eq (ws2 := [eX5 mq mT (nI ty) mD mS (nI ev) mP (nI kn) mI (nI kp) mE (nI sg) at_ mH mX mR mO fs, eI t mS 5 (nf s), eL t mH 363 f1, eL t mX 363 f2, eL t mR 11 f3, eL t mO 22 f4]) (st2 := [.int (nI (10000 * (4398046511104 - p9.2) / 4398046511104))]) rfl rfl rfl ?_
                exact hRet.i dX5_begin_167 ⟨fs, f1, f2, f3, f4, by rw [dz_ok (j := tt) (a := 0) (b := 20) (by decide) tt_lo tt_hi, dz_ok (j := n) (a := 0) (b := 21) (by decide) n_lo n_hi, dz_ok (j := wt) (a := 0) (b := 1) (by decide) wt_lo wt_hi, Nat.mul_comm]; simp only [an_begin, ← hp9, if_neg c_147], rfl⟩
              · skip
                refine z_iload X (pc := 150) 4 dX5_begin_150 rfl ?_
                refine z_goto X (pc := 152) 167 dX5_begin_152 (by decide) ?_
                exact hRet.i dX5_begin_167 ⟨fs, f1, f2, f3, f4, by rw [dz_ok (j := tt) (a := 0) (b := 20) (by decide) tt_lo tt_hi, dz_ok (j := n) (a := 0) (b := 21) (by decide) n_lo n_hi, dz_ok (j := wt) (a := 0) (b := 1) (by decide) wt_lo wt_hi]; simp only [an_begin, ← hp9, if_pos c_147], rfl⟩
            · skip
              refine z_iload_n X (pc := 48) 1 dX5_begin_48 rfl ?_
              refine z_iload X (pc := 49) 6 dX5_begin_49 rfl ?_
              refine z_isub X (pc := 51) (v := ((nI tt) - (nI l))) dX5_begin_51 rfl ?_
              refine z_iconst X (pc := 52) (nI 0) dX5_begin_52 (by decide) ?_
              refine z_bipush X (pc := 53) (nI 10) dX5_begin_53 (by decide) ?_
              refine zc_S (as := [.int ((nI tt) - (nI l)), .int (nI 0), .int (nI 10)]) X (pc := 55) (c_X5_in lq D t ((nI tt) - (nI l)) (nI 0) (nI 10) ) tw_615 tw_617 tw_7 tw_616 [] rfl rfl dX5_begin_55 rfl zdX5_in ⟨rfl, rfl, Nat.le_of_ble_eq_true rfl, Nat.le_of_ble_eq_true rfl⟩ (Nat.le_of_ble_eq_true rfl) (Nat.zero_le _) (Nat.zero_le _) (fun v_13 w_14 hp_15 => ?_)
              obtain ⟨rfl, rfl⟩ := hp_15
              refine ⟨rfl, ?_⟩
              refine z_eq (ws2 := [eX5 mq mT (nI ty) mD mS (nI ev) mP (nI kn) mI (nI kp) mE (nI sg) at_ mH mX mR mO fs, eI t mS 5 (nf s), eL t mH 363 f1, eL t mX 363 f2, eL t mR 11 f3, eL t mO 22 f4]) (st2 := [.int (zb ((nI 0) ≤ ((nI tt) - (nI l)) ∧ ((nI tt) - (nI l)) ≤ (nI 10)))]) rfl rfl rfl ?_
              refine z_if_eqB X (pc := 58) 140 dX5_begin_58 (by decide) (fun c_58 => ?_) (fun c_58 => ?_)
              · skip
                have hv : ¬ (l ≤ tt ∧ tt - l ≤ 10) := fun z => c_58 ((bg_raw (by omega) (by omega)).mpr z)
                refine z_iinc X (pc := 140) (i := 7) 6 (nI (l + 1)) [(7, .int (nI (l + 1))), (0, .ref mq), (1, .int (nI tt)), (2, .int (nI n)), (3, .int (nI wt)), (4, .int (bgF o)), (5, .long (lN (bgL o)))] dX5_begin_140 rfl (nI_incc l 1) (by decide) rfl ?_
                refine z_goto X (pc := 143) 41 dX5_begin_143 (by decide) ?_
                refine z_lv [1, 2, 3, 4, 5, 6, 0] (lv2 := [(0, .ref mq), (1, .int (nI tt)), (2, .int (nI n)), (3, .int (nI wt)), (4, .int (bgF o)), (5, .long (lN (bgL o))), (7, .int (nI (l + 1)))]) rfl ?_
                exact ih_41 (l + 1) o fs f1 f2 f3 f4 (by omega) (by omega) (by rw [hbo, bgn_s, if_neg hv])
              · skip
                have hv := (bg_raw (by omega) (by omega)).mp c_58
                refine z_aload_n X (pc := 61) 0 dX5_begin_61 rfl ?_
                refine z_iload X (pc := 62) 6 dX5_begin_62 rfl ?_
                refine z_iload_n X (pc := 64) 1 dX5_begin_64 rfl ?_
                refine z_iload X (pc := 65) 6 dX5_begin_65 rfl ?_
                refine z_isub X (pc := 67) (v := (nI (tt - l))) dX5_begin_67 (pk_sub (by omega)) ?_
                refine z_aload_n X (pc := 68) 0 dX5_begin_68 rfl ?_
                refine z_get X (pc := 69) 0 3 (.ref mS) tu_5 tw_562 dX5_begin_69 rfl rfl (by decide) rfl rfl ?_
                refine z_iconst X (pc := 72) (nI 3) dX5_begin_72 (by decide) ?_
                refine z_iald X (pc := 73) 1 3 (nI (s 3)) dX5_begin_73 rfl rfl (Nat.le_of_ble_eq_true rfl) (by decide) rfl ?_
                refine z_aload_n X (pc := 74) 0 dX5_begin_74 rfl ?_
                refine z_get X (pc := 75) 0 3 (.ref mS) tu_5 tw_562 dX5_begin_75 rfl rfl (by decide) rfl rfl ?_
                refine z_iconst X (pc := 78) (nI 4) dX5_begin_78 (by decide) ?_
                refine z_iald X (pc := 79) 1 4 (nI (s 4)) dX5_begin_79 rfl rfl (Nat.le_of_ble_eq_true rfl) (by decide) rfl ?_
                refine z_iconst X (pc := 80) (nI 0) dX5_begin_80 (by decide) ?_
                refine zc_V (as := [.int (nI l), .int (nI (tt - l)), .int (nI (s 3)), .int (nI (s 4)), .int (nI 0)]) X (pc := 81) (c_X5_weighs lq D t mq mT mD mS mP mI mE mH mX mR mO ty ev kn kp sg at_ fs s f1 f2 f3 f4 l (tt - l) (s 3) (s 4) 0 (by omega) (by omega) hs2 (by omega) (by omega) (by decide)) tw_699 tw_702 tw_7 tw_701 tw_1031 0 5 rfl rfl [0, 1, 2, 3, 4, 5] rfl rfl dX5_begin_81 rfl zdX5_weighs ⟨rfl, rfl, Nat.le_of_ble_eq_true rfl, Nat.le_of_ble_eq_true rfl⟩ (Nat.le_of_ble_eq_true rfl) (Nat.zero_le _) (Nat.zero_le _) (fun v_16 w_17 hp_18 => ?_)
                obtain ⟨FS_19, F1_20, F2_21, hf_22, rfl, rfl⟩ := hp_18
                refine ⟨rfl, ?_⟩
                refine z_eq (ws2 := [eX5 mq mT (nI ty) mD mS (nI ev) mP (nI kn) mI (nI kp) mE (nI sg) at_ mH mX mR mO FS_19, eI t mS 5 (nf s), eL t mH 363 F1_20, eL t mX 363 F2_21, eL t mR 11 (lf ((rn (s 3) (s 4) 0 l (tt - l) (s 2) 21).2.1)), eL t mO 22 (lf (snF (s 3) (s 4) 0 l (tt - l) (s 2)))]) (st2 := []) rfl rfl rfl ?_
                have hbe := bge_le hsk (t := tt) (n := n) (l := l) (by omega) hv.2
                cases o with
                | none =>
                  refine z_eq (lv2 := [(0, .ref mq), (1, .int (nI tt)), (2, .int (nI n)), (3, .int (nI wt)), (4, .int (-4)), (5, .long (lN 0)), (7, .int (nI l))]) rfl rfl rfl ?_
                  refine z_iload X (pc := 84) 4 dX5_begin_84 rfl ?_
                  refine z_bipush X (pc := 86) (-4) dX5_begin_86 (by decide) ?_
                  refine z_icmp_eq X (pc := 88) 102 dX5_begin_88 (by decide) (fun c_88 => ?_) (fun c_88 => absurd c_88 (by decide))
                  refine z_iconst X (pc := 102) (nI 1) dX5_begin_102 (by decide) ?_
                  refine z_goto X (pc := 103) 107 dX5_begin_103 (by decide) ?_
                  refine z_istore X (pc := 107) (i := 8) [(8, .int (nI 1)), (0, .ref mq), (1, .int (nI tt)), (2, .int (nI n)), (3, .int (nI wt)), (4, .int (-4)), (5, .long (lN 0)), (7, .int (nI l))] dX5_begin_107 trivial (by decide) rfl ?_
                  refine z_iload X (pc := 109) 0 dX5_begin_109 rfl ?_
                  refine z_if_eqN X (pc := 111) 119 (by omega) dX5_begin_111 (by decide) (fun c_111 => absurd c_111 (by decide)) (fun c_111 => ?_)
                  refine z_iload X (pc := 114) 7 dX5_begin_114 rfl ?_
                  refine z_goto X (pc := 116) 121 dX5_begin_116 (by decide) ?_
                  refine z_istore X (pc := 121) (i := 4) [(4, .int (nI l)), (8, .int (nI 1)), (0, .ref mq), (1, .int (nI tt)), (2, .int (nI n)), (3, .int (nI wt)), (5, .long (lN 0)), (7, .int (nI l))] dX5_begin_121 trivial (by decide) rfl ?_
                  refine z_iload X (pc := 123) 1 dX5_begin_123 rfl ?_
                  refine z_if_eqN X (pc := 125) 136 (by omega) dX5_begin_125 (by decide) (fun c_125 => absurd c_125 (by decide)) (fun c_125 => ?_)
                  refine z_aload_n X (pc := 128) 2 dX5_begin_128 rfl ?_
                  refine z_iload_n X (pc := 129) 4 dX5_begin_129 rfl ?_
                  refine zc_V (as := [.int (nI n)]) X (pc := 130) (c_X5_within lq D t mq mT mD mS mP mI mE mH mX mR mO ty ev kn kp sg at_ FS_19 (snF (s 3) (s 4) 0 l (tt - l) (s 2)) n (by omega)) tw_733 tw_736 tw_7 tw_735 tw_1035 0 5 rfl rfl [0, 5] rfl rfl dX5_begin_130 rfl zdX5_within ⟨rfl, rfl, Nat.le_of_ble_eq_true rfl, Nat.le_of_ble_eq_true rfl⟩ (Nat.le_of_ble_eq_true rfl) (Nat.zero_le _) (Nat.zero_le _) (fun v_23 w_24 hp_25 => ?_)
                  obtain ⟨rfl, rfl⟩ := hp_25
                  refine ⟨rfl, ?_⟩
                  refine z_eq (ws2 := [eX5 mq mT (nI ty) mD mS (nI ev) mP (nI kn) mI (nI kp) mE (nI sg) at_ mH mX mR mO FS_19, eI t mS 5 (nf s), eL t mH 363 F1_20, eL t mX 363 F2_21, eL t mR 11 (lf ((rn (s 3) (s 4) 0 l (tt - l) (s 2) 21).2.1)), eL t mO 22 (lf (snF (s 3) (s 4) 0 l (tt - l) (s 2)))]) (st2 := [.long (lN (sm (snF (s 3) (s 4) 0 l (tt - l) (s 2)) (n + 1)))]) rfl rfl rfl ?_
                  refine z_topl (lN (bge s tt n l)) (by rw [sn_tel]; rfl) ?_
                  refine z_goto X (pc := 133) 138 dX5_begin_133 (by decide) ?_
                  refine z_lstore X (pc := 138) (i := 5) [(5, .long (lN (bge s tt n l))), (4, .int (nI l)), (8, .int (nI 1)), (0, .ref mq), (1, .int (nI tt)), (2, .int (nI n)), (3, .int (nI wt)), (7, .int (nI l))] dX5_begin_138 trivial (by decide) rfl ?_
                  refine z_iinc X (pc := 140) (i := 7) 7 (nI (l + 1)) [(7, .int (nI (l + 1))), (5, .long (lN (bge s tt n l))), (4, .int (nI l)), (8, .int (nI 1)), (0, .ref mq), (1, .int (nI tt)), (2, .int (nI n)), (3, .int (nI wt))] dX5_begin_140 rfl (nI_incc l 1) (by decide) rfl ?_
                  refine z_goto X (pc := 143) 41 dX5_begin_143 (by decide) ?_
                  refine z_eq (lv2 := [(7, .int (nI (l + 1))), (5, .long (lN (bgL (some (l, bge s tt n l))))), (4, .int (bgF (some (l, bge s tt n l)))), (8, .int (nI 1)), (0, .ref mq), (1, .int (nI tt)), (2, .int (nI n)), (3, .int (nI wt))]) rfl rfl rfl ?_
                  refine z_lv [4, 5, 6, 7, 2, 1, 0] (lv2 := [(0, .ref mq), (1, .int (nI tt)), (2, .int (nI n)), (3, .int (nI wt)), (4, .int (bgF (some (l, bge s tt n l)))), (5, .long (lN (bgL (some (l, bge s tt n l))))), (7, .int (nI (l + 1)))]) rfl ?_
                  exact ih_41 (l + 1) (some (l, bge s tt n l)) FS_19 F1_20 F2_21 (lf ((rn (s 3) (s 4) 0 l (tt - l) (s 2) 21).2.1)) (lf (snF (s 3) (s 4) 0 l (tt - l) (s 2))) (by omega) (by omega) (by rw [bgn_s, if_pos hv, ← hbo]; rfl)
                | some p =>
                  have hpl := bgn_le hsk (by omega) p hbo.symm
                  refine z_eq (lv2 := [(0, .ref mq), (1, .int (nI tt)), (2, .int (nI n)), (3, .int (nI wt)), (4, .int (nI p.1)), (5, .long (lN p.2)), (7, .int (nI l))]) rfl rfl rfl ?_
                  refine z_iload X (pc := 84) 4 dX5_begin_84 rfl ?_
                  refine z_bipush X (pc := 86) (-4) dX5_begin_86 (by decide) ?_
                  refine z_icmp_eq X (pc := 88) 102 dX5_begin_88 (by decide) (fun c_88 => absurd c_88 (nI_m4 (by omega))) (fun c_88 => ?_)
                  refine z_aload_n X (pc := 91) 0 dX5_begin_91 rfl ?_
                  refine z_iload_n X (pc := 92) 2 dX5_begin_92 rfl ?_
                  refine zc_V (as := [.int (nI n)]) X (pc := 93) (c_X5_within lq D t mq mT mD mS mP mI mE mH mX mR mO ty ev kn kp sg at_ FS_19 (snF (s 3) (s 4) 0 l (tt - l) (s 2)) n (by omega)) tw_733 tw_736 tw_7 tw_735 tw_1035 0 5 rfl rfl [0, 5] rfl rfl dX5_begin_93 rfl zdX5_within ⟨rfl, rfl, Nat.le_of_ble_eq_true rfl, Nat.le_of_ble_eq_true rfl⟩ (Nat.le_of_ble_eq_true rfl) (Nat.zero_le _) (Nat.zero_le _) (fun v_26 w_27 hp_28 => ?_)
                  obtain ⟨rfl, rfl⟩ := hp_28
                  refine ⟨rfl, ?_⟩
                  refine z_eq (ws2 := [eX5 mq mT (nI ty) mD mS (nI ev) mP (nI kn) mI (nI kp) mE (nI sg) at_ mH mX mR mO FS_19, eI t mS 5 (nf s), eL t mH 363 F1_20, eL t mX 363 F2_21, eL t mR 11 (lf ((rn (s 3) (s 4) 0 l (tt - l) (s 2) 21).2.1)), eL t mO 22 (lf (snF (s 3) (s 4) 0 l (tt - l) (s 2)))]) (st2 := [.long (lN (sm (snF (s 3) (s 4) 0 l (tt - l) (s 2)) (n + 1)))]) rfl rfl rfl ?_
                  refine z_topl (lN (bge s tt n l)) (by rw [sn_tel]; rfl) ?_
                  refine z_lload X (pc := 96) 5 dX5_begin_96 rfl ?_
                  refine z_lcmp_geN X (pc := 98) 106 (by omega) (by omega) dX5_begin_98 dX5_begin_99 (by decide) (fun c_98 => ?_) (fun c_98 => ?_)
                  · skip
                    refine z_iconst X (pc := 106) (nI 0) dX5_begin_106 (by decide) ?_
                    refine z_istore X (pc := 107) (i := 8) [(8, .int (nI 0)), (0, .ref mq), (1, .int (nI tt)), (2, .int (nI n)), (3, .int (nI wt)), (4, .int (nI p.1)), (5, .long (lN p.2)), (7, .int (nI l))] dX5_begin_107 trivial (by decide) rfl ?_
                    refine z_iload X (pc := 109) 0 dX5_begin_109 rfl ?_
                    refine z_if_eqN X (pc := 111) 119 (by omega) dX5_begin_111 (by decide) (fun c_111 => ?_) (fun c_111 => absurd c_111 (by decide))
                    refine z_iload X (pc := 119) 5 dX5_begin_119 rfl ?_
                    refine z_istore X (pc := 121) (i := 4) [(4, .int (nI p.1)), (8, .int (nI 0)), (0, .ref mq), (1, .int (nI tt)), (2, .int (nI n)), (3, .int (nI wt)), (5, .long (lN p.2)), (7, .int (nI l))] dX5_begin_121 trivial (by decide) rfl ?_
                    refine z_iload X (pc := 123) 1 dX5_begin_123 rfl ?_
                    refine z_if_eqN X (pc := 125) 136 (by omega) dX5_begin_125 (by decide) (fun c_125 => ?_) (fun c_125 => absurd c_125 (by decide))
                    refine z_lload X (pc := 136) 6 dX5_begin_136 rfl ?_
                    refine z_lstore X (pc := 138) (i := 5) [(5, .long (lN p.2)), (4, .int (nI p.1)), (8, .int (nI 0)), (0, .ref mq), (1, .int (nI tt)), (2, .int (nI n)), (3, .int (nI wt)), (7, .int (nI l))] dX5_begin_138 trivial (by decide) rfl ?_
                    refine z_iinc X (pc := 140) (i := 7) 7 (nI (l + 1)) [(7, .int (nI (l + 1))), (5, .long (lN p.2)), (4, .int (nI p.1)), (8, .int (nI 0)), (0, .ref mq), (1, .int (nI tt)), (2, .int (nI n)), (3, .int (nI wt))] dX5_begin_140 rfl (nI_incc l 1) (by decide) rfl ?_
                    refine z_goto X (pc := 143) 41 dX5_begin_143 (by decide) ?_
                    refine z_eq (lv2 := [(7, .int (nI (l + 1))), (5, .long (lN (bgL (some p)))), (4, .int (bgF (some p))), (8, .int (nI 0)), (0, .ref mq), (1, .int (nI tt)), (2, .int (nI n)), (3, .int (nI wt))]) rfl rfl rfl ?_
                    refine z_lv [4, 5, 6, 7, 2, 1, 0] (lv2 := [(0, .ref mq), (1, .int (nI tt)), (2, .int (nI n)), (3, .int (nI wt)), (4, .int (bgF (some p))), (5, .long (lN (bgL (some p)))), (7, .int (nI (l + 1)))]) rfl ?_
                    exact ih_41 (l + 1) (some p) FS_19 F1_20 F2_21 (lf ((rn (s 3) (s 4) 0 l (tt - l) (s 2) 21).2.1)) (lf (snF (s 3) (s 4) 0 l (tt - l) (s 2))) (by omega) (by omega) (by rw [bgn_s, if_pos hv, ← hbo]; exact (if_neg (by omega)).symm)
                  · skip
                    refine z_iconst X (pc := 102) (nI 1) dX5_begin_102 (by decide) ?_
                    refine z_goto X (pc := 103) 107 dX5_begin_103 (by decide) ?_
                    refine z_istore X (pc := 107) (i := 8) [(8, .int (nI 1)), (0, .ref mq), (1, .int (nI tt)), (2, .int (nI n)), (3, .int (nI wt)), (4, .int (nI p.1)), (5, .long (lN p.2)), (7, .int (nI l))] dX5_begin_107 trivial (by decide) rfl ?_
                    refine z_iload X (pc := 109) 0 dX5_begin_109 rfl ?_
                    refine z_if_eqN X (pc := 111) 119 (by omega) dX5_begin_111 (by decide) (fun c_111 => absurd c_111 (by decide)) (fun c_111 => ?_)
                    refine z_iload X (pc := 114) 7 dX5_begin_114 rfl ?_
                    refine z_goto X (pc := 116) 121 dX5_begin_116 (by decide) ?_
                    refine z_istore X (pc := 121) (i := 4) [(4, .int (nI l)), (8, .int (nI 1)), (0, .ref mq), (1, .int (nI tt)), (2, .int (nI n)), (3, .int (nI wt)), (5, .long (lN p.2)), (7, .int (nI l))] dX5_begin_121 trivial (by decide) rfl ?_
                    refine z_iload X (pc := 123) 1 dX5_begin_123 rfl ?_
                    refine z_if_eqN X (pc := 125) 136 (by omega) dX5_begin_125 (by decide) (fun c_125 => absurd c_125 (by decide)) (fun c_125 => ?_)
                    refine z_aload_n X (pc := 128) 2 dX5_begin_128 rfl ?_
                    refine z_iload_n X (pc := 129) 4 dX5_begin_129 rfl ?_
                    refine zc_V (as := [.int (nI n)]) X (pc := 130) (c_X5_within lq D t mq mT mD mS mP mI mE mH mX mR mO ty ev kn kp sg at_ FS_19 (snF (s 3) (s 4) 0 l (tt - l) (s 2)) n (by omega)) tw_733 tw_736 tw_7 tw_735 tw_1035 0 5 rfl rfl [0, 5] rfl rfl dX5_begin_130 rfl zdX5_within ⟨rfl, rfl, Nat.le_of_ble_eq_true rfl, Nat.le_of_ble_eq_true rfl⟩ (Nat.le_of_ble_eq_true rfl) (Nat.zero_le _) (Nat.zero_le _) (fun v_29 w_30 hp_31 => ?_)
                    obtain ⟨rfl, rfl⟩ := hp_31
                    refine ⟨rfl, ?_⟩
                    refine z_eq (ws2 := [eX5 mq mT (nI ty) mD mS (nI ev) mP (nI kn) mI (nI kp) mE (nI sg) at_ mH mX mR mO FS_19, eI t mS 5 (nf s), eL t mH 363 F1_20, eL t mX 363 F2_21, eL t mR 11 (lf ((rn (s 3) (s 4) 0 l (tt - l) (s 2) 21).2.1)), eL t mO 22 (lf (snF (s 3) (s 4) 0 l (tt - l) (s 2)))]) (st2 := [.long (lN (sm (snF (s 3) (s 4) 0 l (tt - l) (s 2)) (n + 1)))]) rfl rfl rfl ?_
                    refine z_topl (lN (bge s tt n l)) (by rw [sn_tel]; rfl) ?_
                    refine z_goto X (pc := 133) 138 dX5_begin_133 (by decide) ?_
                    refine z_lstore X (pc := 138) (i := 5) [(5, .long (lN (bge s tt n l))), (4, .int (nI l)), (8, .int (nI 1)), (0, .ref mq), (1, .int (nI tt)), (2, .int (nI n)), (3, .int (nI wt)), (7, .int (nI l))] dX5_begin_138 trivial (by decide) rfl ?_
                    refine z_iinc X (pc := 140) (i := 7) 7 (nI (l + 1)) [(7, .int (nI (l + 1))), (5, .long (lN (bge s tt n l))), (4, .int (nI l)), (8, .int (nI 1)), (0, .ref mq), (1, .int (nI tt)), (2, .int (nI n)), (3, .int (nI wt))] dX5_begin_140 rfl (nI_incc l 1) (by decide) rfl ?_
                    refine z_goto X (pc := 143) 41 dX5_begin_143 (by decide) ?_
                    refine z_eq (lv2 := [(7, .int (nI (l + 1))), (5, .long (lN (bgL (some (l, bge s tt n l))))), (4, .int (bgF (some (l, bge s tt n l)))), (8, .int (nI 1)), (0, .ref mq), (1, .int (nI tt)), (2, .int (nI n)), (3, .int (nI wt))]) rfl rfl rfl ?_
                    refine z_lv [4, 5, 6, 7, 2, 1, 0] (lv2 := [(0, .ref mq), (1, .int (nI tt)), (2, .int (nI n)), (3, .int (nI wt)), (4, .int (bgF (some (l, bge s tt n l)))), (5, .long (lN (bgL (some (l, bge s tt n l))))), (7, .int (nI (l + 1)))]) rfl ?_
                    exact ih_41 (l + 1) (some (l, bge s tt n l)) FS_19 F1_20 F2_21 (lf ((rn (s 3) (s 4) 0 l (tt - l) (s 2) 21).2.1)) (lf (snF (s 3) (s 4) 0 l (tt - l) (s 2))) (by omega) (by omega) (by rw [bgn_s, if_pos hv, ← hbo]; exact (if_pos (by omega)).symm)
        refine z_eq (lv2 := [(7, .int (nI 0)), (5, .long (lN (bgL none))), (4, .int (bgF none)), (0, .ref mq), (1, .int (nI tt)), (2, .int (nI n)), (3, .int (nI wt))]) rfl rfl rfl ?_
        refine z_lv [3, 4, 5, 6, 2, 1, 0] (lv2 := [(0, .ref mq), (1, .int (nI tt)), (2, .int (nI n)), (3, .int (nI wt)), (4, .int (bgF none)), (5, .long (lN (bgL none))), (7, .int (nI 0))]) rfl ?_
        exact loop_41 12 0 none fs f1 f2 f3 f4 (by omega) (by omega) (bgn_z s tt n).symm
      · skip
        refine z_iconst X (pc := 29) (-1) dX5_begin_29 (by decide) ?_
        exact hRet.i dX5_begin_30 ⟨fs, f1, f2, f3, f4, by rw [dz_bad (a := 0) (b := 1) c_26]; cases dz 0 20 e1 <;> cases dz 0 21 e2 <;> rfl, rfl⟩

abbrev rm_X5_evenings : Room := { frames := 4, cells := 0, slots := 0, locals := 111 }
set_option maxHeartbeats 4000000 in
set_option maxRecDepth 100000 in
theorem c_X5_evenings (lq : Launch) (D : va_G) (t : zT) (mq mT mD mS mP mI mE mH mX mR mO ty ev kn kp sg : Nat) (at_ : Int32) (fs : Int64) (s : Nat → Nat) (f1 f2 f3 f4 : Nat → Int64) (e : Int32) (hs : sOk s) (hev : 1 ≤ ev ∧ ev ≤ 9) : Ct lq D t yX5_evenings cX5_evenings 6 (some .int) rm_X5_evenings [.ref mq, .int e] [eX5 mq mT (nI ty) mD mS (nI ev) mP (nI kn) mI (nI kp) mE (nI sg) at_ mH mX mR mO fs, eI t mS 5 (nf s), eL t mH 363 f1, eL t mX 363 f2, eL t mR 11 f3, eL t mO 22 f4] 0 0 (fun rv rw_ => ∃ (FS : Int64) (F1 : Nat → Int64) (F2 : Nat → Int64) (F3 : Nat → Int64) (F4 : Nat → Int64), rv = some (.int (an_evenings s ev (dz 1 9999 e))) ∧ rw_ = [eX5 mq mT (nI ty) mD mS (nI ev) mP (nI kn) mI (nI kp) mE (nI sg) at_ mH mX mR mO FS, eI t mS 5 (nf s), eL t mH 363 F1, eL t mX 363 F2, eL t mR 11 F3, eL t mO 22 F4]) := by
  refine Ct.of (by decide) (Nat.le_of_ble_eq_true rfl) (fun k X hRet => ?_)
  have X : zX D t k cX5_evenings 6 RX5 "evenings" rm_X5_evenings lq := X
  refine z_eq (lv2 := [(0, .ref mq), (1, .int e)]) rfl rfl rfl ?_
  have hsk := hs
  obtain ⟨hs0, hs1, hs2, hs3, hs4⟩ := hs
  refine z_iload_n X (pc := 0) 1 dX5_evenings_0 rfl ?_
  refine z_iconst X (pc := 1) (nI 1) dX5_evenings_1 (by decide) ?_
  refine z_sipush X (pc := 2) (nI 9999) dX5_evenings_2 (by decide) ?_
  refine zc_S (as := [.int e, .int (nI 1), .int (nI 9999)]) X (pc := 5) (c_X5_in lq D t e (nI 1) (nI 9999) ) tw_615 tw_617 tw_7 tw_616 [] rfl rfl dX5_evenings_5 rfl zdX5_in ⟨rfl, rfl, Nat.le_of_ble_eq_true rfl, Nat.le_of_ble_eq_true rfl⟩ (Nat.le_of_ble_eq_true rfl) (Nat.zero_le _) (Nat.zero_le _) (fun v_1 w_2 hp_3 => ?_)
  obtain ⟨rfl, rfl⟩ := hp_3
  refine ⟨rfl, ?_⟩
  refine z_eq (ws2 := [eX5 mq mT (nI ty) mD mS (nI ev) mP (nI kn) mI (nI kp) mE (nI sg) at_ mH mX mR mO fs, eI t mS 5 (nf s), eL t mH 363 f1, eL t mX 363 f2, eL t mR 11 f3, eL t mO 22 f4]) (st2 := [.int (zb ((nI 1) ≤ e ∧ e ≤ (nI 9999)))]) rfl rfl rfl ?_
  refine z_if_neB X (pc := 8) 13 dX5_evenings_8 (by decide) (fun c_8 => ?_) (fun c_8 => ?_)
  · skip
    obtain ⟨y, y_lo, y_hi, rfl⟩ := inR (by decide) (by decide) c_8
    refine z_aload_n X (pc := 13) 0 dX5_evenings_13 rfl ?_
    refine z_iconst X (pc := 14) (nI 0) dX5_evenings_14 (by decide) ?_
    refine zc_V (as := [.int (nI 0)]) X (pc := 15) (c_X5_weighsNow lq D t mq mT mD mS mP mI mE mH mX mR mO ty ev kn kp sg at_ fs s f1 f2 f3 f4 0 hsk (by decide)) tw_695 tw_698 tw_7 tw_697 tw_1030 0 5 rfl rfl [0, 1, 2, 3, 4, 5] rfl rfl dX5_evenings_15 rfl zdX5_weighsNow ⟨rfl, rfl, Nat.le_of_ble_eq_true rfl, Nat.le_of_ble_eq_true rfl⟩ (Nat.le_of_ble_eq_true rfl) (Nat.zero_le _) (Nat.zero_le _) (fun v_4 w_5 hp_6 => ?_)
    obtain ⟨FS_7, F1_8, F2_9, hf_10, rfl, rfl⟩ := hp_6
    refine ⟨rfl, ?_⟩
    refine z_eq (ws2 := [eX5 mq mT (nI ty) mD mS (nI ev) mP (nI kn) mI (nI kp) mE (nI sg) at_ mH mX mR mO FS_7, eI t mS 5 (nf s), eL t mH 363 F1_8, eL t mX 363 F2_9, eL t mR 11 (lf ((rn (s 3) (s 4) 0 (s 0) (s 1) (s 2) 21).2.1)), eL t mO 22 (lf (snF (s 3) (s 4) 0 (s 0) (s 1) (s 2)))]) (st2 := []) rfl rfl rfl ?_
    refine z_iconst X (pc := 18) (nI 0) dX5_evenings_18 (by decide) ?_
    refine z_istore_n X (pc := 19) (i := 2) [(2, .int (nI 0)), (0, .ref mq), (1, .int (nI y))] dX5_evenings_19 rfl (by decide) rfl ?_
    refine z_iconst X (pc := 20) (nI 1) dX5_evenings_20 (by decide) ?_
    refine z_istore_n X (pc := 21) (i := 3) [(3, .int (nI 1)), (2, .int (nI 0)), (0, .ref mq), (1, .int (nI y))] dX5_evenings_21 rfl (by decide) rfl ?_
    have loop_22 : ∀ (fuel_22 : Nat) (k_ : Nat) (en9 : Nat), 8 < k_ + fuel_22 → (1 ≤ k_ ∧ k_ ≤ 8) → (en9 = evs s ev y (k_ - 1)) → Z D k (0, 0) [eX5 mq mT (nI ty) mD mS (nI ev) mP (nI kn) mI (nI kp) mE (nI sg) at_ mH mX mR mO FS_7, eI t mS 5 (nf s), eL t mH 363 F1_8, eL t mX 363 F2_9, eL t mR 11 (lf ((rn (s 3) (s 4) 0 (s 0) (s 1) (s 2) 21).2.1)), eL t mO 22 (lf (snF (s 3) (s 4) 0 (s 0) (s 1) (s 2)))] 22 [(0, .ref mq), (1, .int (nI y)), (2, .int (nI en9)), (3, .int (nI k_))] [] := by
      intro fuel_22
      induction fuel_22 with
      | zero =>
        intro k_ en9 hfuel_22 hk hen9
        exfalso; omega
      | succ fuel_22 ih_22 =>
        intro k_ en9 hfuel_22 hk hen9
        have hek : ev * k_ ≤ 72 := by have := Nat.mul_le_mul hev.2 (show k_ ≤ 8 by omega); omega
        have hle := @rn_e (s 3) (s 4) 0 (s 0) (s 1) (s 2) (ev * k_) hs4 hs0 hs1 hs2
        refine z_iload_n X (pc := 22) 3 dX5_evenings_22 rfl ?_
        refine z_bipush X (pc := 23) (nI 8) dX5_evenings_23 (by decide) ?_
        refine z_icmp_geN X (pc := 25) 88 (by omega) (by omega) dX5_evenings_25 (by decide) (fun c_25 => ?_) (fun c_25 => ?_)
        · skip
          refine z_iload_n X (pc := 88) 2 dX5_evenings_88 rfl ?_
          exact hRet.i dX5_evenings_89 ⟨FS_7, F1_8, F2_9, (lf ((rn (s 3) (s 4) 0 (s 0) (s 1) (s 2) 21).2.1)), (lf (snF (s 3) (s 4) 0 (s 0) (s 1) (s 2))), by rw [dz_ok (j := y) (a := 1) (b := 9999) (by decide) y_lo y_hi, hen9, show k_ - 1 = 7 by omega]; rfl, rfl⟩
        · skip
          refine z_ldc2 X (pc := 28) (4398046511104) dX5_evenings_28 tw_707 ?_
          refine z_topl (lN 4398046511104) rfl ?_
          refine z_aload_n X (pc := 31) 0 dX5_evenings_31 rfl ?_
          refine z_aload_n X (pc := 32) 0 dX5_evenings_32 rfl ?_
          refine z_get X (pc := 33) 0 4 (.int (nI ev)) tu_5 tw_563 dX5_evenings_33 rfl rfl (by decide) rfl rfl ?_
          refine z_iload_n X (pc := 36) 3 dX5_evenings_36 rfl ?_
          refine z_imul X (pc := 37) (v := (nI (ev * k_))) dX5_evenings_37 (pk_mul _ _) ?_
          refine z_bipush X (pc := 38) (nI 21) dX5_evenings_38 (by decide) ?_
          refine z_icmp_leN X (pc := 40) 48 (by omega) (by omega) dX5_evenings_40 (by decide) (fun c_40 => ?_) (fun c_40 => ?_)
          · skip
            refine z_aload_n X (pc := 48) 0 dX5_evenings_48 rfl ?_
            refine z_get X (pc := 49) 0 4 (.int (nI ev)) tu_5 tw_563 dX5_evenings_49 rfl rfl (by decide) rfl rfl ?_
            refine z_iload_n X (pc := 52) 3 dX5_evenings_52 rfl ?_
            refine z_imul X (pc := 53) (v := (nI (ev * k_))) dX5_evenings_53 (pk_mul _ _) ?_
            refine zc_V (as := [.int (nI (ev * k_))]) X (pc := 54) (c_X5_within lq D t mq mT mD mS mP mI mE mH mX mR mO ty ev kn kp sg at_ FS_7 (snF (s 3) (s 4) 0 (s 0) (s 1) (s 2)) (ev * k_) (by omega)) tw_733 tw_736 tw_7 tw_735 tw_1035 0 5 rfl rfl [0, 5] rfl rfl dX5_evenings_54 rfl zdX5_within ⟨rfl, rfl, Nat.le_of_ble_eq_true rfl, Nat.le_of_ble_eq_true rfl⟩ (Nat.le_of_ble_eq_true rfl) (Nat.zero_le _) (Nat.zero_le _) (fun v_11 w_12 hp_13 => ?_)
            obtain ⟨rfl, rfl⟩ := hp_13
            refine ⟨rfl, ?_⟩
            refine z_eq (ws2 := [eX5 mq mT (nI ty) mD mS (nI ev) mP (nI kn) mI (nI kp) mE (nI sg) at_ mH mX mR mO FS_7, eI t mS 5 (nf s), eL t mH 363 F1_8, eL t mX 363 F2_9, eL t mR 11 (lf ((rn (s 3) (s 4) 0 (s 0) (s 1) (s 2) 21).2.1)), eL t mO 22 (lf (snF (s 3) (s 4) 0 (s 0) (s 1) (s 2)))]) (st2 := [.long (lN (sm (snF (s 3) (s 4) 0 (s 0) (s 1) (s 2)) ((ev * k_) + 1))), .long (lN 4398046511104)]) rfl rfl rfl ?_
            refine z_topl (lN ((rn (s 3) (s 4) 0 (s 0) (s 1) (s 2) (ev * k_)).2.2.1)) (by rw [sn_tel]) ?_
            refine z_lsub X (pc := 57) (v := (lN (4398046511104 - ((rn (s 3) (s 4) 0 (s 0) (s 1) (s 2) (ev * k_)).2.2.1)))) dX5_evenings_57 (lN_sub (by omega)) ?_
            refine z_lstore X (pc := 58) (i := 4) [(4, .long (lN (4398046511104 - ((rn (s 3) (s 4) 0 (s 0) (s 1) (s 2) (ev * k_)).2.2.1)))), (0, .ref mq), (1, .int (nI y)), (2, .int (nI en9)), (3, .int (nI k_))] dX5_evenings_58 trivial (by decide) rfl ?_
            refine z_ldc2 X (pc := 60) (10000) dX5_evenings_60 tw_723 ?_
            refine z_topl (lN 10000) rfl ?_
            refine z_lload X (pc := 63) 0 dX5_evenings_63 rfl ?_
            refine z_lmul X (pc := 65) (v := (lN (10000 * (4398046511104 - ((rn (s 3) (s 4) 0 (s 0) (s 1) (s 2) (ev * k_)).2.2.1))))) dX5_evenings_65 (lN_mul _ _) ?_
            refine z_iload_n X (pc := 66) 2 dX5_evenings_66 rfl ?_
            refine z_i2l X (pc := 67) (v := (lN y)) dX5_evenings_67 (nI_l (by omega)) ?_
            refine z_ldc2 X (pc := 68) (4398046511104) dX5_evenings_68 tw_707 ?_
            refine z_topl (lN 4398046511104) rfl ?_
            refine z_lmul X (pc := 71) (v := (lN (y * 4398046511104))) dX5_evenings_71 (lN_mul _ _) ?_
            refine z_lcmp_leN X (pc := 72) 80 (by omega) (by omega) dX5_evenings_72 dX5_evenings_73 (by decide) (fun c_72 => ?_) (fun c_72 => ?_)
            · skip
              refine z_iload_n X (pc := 80) 3 dX5_evenings_80 rfl ?_
              refine z_istore_n X (pc := 81) (i := 2) [(2, .int (nI en9)), (4, .long (lN (4398046511104 - ((rn (s 3) (s 4) 0 (s 0) (s 1) (s 2) (ev * k_)).2.2.1)))), (0, .ref mq), (1, .int (nI y)), (3, .int (nI k_))] dX5_evenings_81 rfl (by decide) rfl ?_
              refine z_iinc X (pc := 82) (i := 3) 4 (nI (k_ + 1)) [(3, .int (nI (k_ + 1))), (2, .int (nI en9)), (4, .long (lN (4398046511104 - ((rn (s 3) (s 4) 0 (s 0) (s 1) (s 2) (ev * k_)).2.2.1)))), (0, .ref mq), (1, .int (nI y))] dX5_evenings_82 rfl (nI_incc k_ 1) (by decide) rfl ?_
              refine z_goto X (pc := 85) 22 dX5_evenings_85 (by decide) ?_
              refine z_lv [3, 4, 1, 0] (lv2 := [(0, .ref mq), (1, .int (nI y)), (2, .int (nI en9)), (3, .int (nI (k_ + 1)))]) rfl ?_
              exact ih_22 (k_ + 1) en9 (by omega) (by omega) (by rw [show k_ + 1 - 1 = (k_ - 1) + 1 by omega, evs_s, ← hen9, show k_ - 1 + 1 = k_ by omega, if_neg (by omega)])
            · skip
              refine z_iload_n X (pc := 76) 4 dX5_evenings_76 rfl ?_
              refine z_goto X (pc := 77) 81 dX5_evenings_77 (by decide) ?_
              refine z_istore_n X (pc := 81) (i := 2) [(2, .int (nI k_)), (4, .long (lN (4398046511104 - ((rn (s 3) (s 4) 0 (s 0) (s 1) (s 2) (ev * k_)).2.2.1)))), (0, .ref mq), (1, .int (nI y)), (3, .int (nI k_))] dX5_evenings_81 rfl (by decide) rfl ?_
              refine z_iinc X (pc := 82) (i := 3) 4 (nI (k_ + 1)) [(3, .int (nI (k_ + 1))), (2, .int (nI k_)), (4, .long (lN (4398046511104 - ((rn (s 3) (s 4) 0 (s 0) (s 1) (s 2) (ev * k_)).2.2.1)))), (0, .ref mq), (1, .int (nI y))] dX5_evenings_82 rfl (nI_incc k_ 1) (by decide) rfl ?_
              refine z_goto X (pc := 85) 22 dX5_evenings_85 (by decide) ?_
              refine z_lv [3, 4, 1, 0] (lv2 := [(0, .ref mq), (1, .int (nI y)), (2, .int (nI k_)), (3, .int (nI (k_ + 1)))]) rfl ?_
              exact ih_22 (k_ + 1) k_ (by omega) (by omega) (by rw [show k_ + 1 - 1 = (k_ - 1) + 1 by omega, evs_s, ← hen9, show k_ - 1 + 1 = k_ by omega, if_pos (by omega)])
          · skip
            refine z_bipush X (pc := 43) (nI 21) dX5_evenings_43 (by decide) ?_
            refine z_goto X (pc := 45) 54 dX5_evenings_45 (by decide) ?_
            refine zc_V (as := [.int (nI 21)]) X (pc := 54) (c_X5_within lq D t mq mT mD mS mP mI mE mH mX mR mO ty ev kn kp sg at_ FS_7 (snF (s 3) (s 4) 0 (s 0) (s 1) (s 2)) 21 (by omega)) tw_733 tw_736 tw_7 tw_735 tw_1035 0 5 rfl rfl [0, 5] rfl rfl dX5_evenings_54 rfl zdX5_within ⟨rfl, rfl, Nat.le_of_ble_eq_true rfl, Nat.le_of_ble_eq_true rfl⟩ (Nat.le_of_ble_eq_true rfl) (Nat.zero_le _) (Nat.zero_le _) (fun v_14 w_15 hp_16 => ?_)
            obtain ⟨rfl, rfl⟩ := hp_16
            refine ⟨rfl, ?_⟩
            refine z_eq (ws2 := [eX5 mq mT (nI ty) mD mS (nI ev) mP (nI kn) mI (nI kp) mE (nI sg) at_ mH mX mR mO FS_7, eI t mS 5 (nf s), eL t mH 363 F1_8, eL t mX 363 F2_9, eL t mR 11 (lf ((rn (s 3) (s 4) 0 (s 0) (s 1) (s 2) 21).2.1)), eL t mO 22 (lf (snF (s 3) (s 4) 0 (s 0) (s 1) (s 2)))]) (st2 := [.long (lN (sm (snF (s 3) (s 4) 0 (s 0) (s 1) (s 2)) (21 + 1))), .long (lN 4398046511104)]) rfl rfl rfl ?_
            refine z_topl (lN ((rn (s 3) (s 4) 0 (s 0) (s 1) (s 2) (ev * k_)).2.2.1)) (by rw [sn_tel, rn_all hs4 hs0 hs1 hs2 (Nat.le_refl 21), rn_all hs4 hs0 hs1 hs2 (by omega)]) ?_
            refine z_lsub X (pc := 57) (v := (lN (4398046511104 - ((rn (s 3) (s 4) 0 (s 0) (s 1) (s 2) (ev * k_)).2.2.1)))) dX5_evenings_57 (lN_sub (by omega)) ?_
            refine z_lstore X (pc := 58) (i := 4) [(4, .long (lN (4398046511104 - ((rn (s 3) (s 4) 0 (s 0) (s 1) (s 2) (ev * k_)).2.2.1)))), (0, .ref mq), (1, .int (nI y)), (2, .int (nI en9)), (3, .int (nI k_))] dX5_evenings_58 trivial (by decide) rfl ?_
            refine z_ldc2 X (pc := 60) (10000) dX5_evenings_60 tw_723 ?_
            refine z_topl (lN 10000) rfl ?_
            refine z_lload X (pc := 63) 0 dX5_evenings_63 rfl ?_
            refine z_lmul X (pc := 65) (v := (lN (10000 * (4398046511104 - ((rn (s 3) (s 4) 0 (s 0) (s 1) (s 2) (ev * k_)).2.2.1))))) dX5_evenings_65 (lN_mul _ _) ?_
            refine z_iload_n X (pc := 66) 2 dX5_evenings_66 rfl ?_
            refine z_i2l X (pc := 67) (v := (lN y)) dX5_evenings_67 (nI_l (by omega)) ?_
            refine z_ldc2 X (pc := 68) (4398046511104) dX5_evenings_68 tw_707 ?_
            refine z_topl (lN 4398046511104) rfl ?_
            refine z_lmul X (pc := 71) (v := (lN (y * 4398046511104))) dX5_evenings_71 (lN_mul _ _) ?_
            refine z_lcmp_leN X (pc := 72) 80 (by omega) (by omega) dX5_evenings_72 dX5_evenings_73 (by decide) (fun c_72 => ?_) (fun c_72 => ?_)
            · skip
              refine z_iload_n X (pc := 80) 3 dX5_evenings_80 rfl ?_
              refine z_istore_n X (pc := 81) (i := 2) [(2, .int (nI en9)), (4, .long (lN (4398046511104 - ((rn (s 3) (s 4) 0 (s 0) (s 1) (s 2) (ev * k_)).2.2.1)))), (0, .ref mq), (1, .int (nI y)), (3, .int (nI k_))] dX5_evenings_81 rfl (by decide) rfl ?_
              refine z_iinc X (pc := 82) (i := 3) 4 (nI (k_ + 1)) [(3, .int (nI (k_ + 1))), (2, .int (nI en9)), (4, .long (lN (4398046511104 - ((rn (s 3) (s 4) 0 (s 0) (s 1) (s 2) (ev * k_)).2.2.1)))), (0, .ref mq), (1, .int (nI y))] dX5_evenings_82 rfl (nI_incc k_ 1) (by decide) rfl ?_
              refine z_goto X (pc := 85) 22 dX5_evenings_85 (by decide) ?_
              refine z_lv [3, 4, 1, 0] (lv2 := [(0, .ref mq), (1, .int (nI y)), (2, .int (nI en9)), (3, .int (nI (k_ + 1)))]) rfl ?_
              exact ih_22 (k_ + 1) en9 (by omega) (by omega) (by rw [show k_ + 1 - 1 = (k_ - 1) + 1 by omega, evs_s, ← hen9, show k_ - 1 + 1 = k_ by omega, if_neg (by omega)])
            · skip
              refine z_iload_n X (pc := 76) 4 dX5_evenings_76 rfl ?_
              refine z_goto X (pc := 77) 81 dX5_evenings_77 (by decide) ?_
              refine z_istore_n X (pc := 81) (i := 2) [(2, .int (nI k_)), (4, .long (lN (4398046511104 - ((rn (s 3) (s 4) 0 (s 0) (s 1) (s 2) (ev * k_)).2.2.1)))), (0, .ref mq), (1, .int (nI y)), (3, .int (nI k_))] dX5_evenings_81 rfl (by decide) rfl ?_
              refine z_iinc X (pc := 82) (i := 3) 4 (nI (k_ + 1)) [(3, .int (nI (k_ + 1))), (2, .int (nI k_)), (4, .long (lN (4398046511104 - ((rn (s 3) (s 4) 0 (s 0) (s 1) (s 2) (ev * k_)).2.2.1)))), (0, .ref mq), (1, .int (nI y))] dX5_evenings_82 rfl (nI_incc k_ 1) (by decide) rfl ?_
              refine z_goto X (pc := 85) 22 dX5_evenings_85 (by decide) ?_
              refine z_lv [3, 4, 1, 0] (lv2 := [(0, .ref mq), (1, .int (nI y)), (2, .int (nI k_)), (3, .int (nI (k_ + 1)))]) rfl ?_
              exact ih_22 (k_ + 1) k_ (by omega) (by omega) (by rw [show k_ + 1 - 1 = (k_ - 1) + 1 by omega, evs_s, ← hen9, show k_ - 1 + 1 = k_ by omega, if_pos (by omega)])
    refine z_lv [2, 3, 1, 0] (lv2 := [(0, .ref mq), (1, .int (nI y)), (2, .int (nI 0)), (3, .int (nI 1))]) rfl ?_
    exact loop_22 9 1 0 (by omega) (by omega) (evs_z s ev y).symm
  · skip
    refine z_iconst X (pc := 11) (-1) dX5_evenings_11 (by decide) ?_
    exact hRet.i dX5_evenings_12 ⟨fs, f1, f2, f3, f4, by rw [dz_bad c_8]; rfl, rfl⟩
