/-! PART 23: the reference: reading the text, laying -/
theorem nf_vup2 (d : Nat → Nat) (i j a b : Nat) : upd (upd (nf d) i (nI a)) j (nI b) = nf (vup (vup d i a) j b) := by rw [upd_nf, upd_nf]
theorem lk_none5 {x : Int} (h1 : x ≠ 98) (h2 : x ≠ 101) (h3 : x ≠ 104) (h4 : x ≠ 108) : Op.lookupswitch.offset [(98, 43), (101, 90), (104, 53), (108, 61)] 120 x = 120 := by
  have g1 : ¬ (98 : Int) = x := fun z => h1 z.symm
  have g2 : ¬ (101 : Int) = x := fun z => h2 z.symm
  have g3 : ¬ (104 : Int) = x := fun z => h3 z.symm
  have g4 : ¬ (108 : Int) = x := fun z => h4 z.symm
  simp [Op.lookupswitch.offset, g1, g2, g3, g4, h1, h2, h3, h4]
abbrev rm_X5_readsTwoy : Room := { frames := 3, cells := 0, slots := 0, locals := 67 }
set_option maxHeartbeats 4000000 in
set_option maxRecDepth 100000 in
theorem c_X5_readsTwoy (lq : Launch) (D : va_G) (t : zT) (mq mT mD mS mP mI mE mH mX mR mO ty ev kn kp sg : Nat) (at_ : Int32) (fs : Int64) (tx d : Nat → Nat) (p pl A B : Nat) (hty9 : ty ≤ 200) (hp : p < 900) (htx : ∀ j, tx j < 127) (hA : A ≤ 10) (hB : B ≤ 10) (hpl : pl ≤ 3) (hok1 : dig (chf tx ty) p ∧ chf tx ty (p + nln (chf tx ty) p) = 44 ∧ 0 ≤ nvl (chf tx ty) p ∧ nvl (chf tx ty) p ≤ A) (hok2 : dig (chf tx ty) (e1 (chf tx ty) p) ∧ chf tx ty (e1 (chf tx ty) p + nln (chf tx ty) (e1 (chf tx ty) p)) = 59 ∧ 0 ≤ nvl (chf tx ty) (e1 (chf tx ty) p) ∧ nvl (chf tx ty) (e1 (chf tx ty) p) ≤ B) : Ct lq D t yX5_readsTwo cX5_readsTwo 4 (some .boolean) rm_X5_readsTwoy [.ref mq, .int (nI pl), .int (nI A), .int (nI B)] [eX5 mq mT (nI ty) mD mS (nI ev) mP (nI kn) mI (nI kp) mE (nI sg) (nI p) mH mX mR mO fs, eI t mT 200 (nf tx), eI t mD 6 (nf d)] 0 0 (fun rv rw_ => rv = some (.int (nI 1)) ∧ rw_ = [eX5 mq mT (nI ty) mD mS (nI ev) mP (nI kn) mI (nI kp) mE (nI sg) (nI (e2 (chf tx ty) p)) mH mX mR mO fs, eI t mT 200 (nf tx), eI t mD 6 (nf (vup (vup d pl (nvl (chf tx ty) p)) (pl + 1) (nvl (chf tx ty) (e1 (chf tx ty) p))))]) := by
  refine Ct.of (by decide) (Nat.le_of_ble_eq_true rfl) (fun k X hRet => ?_)
  have X : zX D t k cX5_readsTwo 4 RX5 "readsTwo" rm_X5_readsTwoy lq := X
  refine z_eq (lv2 := [(0, .ref mq), (1, .int (nI pl)), (2, .int (nI A)), (3, .int (nI B))]) rfl rfl rfl ?_
  have hn1 := nln_le (chf tx ty) p
  have he1 : e1 (chf tx ty) p < 950 := by unfold e1; omega
  refine z_aload_n X (pc := 0) 0 dX5_readsTwo_0 rfl ?_
  refine z_get X (pc := 1) 0 2 (.ref mD) tu_5 tw_561 dX5_readsTwo_1 rfl rfl (by decide) rfl rfl ?_
  refine z_iload_n X (pc := 4) 1 dX5_readsTwo_4 rfl ?_
  refine z_aload_n X (pc := 5) 0 dX5_readsTwo_5 rfl ?_
  refine z_iconst X (pc := 6) (nI 0) dX5_readsTwo_6 (by decide) ?_
  refine z_iload_n X (pc := 7) 2 dX5_readsTwo_7 rfl ?_
  refine z_bipush X (pc := 8) (nI 44) dX5_readsTwo_8 (by decide) ?_
  refine zc_V (as := [.int (nI 0), .int (nI A), .int (nI 44)]) X (pc := 10) (c_X5_numbery lq D t mq mT mD mS mP mI mE mH mX mR mO ty ev kn kp sg (nI 0) fs tx p 0 A 44 (by omega) (by omega) htx (by decide) (by omega) (by decide) hok1) tw_638 tw_641 tw_7 tw_640 tw_1027 0 5 rfl rfl [0, 1] rfl rfl dX5_readsTwo_10 rfl zdX5_number ⟨rfl, rfl, Nat.le_of_ble_eq_true rfl, Nat.le_of_ble_eq_true rfl⟩ (Nat.le_of_ble_eq_true rfl) (Nat.zero_le _) (Nat.zero_le _) (fun v_1 w_2 hp_3 => ?_)
  obtain ⟨rfl, rfl⟩ := hp_3
  refine ⟨rfl, ?_⟩
  refine z_eq (ws2 := [eX5 mq mT (nI ty) mD mS (nI ev) mP (nI kn) mI (nI kp) mE (nI sg) (nI (e1 (chf tx ty) p)) mH mX mR mO fs, eI t mT 200 (nf tx), eI t mD 6 (nf d)]) (st2 := [.int (nI (nvl (chf tx ty) p)), .int (nI pl), .ref mD]) rfl rfl rfl ?_
  refine z_iast X (pc := 13) 2 pl (nf (vup d pl (nvl (chf tx ty) p))) [eX5 mq mT (nI ty) mD mS (nI ev) mP (nI kn) mI (nI kp) mE (nI sg) (nI (e1 (chf tx ty) p)) mH mX mR mO fs, eI t mT 200 (nf tx), eI t mD 6 (nf (vup d pl (nvl (chf tx ty) p)))] dX5_readsTwo_13 rfl rfl (Nat.le_of_ble_eq_true rfl) (by omega) (upd_nf _ _ _) rfl ?_
  refine z_aload_n X (pc := 14) 0 dX5_readsTwo_14 rfl ?_
  refine z_get X (pc := 15) 0 2 (.ref mD) tu_5 tw_561 dX5_readsTwo_15 rfl rfl (by decide) rfl rfl ?_
  refine z_iload_n X (pc := 18) 1 dX5_readsTwo_18 rfl ?_
  refine z_iconst X (pc := 19) (nI 1) dX5_readsTwo_19 (by decide) ?_
  refine z_iadd X (pc := 20) (v := (nI (pl + 1))) dX5_readsTwo_20 (nI_add pl 1) ?_
  refine z_aload_n X (pc := 21) 0 dX5_readsTwo_21 rfl ?_
  refine z_get X (pc := 22) 0 2 (.ref mD) tu_5 tw_561 dX5_readsTwo_22 rfl rfl (by decide) rfl rfl ?_
  refine z_iload_n X (pc := 25) 1 dX5_readsTwo_25 rfl ?_
  refine z_iald X (pc := 26) 2 pl (nI (nvl (chf tx ty) p)) dX5_readsTwo_26 rfl rfl (Nat.le_of_ble_eq_true rfl) (by omega) (by show nI (vup d pl (nvl (chf tx ty) p) pl) = _; rw [vup_s]) ?_
  refine z_if_geN X (pc := 27) 34 (by have := nvl_le hok1.1; omega) dX5_readsTwo_27 (by decide) ?_
  refine z_aload_n X (pc := 34) 0 dX5_readsTwo_34 rfl ?_
  refine z_iconst X (pc := 35) (nI 0) dX5_readsTwo_35 (by decide) ?_
  refine z_iload_n X (pc := 36) 3 dX5_readsTwo_36 rfl ?_
  refine z_bipush X (pc := 37) (nI 59) dX5_readsTwo_37 (by decide) ?_
  refine zc_V (as := [.int (nI 0), .int (nI B), .int (nI 59)]) X (pc := 39) (c_X5_numbery lq D t mq mT mD mS mP mI mE mH mX mR mO ty ev kn kp sg (nI 0) fs tx (e1 (chf tx ty) p) 0 B 59 (by omega) (by omega) htx (by decide) (by omega) (by decide) hok2) tw_638 tw_641 tw_7 tw_640 tw_1027 0 5 rfl rfl [0, 1] rfl rfl dX5_readsTwo_39 rfl zdX5_number ⟨rfl, rfl, Nat.le_of_ble_eq_true rfl, Nat.le_of_ble_eq_true rfl⟩ (Nat.le_of_ble_eq_true rfl) (Nat.zero_le _) (Nat.zero_le _) (fun v_4 w_5 hp_6 => ?_)
  obtain ⟨rfl, rfl⟩ := hp_6
  refine ⟨rfl, ?_⟩
  refine z_eq (ws2 := [eX5 mq mT (nI ty) mD mS (nI ev) mP (nI kn) mI (nI kp) mE (nI sg) (nI (e1 (chf tx ty) (e1 (chf tx ty) p))) mH mX mR mO fs, eI t mT 200 (nf tx), eI t mD 6 (nf (vup d pl (nvl (chf tx ty) p)))]) (st2 := [.int (nI (nvl (chf tx ty) (e1 (chf tx ty) p))), .int (nI (pl + 1)), .ref mD]) rfl rfl rfl ?_
  refine z_iast X (pc := 42) 2 (pl + 1) (nf (vup (vup d pl (nvl (chf tx ty) p)) (pl + 1) (nvl (chf tx ty) (e1 (chf tx ty) p)))) [eX5 mq mT (nI ty) mD mS (nI ev) mP (nI kn) mI (nI kp) mE (nI sg) (nI (e1 (chf tx ty) (e1 (chf tx ty) p))) mH mX mR mO fs, eI t mT 200 (nf tx), eI t mD 6 (nf (vup (vup d pl (nvl (chf tx ty) p)) (pl + 1) (nvl (chf tx ty) (e1 (chf tx ty) p))))] dX5_readsTwo_42 rfl rfl (Nat.le_of_ble_eq_true rfl) (by omega) (upd_nf _ _ _) rfl ?_
  refine z_aload_n X (pc := 43) 0 dX5_readsTwo_43 rfl ?_
  refine z_get X (pc := 44) 0 2 (.ref mD) tu_5 tw_561 dX5_readsTwo_44 rfl rfl (by decide) rfl rfl ?_
  refine z_iload_n X (pc := 47) 1 dX5_readsTwo_47 rfl ?_
  refine z_iconst X (pc := 48) (nI 1) dX5_readsTwo_48 (by decide) ?_
  refine z_iadd X (pc := 49) (v := (nI (pl + 1))) dX5_readsTwo_49 (nI_add pl 1) ?_
  refine z_iald X (pc := 50) 2 (pl + 1) (nI (nvl (chf tx ty) (e1 (chf tx ty) p))) dX5_readsTwo_50 rfl rfl (Nat.le_of_ble_eq_true rfl) (by omega) (by show nI (vup (vup d pl (nvl (chf tx ty) p)) (pl + 1) (nvl (chf tx ty) (e1 (chf tx ty) p)) (pl + 1)) = _; rw [vup_s]) ?_
  refine z_if_ltN X (pc := 51) 58 (by have := nvl_le hok2.1; omega) dX5_readsTwo_51 (by decide) ?_
  refine z_iconst X (pc := 54) (nI 1) dX5_readsTwo_54 (by decide) ?_
  refine z_goto X (pc := 55) 59 dX5_readsTwo_55 (by decide) ?_
  exact hRet.z dX5_readsTwo_59 rfl ⟨rfl, rfl⟩

abbrev rm_X5_readsTwon : Room := { frames := 3, cells := 0, slots := 0, locals := 67 }
set_option maxHeartbeats 4000000 in
set_option maxRecDepth 100000 in
theorem c_X5_readsTwon (lq : Launch) (D : va_G) (t : zT) (mq mT mD mS mP mI mE mH mX mR mO ty ev kn kp sg : Nat) (at_ : Int32) (fs : Int64) (tx d : Nat → Nat) (p pl A B : Nat) (hty9 : ty ≤ 200) (hp : p < 900) (htx : ∀ j, tx j < 127) (hA : A ≤ 10) (hB : B ≤ 10) (hpl : pl ≤ 3) (hok : ¬ ((dig (chf tx ty) p ∧ chf tx ty (p + nln (chf tx ty) p) = 44 ∧ 0 ≤ nvl (chf tx ty) p ∧ nvl (chf tx ty) p ≤ A) ∧ (dig (chf tx ty) (e1 (chf tx ty) p) ∧ chf tx ty (e1 (chf tx ty) p + nln (chf tx ty) (e1 (chf tx ty) p)) = 59 ∧ 0 ≤ nvl (chf tx ty) (e1 (chf tx ty) p) ∧ nvl (chf tx ty) (e1 (chf tx ty) p) ≤ B))) : Ct lq D t yX5_readsTwo cX5_readsTwo 4 (some .boolean) rm_X5_readsTwon [.ref mq, .int (nI pl), .int (nI A), .int (nI B)] [eX5 mq mT (nI ty) mD mS (nI ev) mP (nI kn) mI (nI kp) mE (nI sg) (nI p) mH mX mR mO fs, eI t mT 200 (nf tx), eI t mD 6 (nf d)] 0 0 (fun rv rw_ => ∃ (at2 : Int32) (D2 : Nat → Int32), rv = some (.int (nI 0)) ∧ rw_ = [eX5 mq mT (nI ty) mD mS (nI ev) mP (nI kn) mI (nI kp) mE (nI sg) at2 mH mX mR mO fs, eI t mT 200 (nf tx), eI t mD 6 D2]) := by
  refine Ct.of (by decide) (Nat.le_of_ble_eq_true rfl) (fun k X hRet => ?_)
  have X : zX D t k cX5_readsTwo 4 RX5 "readsTwo" rm_X5_readsTwon lq := X
  refine z_eq (lv2 := [(0, .ref mq), (1, .int (nI pl)), (2, .int (nI A)), (3, .int (nI B))]) rfl rfl rfl ?_
  have hn1 := nln_le (chf tx ty) p
  have he1 : e1 (chf tx ty) p < 950 := by unfold e1; omega
  by_cases hok1 : dig (chf tx ty) p ∧ chf tx ty (p + nln (chf tx ty) p) = 44 ∧ 0 ≤ nvl (chf tx ty) p ∧ nvl (chf tx ty) p ≤ A
  · skip
    have hok2 : ¬ (dig (chf tx ty) (e1 (chf tx ty) p) ∧ chf tx ty (e1 (chf tx ty) p + nln (chf tx ty) (e1 (chf tx ty) p)) = 59 ∧ 0 ≤ nvl (chf tx ty) (e1 (chf tx ty) p) ∧ nvl (chf tx ty) (e1 (chf tx ty) p) ≤ B) := fun z => hok ⟨hok1, z⟩
    have hn1 := nln_le (chf tx ty) p
    have he1 : e1 (chf tx ty) p < 950 := by unfold e1; omega
    refine z_aload_n X (pc := 0) 0 dX5_readsTwo_0 rfl ?_
    refine z_get X (pc := 1) 0 2 (.ref mD) tu_5 tw_561 dX5_readsTwo_1 rfl rfl (by decide) rfl rfl ?_
    refine z_iload_n X (pc := 4) 1 dX5_readsTwo_4 rfl ?_
    refine z_aload_n X (pc := 5) 0 dX5_readsTwo_5 rfl ?_
    refine z_iconst X (pc := 6) (nI 0) dX5_readsTwo_6 (by decide) ?_
    refine z_iload_n X (pc := 7) 2 dX5_readsTwo_7 rfl ?_
    refine z_bipush X (pc := 8) (nI 44) dX5_readsTwo_8 (by decide) ?_
    refine zc_V (as := [.int (nI 0), .int (nI A), .int (nI 44)]) X (pc := 10) (c_X5_numbery lq D t mq mT mD mS mP mI mE mH mX mR mO ty ev kn kp sg (nI 0) fs tx p 0 A 44 (by omega) (by omega) htx (by decide) (by omega) (by decide) hok1) tw_638 tw_641 tw_7 tw_640 tw_1027 0 5 rfl rfl [0, 1] rfl rfl dX5_readsTwo_10 rfl zdX5_number ⟨rfl, rfl, Nat.le_of_ble_eq_true rfl, Nat.le_of_ble_eq_true rfl⟩ (Nat.le_of_ble_eq_true rfl) (Nat.zero_le _) (Nat.zero_le _) (fun v_1 w_2 hp_3 => ?_)
    obtain ⟨rfl, rfl⟩ := hp_3
    refine ⟨rfl, ?_⟩
    refine z_eq (ws2 := [eX5 mq mT (nI ty) mD mS (nI ev) mP (nI kn) mI (nI kp) mE (nI sg) (nI (e1 (chf tx ty) p)) mH mX mR mO fs, eI t mT 200 (nf tx), eI t mD 6 (nf d)]) (st2 := [.int (nI (nvl (chf tx ty) p)), .int (nI pl), .ref mD]) rfl rfl rfl ?_
    refine z_iast X (pc := 13) 2 pl (nf (vup d pl (nvl (chf tx ty) p))) [eX5 mq mT (nI ty) mD mS (nI ev) mP (nI kn) mI (nI kp) mE (nI sg) (nI (e1 (chf tx ty) p)) mH mX mR mO fs, eI t mT 200 (nf tx), eI t mD 6 (nf (vup d pl (nvl (chf tx ty) p)))] dX5_readsTwo_13 rfl rfl (Nat.le_of_ble_eq_true rfl) (by omega) (upd_nf _ _ _) rfl ?_
    refine z_aload_n X (pc := 14) 0 dX5_readsTwo_14 rfl ?_
    refine z_get X (pc := 15) 0 2 (.ref mD) tu_5 tw_561 dX5_readsTwo_15 rfl rfl (by decide) rfl rfl ?_
    refine z_iload_n X (pc := 18) 1 dX5_readsTwo_18 rfl ?_
    refine z_iconst X (pc := 19) (nI 1) dX5_readsTwo_19 (by decide) ?_
    refine z_iadd X (pc := 20) (v := (nI (pl + 1))) dX5_readsTwo_20 (nI_add pl 1) ?_
    refine z_aload_n X (pc := 21) 0 dX5_readsTwo_21 rfl ?_
    refine z_get X (pc := 22) 0 2 (.ref mD) tu_5 tw_561 dX5_readsTwo_22 rfl rfl (by decide) rfl rfl ?_
    refine z_iload_n X (pc := 25) 1 dX5_readsTwo_25 rfl ?_
    refine z_iald X (pc := 26) 2 pl (nI (nvl (chf tx ty) p)) dX5_readsTwo_26 rfl rfl (Nat.le_of_ble_eq_true rfl) (by omega) (by show nI (vup d pl (nvl (chf tx ty) p) pl) = _; rw [vup_s]) ?_
    refine z_if_geN X (pc := 27) 34 (by have := nvl_le hok1.1; omega) dX5_readsTwo_27 (by decide) ?_
    refine z_aload_n X (pc := 34) 0 dX5_readsTwo_34 rfl ?_
    refine z_iconst X (pc := 35) (nI 0) dX5_readsTwo_35 (by decide) ?_
    refine z_iload_n X (pc := 36) 3 dX5_readsTwo_36 rfl ?_
    refine z_bipush X (pc := 37) (nI 59) dX5_readsTwo_37 (by decide) ?_
    refine zc_V (as := [.int (nI 0), .int (nI B), .int (nI 59)]) X (pc := 39) (c_X5_numbern lq D t mq mT mD mS mP mI mE mH mX mR mO ty ev kn kp sg (nI 0) fs tx (e1 (chf tx ty) p) 0 B 59 (by omega) (by omega) htx (by decide) (by omega) (by decide) hok2) tw_638 tw_641 tw_7 tw_640 tw_1027 0 5 rfl rfl [0, 1] rfl rfl dX5_readsTwo_39 rfl zdX5_number ⟨rfl, rfl, Nat.le_of_ble_eq_true rfl, Nat.le_of_ble_eq_true rfl⟩ (Nat.le_of_ble_eq_true rfl) (Nat.zero_le _) (Nat.zero_le _) (fun v_4 w_5 hp_6 => ?_)
    obtain ⟨at2_7, rfl, rfl⟩ := hp_6
    refine ⟨rfl, ?_⟩
    refine z_eq (ws2 := [eX5 mq mT (nI ty) mD mS (nI ev) mP (nI kn) mI (nI kp) mE (nI sg) at2_7 mH mX mR mO fs, eI t mT 200 (nf tx), eI t mD 6 (nf (vup d pl (nvl (chf tx ty) p)))]) (st2 := [.int (-1), .int (nI (pl + 1)), .ref mD]) rfl rfl rfl ?_
    refine z_iast X (pc := 42) 2 (pl + 1) (upd (nf (vup d pl (nvl (chf tx ty) p))) (pl + 1) (-1)) [eX5 mq mT (nI ty) mD mS (nI ev) mP (nI kn) mI (nI kp) mE (nI sg) at2_7 mH mX mR mO fs, eI t mT 200 (nf tx), eI t mD 6 (upd (nf (vup d pl (nvl (chf tx ty) p))) (pl + 1) (-1))] dX5_readsTwo_42 rfl rfl (Nat.le_of_ble_eq_true rfl) (by omega) rfl rfl ?_
    refine z_aload_n X (pc := 43) 0 dX5_readsTwo_43 rfl ?_
    refine z_get X (pc := 44) 0 2 (.ref mD) tu_5 tw_561 dX5_readsTwo_44 rfl rfl (by decide) rfl rfl ?_
    refine z_iload_n X (pc := 47) 1 dX5_readsTwo_47 rfl ?_
    refine z_iconst X (pc := 48) (nI 1) dX5_readsTwo_48 (by decide) ?_
    refine z_iadd X (pc := 49) (v := (nI (pl + 1))) dX5_readsTwo_49 (nI_add pl 1) ?_
    refine z_iald X (pc := 50) 2 (pl + 1) (-1) dX5_readsTwo_50 rfl rfl (Nat.le_of_ble_eq_true rfl) (by omega) (by simp [upd]) ?_
    refine z_if_lt X (pc := 51) 58 dX5_readsTwo_51 (by decide) (fun c_51 => ?_) (fun c_51 => absurd c_51 (by decide))
    refine z_iconst X (pc := 58) (nI 0) dX5_readsTwo_58 (by decide) ?_
    exact hRet.z dX5_readsTwo_59 rfl ⟨at2_7, (upd (nf (vup d pl (nvl (chf tx ty) p))) (pl + 1) (-1)), rfl, rfl⟩
  · skip
    have hn1 := nln_le (chf tx ty) p
    have he1 : e1 (chf tx ty) p < 950 := by unfold e1; omega
    refine z_aload_n X (pc := 0) 0 dX5_readsTwo_0 rfl ?_
    refine z_get X (pc := 1) 0 2 (.ref mD) tu_5 tw_561 dX5_readsTwo_1 rfl rfl (by decide) rfl rfl ?_
    refine z_iload_n X (pc := 4) 1 dX5_readsTwo_4 rfl ?_
    refine z_aload_n X (pc := 5) 0 dX5_readsTwo_5 rfl ?_
    refine z_iconst X (pc := 6) (nI 0) dX5_readsTwo_6 (by decide) ?_
    refine z_iload_n X (pc := 7) 2 dX5_readsTwo_7 rfl ?_
    refine z_bipush X (pc := 8) (nI 44) dX5_readsTwo_8 (by decide) ?_
    refine zc_V (as := [.int (nI 0), .int (nI A), .int (nI 44)]) X (pc := 10) (c_X5_numbern lq D t mq mT mD mS mP mI mE mH mX mR mO ty ev kn kp sg (nI 0) fs tx p 0 A 44 (by omega) (by omega) htx (by decide) (by omega) (by decide) hok1) tw_638 tw_641 tw_7 tw_640 tw_1027 0 5 rfl rfl [0, 1] rfl rfl dX5_readsTwo_10 rfl zdX5_number ⟨rfl, rfl, Nat.le_of_ble_eq_true rfl, Nat.le_of_ble_eq_true rfl⟩ (Nat.le_of_ble_eq_true rfl) (Nat.zero_le _) (Nat.zero_le _) (fun v_8 w_9 hp_10 => ?_)
    obtain ⟨at2_11, rfl, rfl⟩ := hp_10
    refine ⟨rfl, ?_⟩
    refine z_eq (ws2 := [eX5 mq mT (nI ty) mD mS (nI ev) mP (nI kn) mI (nI kp) mE (nI sg) at2_11 mH mX mR mO fs, eI t mT 200 (nf tx), eI t mD 6 (nf d)]) (st2 := [.int (-1), .int (nI pl), .ref mD]) rfl rfl rfl ?_
    refine z_iast X (pc := 13) 2 pl (upd (nf d) pl (-1)) [eX5 mq mT (nI ty) mD mS (nI ev) mP (nI kn) mI (nI kp) mE (nI sg) at2_11 mH mX mR mO fs, eI t mT 200 (nf tx), eI t mD 6 (upd (nf d) pl (-1))] dX5_readsTwo_13 rfl rfl (Nat.le_of_ble_eq_true rfl) (by omega) rfl rfl ?_
    refine z_aload_n X (pc := 14) 0 dX5_readsTwo_14 rfl ?_
    refine z_get X (pc := 15) 0 2 (.ref mD) tu_5 tw_561 dX5_readsTwo_15 rfl rfl (by decide) rfl rfl ?_
    refine z_iload_n X (pc := 18) 1 dX5_readsTwo_18 rfl ?_
    refine z_iconst X (pc := 19) (nI 1) dX5_readsTwo_19 (by decide) ?_
    refine z_iadd X (pc := 20) (v := (nI (pl + 1))) dX5_readsTwo_20 (nI_add pl 1) ?_
    refine z_aload_n X (pc := 21) 0 dX5_readsTwo_21 rfl ?_
    refine z_get X (pc := 22) 0 2 (.ref mD) tu_5 tw_561 dX5_readsTwo_22 rfl rfl (by decide) rfl rfl ?_
    refine z_iload_n X (pc := 25) 1 dX5_readsTwo_25 rfl ?_
    refine z_iald X (pc := 26) 2 pl (-1) dX5_readsTwo_26 rfl rfl (Nat.le_of_ble_eq_true rfl) (by omega) (by simp [upd]) ?_
    refine z_if_ge X (pc := 27) 34 dX5_readsTwo_27 (by decide) (fun c_27 => absurd c_27 (by decide)) (fun c_27 => ?_)
    refine z_iconst X (pc := 30) (-1) dX5_readsTwo_30 (by decide) ?_
    refine z_goto X (pc := 31) 42 dX5_readsTwo_31 (by decide) ?_
    refine z_iast X (pc := 42) 2 (pl + 1) (upd (upd (nf d) pl (-1)) (pl + 1) (-1)) [eX5 mq mT (nI ty) mD mS (nI ev) mP (nI kn) mI (nI kp) mE (nI sg) at2_11 mH mX mR mO fs, eI t mT 200 (nf tx), eI t mD 6 (upd (upd (nf d) pl (-1)) (pl + 1) (-1))] dX5_readsTwo_42 rfl rfl (Nat.le_of_ble_eq_true rfl) (by omega) rfl rfl ?_
    refine z_aload_n X (pc := 43) 0 dX5_readsTwo_43 rfl ?_
    refine z_get X (pc := 44) 0 2 (.ref mD) tu_5 tw_561 dX5_readsTwo_44 rfl rfl (by decide) rfl rfl ?_
    refine z_iload_n X (pc := 47) 1 dX5_readsTwo_47 rfl ?_
    refine z_iconst X (pc := 48) (nI 1) dX5_readsTwo_48 (by decide) ?_
    refine z_iadd X (pc := 49) (v := (nI (pl + 1))) dX5_readsTwo_49 (nI_add pl 1) ?_
    refine z_iald X (pc := 50) 2 (pl + 1) (-1) dX5_readsTwo_50 rfl rfl (Nat.le_of_ble_eq_true rfl) (by omega) (by simp [upd]) ?_
    refine z_if_lt X (pc := 51) 58 dX5_readsTwo_51 (by decide) (fun c_51 => ?_) (fun c_51 => absurd c_51 (by decide))
    refine z_iconst X (pc := 58) (nI 0) dX5_readsTwo_58 (by decide) ?_
    exact hRet.z dX5_readsTwo_59 rfl ⟨at2_11, (upd (upd (nf d) pl (-1)) (pl + 1) (-1)), rfl, rfl⟩

abbrev rm_X5_readsItem : Room := { frames := 4, cells := 0, slots := 0, locals := 90 }
set_option maxHeartbeats 4000000 in
set_option maxRecDepth 100000 in
theorem c_X5_readsItem (lq : Launch) (D : va_G) (t : zT) (mq mT mD mS mP mI mE mH mX mR mO ty ev kn kp sg : Nat) (at_ : Int32) (fs : Int64) (tx d : Nat → Nat) (p : Nat) (hty9 : ty ≤ 200) (hp : p < 800) (htx : ∀ j, tx j < 127) : Ct lq D t yX5_readsItem cX5_readsItem 2 (some .boolean) rm_X5_readsItem [.ref mq, .int (nI (chf tx ty p))] [eX5 mq mT (nI ty) mD mS (nI ev) mP (nI kn) mI (nI kp) mE (nI sg) (nI (p + 1)) mH mX mR mO fs, eI t mT 200 (nf tx), eI t mD 6 (nf d)] 0 0 (fun rv rw_ => ∃ (at2 : Int32) (D2 : Nat → Int32), (okI (chf tx ty) p → at2 = nI (nxt (chf tx ty) p) ∧ D2 = nf (dupd (chf tx ty) p d)) ∧ rv = some (.int (zb (okI (chf tx ty) p))) ∧ rw_ = [eX5 mq mT (nI ty) mD mS (nI ev) mP (nI kn) mI (nI kp) mE (nI sg) at2 mH mX mR mO fs, eI t mT 200 (nf tx), eI t mD 6 D2]) := by
  refine Ct.of (by decide) (Nat.le_of_ble_eq_true rfl) (fun k X hRet => ?_)
  have X : zX D t k cX5_readsItem 2 RX5 "readsItem" rm_X5_readsItem lq := X
  refine z_eq (lv2 := [(0, .ref mq), (1, .int (nI (chf tx ty p)))]) rfl rfl rfl ?_
  refine z_iload_n X (pc := 0) 1 dX5_readsItem_0 rfl ?_
  have hch := @chf_lt tx ty p htx
  by_cases h98 : chf tx ty p = 98
  · refine z_topi (nI 98) (by rw [h98]) ?_
    refine z_lookup X (pc := 1) (off := 43) 44 dX5_readsItem_1 (by decide) (by decide) (by decide) ?_
    by_cases h2 : (dig (chf tx ty) (p + 1) ∧ chf tx ty ((p + 1) + nln (chf tx ty) (p + 1)) = 44 ∧ 0 ≤ nvl (chf tx ty) (p + 1) ∧ nvl (chf tx ty) (p + 1) ≤ 10) ∧ (dig (chf tx ty) (e1 (chf tx ty) (p + 1)) ∧ chf tx ty (e1 (chf tx ty) (p + 1) + nln (chf tx ty) (e1 (chf tx ty) (p + 1))) = 59 ∧ 0 ≤ nvl (chf tx ty) (e1 (chf tx ty) (p + 1)) ∧ nvl (chf tx ty) (e1 (chf tx ty) (p + 1)) ≤ 10)
    · skip
      refine z_aload_n X (pc := 44) 0 dX5_readsItem_44 rfl ?_
      refine z_iconst X (pc := 45) (nI 0) dX5_readsItem_45 (by decide) ?_
      refine z_bipush X (pc := 46) (nI 10) dX5_readsItem_46 (by decide) ?_
      refine z_bipush X (pc := 48) (nI 10) dX5_readsItem_48 (by decide) ?_
      refine zc_V (as := [.int (nI 0), .int (nI 10), .int (nI 10)]) X (pc := 50) (c_X5_readsTwoy lq D t mq mT mD mS mP mI mE mH mX mR mO ty ev kn kp sg (nI 0) fs tx d (p + 1) 0 10 10 (by omega) (by omega) htx (by decide) (by decide) (by decide) h2.1 h2.2) tw_634 tw_637 tw_7 tw_636 tw_1026 0 5 rfl rfl [0, 1, 2] rfl rfl dX5_readsItem_50 rfl zdX5_readsTwo ⟨rfl, rfl, Nat.le_of_ble_eq_true rfl, Nat.le_of_ble_eq_true rfl⟩ (Nat.le_of_ble_eq_true rfl) (Nat.zero_le _) (Nat.zero_le _) (fun v_1 w_2 hp_3 => ?_)
      obtain ⟨rfl, rfl⟩ := hp_3
      refine ⟨rfl, ?_⟩
      refine z_eq (ws2 := [eX5 mq mT (nI ty) mD mS (nI ev) mP (nI kn) mI (nI kp) mE (nI sg) (nI (e2 (chf tx ty) (p + 1))) mH mX mR mO fs, eI t mT 200 (nf tx), eI t mD 6 (nf (vup (vup d 0 (nvl (chf tx ty) (p + 1))) (0 + 1) (nvl (chf tx ty) (e1 (chf tx ty) (p + 1)))))]) (st2 := [.int (nI 1)]) rfl rfl rfl ?_
      exact hRet.z dX5_readsItem_53 rfl ⟨(nI (e2 (chf tx ty) (p + 1))), (nf (vup (vup d 0 (nvl (chf tx ty) (p + 1))) (0 + 1) (nvl (chf tx ty) (e1 (chf tx ty) (p + 1))))), fun _ => ⟨by rw [nxt, if_pos (Or.inl h98)], by rw [dupd, if_pos h98]⟩, some_zb_t (Or.inl ⟨h98, ⟨h2.1.1, h2.1.2.1, h2.2.1, h2.2.2.1⟩, h2.1.2.2.2, h2.2.2.2.2⟩), rfl⟩
    · skip
      refine z_aload_n X (pc := 44) 0 dX5_readsItem_44 rfl ?_
      refine z_iconst X (pc := 45) (nI 0) dX5_readsItem_45 (by decide) ?_
      refine z_bipush X (pc := 46) (nI 10) dX5_readsItem_46 (by decide) ?_
      refine z_bipush X (pc := 48) (nI 10) dX5_readsItem_48 (by decide) ?_
      refine zc_V (as := [.int (nI 0), .int (nI 10), .int (nI 10)]) X (pc := 50) (c_X5_readsTwon lq D t mq mT mD mS mP mI mE mH mX mR mO ty ev kn kp sg (nI 0) fs tx d (p + 1) 0 10 10 (by omega) (by omega) htx (by decide) (by decide) (by decide) h2) tw_634 tw_637 tw_7 tw_636 tw_1026 0 5 rfl rfl [0, 1, 2] rfl rfl dX5_readsItem_50 rfl zdX5_readsTwo ⟨rfl, rfl, Nat.le_of_ble_eq_true rfl, Nat.le_of_ble_eq_true rfl⟩ (Nat.le_of_ble_eq_true rfl) (Nat.zero_le _) (Nat.zero_le _) (fun v_4 w_5 hp_6 => ?_)
      obtain ⟨at2_7, D2_8, rfl, rfl⟩ := hp_6
      refine ⟨rfl, ?_⟩
      refine z_eq (ws2 := [eX5 mq mT (nI ty) mD mS (nI ev) mP (nI kn) mI (nI kp) mE (nI sg) at2_7 mH mX mR mO fs, eI t mT 200 (nf tx), eI t mD 6 D2_8]) (st2 := [.int (nI 0)]) rfl rfl rfl ?_
      exact hRet.z dX5_readsItem_53 rfl ⟨at2_7, D2_8, fun z => absurd z (by intro z; rcases z with ⟨q1, ⟨q2, q3, q4, q5⟩, q6, q7⟩ | ⟨q1, ⟨q2, q3, q4, q5⟩, q6, q7⟩ | ⟨q1, ⟨q2, q3⟩, q6⟩ | ⟨q1, ⟨q2, q3⟩, q6, q7⟩ <;> first | omega | exact h2 ⟨⟨q2, q3, Nat.zero_le _, q6⟩, ⟨q4, q5, Nat.zero_le _, q7⟩⟩ | exact h2 ⟨q2, q3, Nat.zero_le _, q6⟩ | exact h2 ⟨q2, q3, q6, q7⟩), some_zb_f (by intro z; rcases z with ⟨q1, ⟨q2, q3, q4, q5⟩, q6, q7⟩ | ⟨q1, ⟨q2, q3, q4, q5⟩, q6, q7⟩ | ⟨q1, ⟨q2, q3⟩, q6⟩ | ⟨q1, ⟨q2, q3⟩, q6, q7⟩ <;> first | omega | exact h2 ⟨⟨q2, q3, Nat.zero_le _, q6⟩, ⟨q4, q5, Nat.zero_le _, q7⟩⟩ | exact h2 ⟨q2, q3, Nat.zero_le _, q6⟩ | exact h2 ⟨q2, q3, q6, q7⟩), rfl⟩
  by_cases h104 : chf tx ty p = 104
  · refine z_topi (nI 104) (by rw [h104]) ?_
    refine z_lookup X (pc := 1) (off := 53) 54 dX5_readsItem_1 (by decide) (by decide) (by decide) ?_
    by_cases h2 : (dig (chf tx ty) (p + 1) ∧ chf tx ty ((p + 1) + nln (chf tx ty) (p + 1)) = 44 ∧ 0 ≤ nvl (chf tx ty) (p + 1) ∧ nvl (chf tx ty) (p + 1) ≤ 3) ∧ (dig (chf tx ty) (e1 (chf tx ty) (p + 1)) ∧ chf tx ty (e1 (chf tx ty) (p + 1) + nln (chf tx ty) (e1 (chf tx ty) (p + 1))) = 59 ∧ 0 ≤ nvl (chf tx ty) (e1 (chf tx ty) (p + 1)) ∧ nvl (chf tx ty) (e1 (chf tx ty) (p + 1)) ≤ 4)
    · skip
      refine z_aload_n X (pc := 54) 0 dX5_readsItem_54 rfl ?_
      refine z_iconst X (pc := 55) (nI 3) dX5_readsItem_55 (by decide) ?_
      refine z_iconst X (pc := 56) (nI 3) dX5_readsItem_56 (by decide) ?_
      refine z_iconst X (pc := 57) (nI 4) dX5_readsItem_57 (by decide) ?_
      refine zc_V (as := [.int (nI 3), .int (nI 3), .int (nI 4)]) X (pc := 58) (c_X5_readsTwoy lq D t mq mT mD mS mP mI mE mH mX mR mO ty ev kn kp sg (nI 0) fs tx d (p + 1) 3 3 4 (by omega) (by omega) htx (by decide) (by decide) (by decide) h2.1 h2.2) tw_634 tw_637 tw_7 tw_636 tw_1026 0 5 rfl rfl [0, 1, 2] rfl rfl dX5_readsItem_58 rfl zdX5_readsTwo ⟨rfl, rfl, Nat.le_of_ble_eq_true rfl, Nat.le_of_ble_eq_true rfl⟩ (Nat.le_of_ble_eq_true rfl) (Nat.zero_le _) (Nat.zero_le _) (fun v_9 w_10 hp_11 => ?_)
      obtain ⟨rfl, rfl⟩ := hp_11
      refine ⟨rfl, ?_⟩
      refine z_eq (ws2 := [eX5 mq mT (nI ty) mD mS (nI ev) mP (nI kn) mI (nI kp) mE (nI sg) (nI (e2 (chf tx ty) (p + 1))) mH mX mR mO fs, eI t mT 200 (nf tx), eI t mD 6 (nf (vup (vup d 3 (nvl (chf tx ty) (p + 1))) (3 + 1) (nvl (chf tx ty) (e1 (chf tx ty) (p + 1)))))]) (st2 := [.int (nI 1)]) rfl rfl rfl ?_
      exact hRet.z dX5_readsItem_61 rfl ⟨(nI (e2 (chf tx ty) (p + 1))), (nf (vup (vup d 3 (nvl (chf tx ty) (p + 1))) (3 + 1) (nvl (chf tx ty) (e1 (chf tx ty) (p + 1))))), fun _ => ⟨by rw [nxt, if_pos (Or.inr h104)], by rw [dupd, if_neg (by omega), if_pos h104]⟩, some_zb_t (Or.inr (Or.inl ⟨h104, ⟨h2.1.1, h2.1.2.1, h2.2.1, h2.2.2.1⟩, h2.1.2.2.2, h2.2.2.2.2⟩)), rfl⟩
    · skip
      refine z_aload_n X (pc := 54) 0 dX5_readsItem_54 rfl ?_
      refine z_iconst X (pc := 55) (nI 3) dX5_readsItem_55 (by decide) ?_
      refine z_iconst X (pc := 56) (nI 3) dX5_readsItem_56 (by decide) ?_
      refine z_iconst X (pc := 57) (nI 4) dX5_readsItem_57 (by decide) ?_
      refine zc_V (as := [.int (nI 3), .int (nI 3), .int (nI 4)]) X (pc := 58) (c_X5_readsTwon lq D t mq mT mD mS mP mI mE mH mX mR mO ty ev kn kp sg (nI 0) fs tx d (p + 1) 3 3 4 (by omega) (by omega) htx (by decide) (by decide) (by decide) h2) tw_634 tw_637 tw_7 tw_636 tw_1026 0 5 rfl rfl [0, 1, 2] rfl rfl dX5_readsItem_58 rfl zdX5_readsTwo ⟨rfl, rfl, Nat.le_of_ble_eq_true rfl, Nat.le_of_ble_eq_true rfl⟩ (Nat.le_of_ble_eq_true rfl) (Nat.zero_le _) (Nat.zero_le _) (fun v_12 w_13 hp_14 => ?_)
      obtain ⟨at2_15, D2_16, rfl, rfl⟩ := hp_14
      refine ⟨rfl, ?_⟩
      refine z_eq (ws2 := [eX5 mq mT (nI ty) mD mS (nI ev) mP (nI kn) mI (nI kp) mE (nI sg) at2_15 mH mX mR mO fs, eI t mT 200 (nf tx), eI t mD 6 D2_16]) (st2 := [.int (nI 0)]) rfl rfl rfl ?_
      exact hRet.z dX5_readsItem_61 rfl ⟨at2_15, D2_16, fun z => absurd z (by intro z; rcases z with ⟨q1, ⟨q2, q3, q4, q5⟩, q6, q7⟩ | ⟨q1, ⟨q2, q3, q4, q5⟩, q6, q7⟩ | ⟨q1, ⟨q2, q3⟩, q6⟩ | ⟨q1, ⟨q2, q3⟩, q6, q7⟩ <;> first | omega | exact h2 ⟨⟨q2, q3, Nat.zero_le _, q6⟩, ⟨q4, q5, Nat.zero_le _, q7⟩⟩ | exact h2 ⟨q2, q3, Nat.zero_le _, q6⟩ | exact h2 ⟨q2, q3, q6, q7⟩), some_zb_f (by intro z; rcases z with ⟨q1, ⟨q2, q3, q4, q5⟩, q6, q7⟩ | ⟨q1, ⟨q2, q3, q4, q5⟩, q6, q7⟩ | ⟨q1, ⟨q2, q3⟩, q6⟩ | ⟨q1, ⟨q2, q3⟩, q6, q7⟩ <;> first | omega | exact h2 ⟨⟨q2, q3, Nat.zero_le _, q6⟩, ⟨q4, q5, Nat.zero_le _, q7⟩⟩ | exact h2 ⟨q2, q3, Nat.zero_le _, q6⟩ | exact h2 ⟨q2, q3, q6, q7⟩), rfl⟩
  by_cases h108 : chf tx ty p = 108
  · refine z_topi (nI 108) (by rw [h108]) ?_
    refine z_lookup X (pc := 1) (off := 61) 62 dX5_readsItem_1 (by decide) (by decide) (by decide) ?_
    by_cases h2 : dig (chf tx ty) (p + 1) ∧ chf tx ty ((p + 1) + nln (chf tx ty) (p + 1)) = 59 ∧ 0 ≤ nvl (chf tx ty) (p + 1) ∧ nvl (chf tx ty) (p + 1) ≤ 1
    · skip
      refine z_aload_n X (pc := 62) 0 dX5_readsItem_62 rfl ?_
      refine z_get X (pc := 63) 0 2 (.ref mD) tu_5 tw_561 dX5_readsItem_63 rfl rfl (by decide) rfl rfl ?_
      refine z_iconst X (pc := 66) (nI 2) dX5_readsItem_66 (by decide) ?_
      refine z_aload_n X (pc := 67) 0 dX5_readsItem_67 rfl ?_
      refine z_iconst X (pc := 68) (nI 0) dX5_readsItem_68 (by decide) ?_
      refine z_iconst X (pc := 69) (nI 1) dX5_readsItem_69 (by decide) ?_
      refine z_bipush X (pc := 70) (nI 59) dX5_readsItem_70 (by decide) ?_
      refine zc_V (as := [.int (nI 0), .int (nI 1), .int (nI 59)]) X (pc := 72) (c_X5_numbery lq D t mq mT mD mS mP mI mE mH mX mR mO ty ev kn kp sg (nI 0) fs tx (p + 1) 0 1 59 (by omega) (by omega) htx (by decide) (by decide) (by decide) h2) tw_638 tw_641 tw_7 tw_640 tw_1027 0 5 rfl rfl [0, 1] rfl rfl dX5_readsItem_72 rfl zdX5_number ⟨rfl, rfl, Nat.le_of_ble_eq_true rfl, Nat.le_of_ble_eq_true rfl⟩ (Nat.le_of_ble_eq_true rfl) (Nat.zero_le _) (Nat.zero_le _) (fun v_17 w_18 hp_19 => ?_)
      obtain ⟨rfl, rfl⟩ := hp_19
      refine ⟨rfl, ?_⟩
      refine z_eq (ws2 := [eX5 mq mT (nI ty) mD mS (nI ev) mP (nI kn) mI (nI kp) mE (nI sg) (nI (e1 (chf tx ty) (p + 1))) mH mX mR mO fs, eI t mT 200 (nf tx), eI t mD 6 (nf d)]) (st2 := [.int (nI (nvl (chf tx ty) (p + 1))), .int (nI 2), .ref mD]) rfl rfl rfl ?_
      refine z_iast X (pc := 75) 2 2 (nf (vup d 2 (nvl (chf tx ty) (p + 1)))) [eX5 mq mT (nI ty) mD mS (nI ev) mP (nI kn) mI (nI kp) mE (nI sg) (nI (e1 (chf tx ty) (p + 1))) mH mX mR mO fs, eI t mT 200 (nf tx), eI t mD 6 (nf (vup d 2 (nvl (chf tx ty) (p + 1))))] dX5_readsItem_75 rfl rfl (Nat.le_of_ble_eq_true rfl) (by decide) (upd_nf _ _ _) rfl ?_
      refine z_aload_n X (pc := 76) 0 dX5_readsItem_76 rfl ?_
      refine z_get X (pc := 77) 0 2 (.ref mD) tu_5 tw_561 dX5_readsItem_77 rfl rfl (by decide) rfl rfl ?_
      refine z_iconst X (pc := 80) (nI 2) dX5_readsItem_80 (by decide) ?_
      refine z_iald X (pc := 81) 2 2 (nI (nvl (chf tx ty) (p + 1))) dX5_readsItem_81 rfl rfl (Nat.le_of_ble_eq_true rfl) (by decide) rfl ?_
      refine z_if_ltN X (pc := 82) 89 (by have := nvl_le h2.1; omega) dX5_readsItem_82 (by decide) ?_
      refine z_iconst X (pc := 85) (nI 1) dX5_readsItem_85 (by decide) ?_
      refine z_goto X (pc := 86) 90 dX5_readsItem_86 (by decide) ?_
      exact hRet.z dX5_readsItem_90 rfl ⟨(nI (e1 (chf tx ty) (p + 1))), (nf (vup d 2 (nvl (chf tx ty) (p + 1)))), fun _ => ⟨by rw [nxt, if_neg (by omega)], by rw [dupd, if_neg (by omega), if_neg (by omega), if_pos h108]⟩, some_zb_t (Or.inr (Or.inr (Or.inl ⟨h108, ⟨h2.1, h2.2.1⟩, h2.2.2.2⟩))), rfl⟩
    · skip
      refine z_aload_n X (pc := 62) 0 dX5_readsItem_62 rfl ?_
      refine z_get X (pc := 63) 0 2 (.ref mD) tu_5 tw_561 dX5_readsItem_63 rfl rfl (by decide) rfl rfl ?_
      refine z_iconst X (pc := 66) (nI 2) dX5_readsItem_66 (by decide) ?_
      refine z_aload_n X (pc := 67) 0 dX5_readsItem_67 rfl ?_
      refine z_iconst X (pc := 68) (nI 0) dX5_readsItem_68 (by decide) ?_
      refine z_iconst X (pc := 69) (nI 1) dX5_readsItem_69 (by decide) ?_
      refine z_bipush X (pc := 70) (nI 59) dX5_readsItem_70 (by decide) ?_
      refine zc_V (as := [.int (nI 0), .int (nI 1), .int (nI 59)]) X (pc := 72) (c_X5_numbern lq D t mq mT mD mS mP mI mE mH mX mR mO ty ev kn kp sg (nI 0) fs tx (p + 1) 0 1 59 (by omega) (by omega) htx (by decide) (by decide) (by decide) h2) tw_638 tw_641 tw_7 tw_640 tw_1027 0 5 rfl rfl [0, 1] rfl rfl dX5_readsItem_72 rfl zdX5_number ⟨rfl, rfl, Nat.le_of_ble_eq_true rfl, Nat.le_of_ble_eq_true rfl⟩ (Nat.le_of_ble_eq_true rfl) (Nat.zero_le _) (Nat.zero_le _) (fun v_20 w_21 hp_22 => ?_)
      obtain ⟨at2_23, rfl, rfl⟩ := hp_22
      refine ⟨rfl, ?_⟩
      refine z_eq (ws2 := [eX5 mq mT (nI ty) mD mS (nI ev) mP (nI kn) mI (nI kp) mE (nI sg) at2_23 mH mX mR mO fs, eI t mT 200 (nf tx), eI t mD 6 (nf d)]) (st2 := [.int (-1), .int (nI 2), .ref mD]) rfl rfl rfl ?_
      refine z_iast X (pc := 75) 2 2 (upd (nf d) 2 (-1)) [eX5 mq mT (nI ty) mD mS (nI ev) mP (nI kn) mI (nI kp) mE (nI sg) at2_23 mH mX mR mO fs, eI t mT 200 (nf tx), eI t mD 6 (upd (nf d) 2 (-1))] dX5_readsItem_75 rfl rfl (Nat.le_of_ble_eq_true rfl) (by decide) rfl rfl ?_
      refine z_aload_n X (pc := 76) 0 dX5_readsItem_76 rfl ?_
      refine z_get X (pc := 77) 0 2 (.ref mD) tu_5 tw_561 dX5_readsItem_77 rfl rfl (by decide) rfl rfl ?_
      refine z_iconst X (pc := 80) (nI 2) dX5_readsItem_80 (by decide) ?_
      refine z_iald X (pc := 81) 2 2 (-1) dX5_readsItem_81 rfl rfl (Nat.le_of_ble_eq_true rfl) (by decide) (by simp [upd]) ?_
      refine z_if_lt X (pc := 82) 89 dX5_readsItem_82 (by decide) (fun c_82 => ?_) (fun c_82 => absurd c_82 (by decide))
      refine z_iconst X (pc := 89) (nI 0) dX5_readsItem_89 (by decide) ?_
      exact hRet.z dX5_readsItem_90 rfl ⟨at2_23, (upd (nf d) 2 (-1)), fun z => absurd z (by intro z; rcases z with ⟨q1, ⟨q2, q3, q4, q5⟩, q6, q7⟩ | ⟨q1, ⟨q2, q3, q4, q5⟩, q6, q7⟩ | ⟨q1, ⟨q2, q3⟩, q6⟩ | ⟨q1, ⟨q2, q3⟩, q6, q7⟩ <;> first | omega | exact h2 ⟨⟨q2, q3, Nat.zero_le _, q6⟩, ⟨q4, q5, Nat.zero_le _, q7⟩⟩ | exact h2 ⟨q2, q3, Nat.zero_le _, q6⟩ | exact h2 ⟨q2, q3, q6, q7⟩), some_zb_f (by intro z; rcases z with ⟨q1, ⟨q2, q3, q4, q5⟩, q6, q7⟩ | ⟨q1, ⟨q2, q3, q4, q5⟩, q6, q7⟩ | ⟨q1, ⟨q2, q3⟩, q6⟩ | ⟨q1, ⟨q2, q3⟩, q6, q7⟩ <;> first | omega | exact h2 ⟨⟨q2, q3, Nat.zero_le _, q6⟩, ⟨q4, q5, Nat.zero_le _, q7⟩⟩ | exact h2 ⟨q2, q3, Nat.zero_le _, q6⟩ | exact h2 ⟨q2, q3, q6, q7⟩), rfl⟩
  by_cases h101 : chf tx ty p = 101
  · refine z_topi (nI 101) (by rw [h101]) ?_
    refine z_lookup X (pc := 1) (off := 90) 91 dX5_readsItem_1 (by decide) (by decide) (by decide) ?_
    by_cases h2 : dig (chf tx ty) (p + 1) ∧ chf tx ty ((p + 1) + nln (chf tx ty) (p + 1)) = 59 ∧ 1 ≤ nvl (chf tx ty) (p + 1) ∧ nvl (chf tx ty) (p + 1) ≤ 9
    · skip
      refine z_aload_n X (pc := 91) 0 dX5_readsItem_91 rfl ?_
      refine z_get X (pc := 92) 0 2 (.ref mD) tu_5 tw_561 dX5_readsItem_92 rfl rfl (by decide) rfl rfl ?_
      refine z_iconst X (pc := 95) (nI 5) dX5_readsItem_95 (by decide) ?_
      refine z_aload_n X (pc := 96) 0 dX5_readsItem_96 rfl ?_
      refine z_iconst X (pc := 97) (nI 1) dX5_readsItem_97 (by decide) ?_
      refine z_bipush X (pc := 98) (nI 9) dX5_readsItem_98 (by decide) ?_
      refine z_bipush X (pc := 100) (nI 59) dX5_readsItem_100 (by decide) ?_
      refine zc_V (as := [.int (nI 1), .int (nI 9), .int (nI 59)]) X (pc := 102) (c_X5_numbery lq D t mq mT mD mS mP mI mE mH mX mR mO ty ev kn kp sg (nI 0) fs tx (p + 1) 1 9 59 (by omega) (by omega) htx (by decide) (by decide) (by decide) h2) tw_638 tw_641 tw_7 tw_640 tw_1027 0 5 rfl rfl [0, 1] rfl rfl dX5_readsItem_102 rfl zdX5_number ⟨rfl, rfl, Nat.le_of_ble_eq_true rfl, Nat.le_of_ble_eq_true rfl⟩ (Nat.le_of_ble_eq_true rfl) (Nat.zero_le _) (Nat.zero_le _) (fun v_24 w_25 hp_26 => ?_)
      obtain ⟨rfl, rfl⟩ := hp_26
      refine ⟨rfl, ?_⟩
      refine z_eq (ws2 := [eX5 mq mT (nI ty) mD mS (nI ev) mP (nI kn) mI (nI kp) mE (nI sg) (nI (e1 (chf tx ty) (p + 1))) mH mX mR mO fs, eI t mT 200 (nf tx), eI t mD 6 (nf d)]) (st2 := [.int (nI (nvl (chf tx ty) (p + 1))), .int (nI 5), .ref mD]) rfl rfl rfl ?_
      refine z_iast X (pc := 105) 2 5 (nf (vup d 5 (nvl (chf tx ty) (p + 1)))) [eX5 mq mT (nI ty) mD mS (nI ev) mP (nI kn) mI (nI kp) mE (nI sg) (nI (e1 (chf tx ty) (p + 1))) mH mX mR mO fs, eI t mT 200 (nf tx), eI t mD 6 (nf (vup d 5 (nvl (chf tx ty) (p + 1))))] dX5_readsItem_105 rfl rfl (Nat.le_of_ble_eq_true rfl) (by decide) (upd_nf _ _ _) rfl ?_
      refine z_aload_n X (pc := 106) 0 dX5_readsItem_106 rfl ?_
      refine z_get X (pc := 107) 0 2 (.ref mD) tu_5 tw_561 dX5_readsItem_107 rfl rfl (by decide) rfl rfl ?_
      refine z_iconst X (pc := 110) (nI 5) dX5_readsItem_110 (by decide) ?_
      refine z_iald X (pc := 111) 2 5 (nI (nvl (chf tx ty) (p + 1))) dX5_readsItem_111 rfl rfl (Nat.le_of_ble_eq_true rfl) (by decide) rfl ?_
      refine z_if_leN X (pc := 112) 119 (by have := nvl_le h2.1; omega) dX5_readsItem_112 (by decide) (fun c_112 => absurd c_112 (by have := h2.2.2.1; omega)) (fun c_112 => ?_)
      refine z_iconst X (pc := 115) (nI 1) dX5_readsItem_115 (by decide) ?_
      refine z_goto X (pc := 116) 120 dX5_readsItem_116 (by decide) ?_
      exact hRet.z dX5_readsItem_120 rfl ⟨(nI (e1 (chf tx ty) (p + 1))), (nf (vup d 5 (nvl (chf tx ty) (p + 1)))), fun _ => ⟨by rw [nxt, if_neg (by omega)], by rw [dupd, if_neg (by omega), if_neg (by omega), if_neg (by omega)]⟩, some_zb_t (Or.inr (Or.inr (Or.inr ⟨h101, ⟨h2.1, h2.2.1⟩, h2.2.2.1, h2.2.2.2⟩))), rfl⟩
    · skip
      refine z_aload_n X (pc := 91) 0 dX5_readsItem_91 rfl ?_
      refine z_get X (pc := 92) 0 2 (.ref mD) tu_5 tw_561 dX5_readsItem_92 rfl rfl (by decide) rfl rfl ?_
      refine z_iconst X (pc := 95) (nI 5) dX5_readsItem_95 (by decide) ?_
      refine z_aload_n X (pc := 96) 0 dX5_readsItem_96 rfl ?_
      refine z_iconst X (pc := 97) (nI 1) dX5_readsItem_97 (by decide) ?_
      refine z_bipush X (pc := 98) (nI 9) dX5_readsItem_98 (by decide) ?_
      refine z_bipush X (pc := 100) (nI 59) dX5_readsItem_100 (by decide) ?_
      refine zc_V (as := [.int (nI 1), .int (nI 9), .int (nI 59)]) X (pc := 102) (c_X5_numbern lq D t mq mT mD mS mP mI mE mH mX mR mO ty ev kn kp sg (nI 0) fs tx (p + 1) 1 9 59 (by omega) (by omega) htx (by decide) (by decide) (by decide) h2) tw_638 tw_641 tw_7 tw_640 tw_1027 0 5 rfl rfl [0, 1] rfl rfl dX5_readsItem_102 rfl zdX5_number ⟨rfl, rfl, Nat.le_of_ble_eq_true rfl, Nat.le_of_ble_eq_true rfl⟩ (Nat.le_of_ble_eq_true rfl) (Nat.zero_le _) (Nat.zero_le _) (fun v_27 w_28 hp_29 => ?_)
      obtain ⟨at2_30, rfl, rfl⟩ := hp_29
      refine ⟨rfl, ?_⟩
      refine z_eq (ws2 := [eX5 mq mT (nI ty) mD mS (nI ev) mP (nI kn) mI (nI kp) mE (nI sg) at2_30 mH mX mR mO fs, eI t mT 200 (nf tx), eI t mD 6 (nf d)]) (st2 := [.int (-1), .int (nI 5), .ref mD]) rfl rfl rfl ?_
      refine z_iast X (pc := 105) 2 5 (upd (nf d) 5 (-1)) [eX5 mq mT (nI ty) mD mS (nI ev) mP (nI kn) mI (nI kp) mE (nI sg) at2_30 mH mX mR mO fs, eI t mT 200 (nf tx), eI t mD 6 (upd (nf d) 5 (-1))] dX5_readsItem_105 rfl rfl (Nat.le_of_ble_eq_true rfl) (by decide) rfl rfl ?_
      refine z_aload_n X (pc := 106) 0 dX5_readsItem_106 rfl ?_
      refine z_get X (pc := 107) 0 2 (.ref mD) tu_5 tw_561 dX5_readsItem_107 rfl rfl (by decide) rfl rfl ?_
      refine z_iconst X (pc := 110) (nI 5) dX5_readsItem_110 (by decide) ?_
      refine z_iald X (pc := 111) 2 5 (-1) dX5_readsItem_111 rfl rfl (Nat.le_of_ble_eq_true rfl) (by decide) (by simp [upd]) ?_
      refine z_if_le X (pc := 112) 119 dX5_readsItem_112 (by decide) (fun c_112 => ?_) (fun c_112 => absurd c_112 (by decide))
      refine z_iconst X (pc := 119) (nI 0) dX5_readsItem_119 (by decide) ?_
      exact hRet.z dX5_readsItem_120 rfl ⟨at2_30, (upd (nf d) 5 (-1)), fun z => absurd z (by intro z; rcases z with ⟨q1, ⟨q2, q3, q4, q5⟩, q6, q7⟩ | ⟨q1, ⟨q2, q3, q4, q5⟩, q6, q7⟩ | ⟨q1, ⟨q2, q3⟩, q6⟩ | ⟨q1, ⟨q2, q3⟩, q6, q7⟩ <;> first | omega | exact h2 ⟨⟨q2, q3, Nat.zero_le _, q6⟩, ⟨q4, q5, Nat.zero_le _, q7⟩⟩ | exact h2 ⟨q2, q3, Nat.zero_le _, q6⟩ | exact h2 ⟨q2, q3, q6, q7⟩), some_zb_f (by intro z; rcases z with ⟨q1, ⟨q2, q3, q4, q5⟩, q6, q7⟩ | ⟨q1, ⟨q2, q3, q4, q5⟩, q6, q7⟩ | ⟨q1, ⟨q2, q3⟩, q6⟩ | ⟨q1, ⟨q2, q3⟩, q6, q7⟩ <;> first | omega | exact h2 ⟨⟨q2, q3, Nat.zero_le _, q6⟩, ⟨q4, q5, Nat.zero_le _, q7⟩⟩ | exact h2 ⟨q2, q3, Nat.zero_le _, q6⟩ | exact h2 ⟨q2, q3, q6, q7⟩), rfl⟩
  refine z_lookup X (pc := 1) (off := 120) 121 dX5_readsItem_1 (by decide) (by rw [nI_toInt (by omega)]; exact lk_none5 (by omega) (by omega) (by omega) (by omega)) (by decide) ?_
  refine z_iconst X (pc := 121) (nI 0) dX5_readsItem_121 (by decide) ?_
  exact hRet.z dX5_readsItem_122 rfl ⟨(nI (p + 1)), (nf d), fun z => absurd z (by intro z; rcases z with ⟨q1, q2⟩ | ⟨q1, q2⟩ | ⟨q1, q2⟩ | ⟨q1, q2⟩ <;> omega), some_zb_f (by intro z; rcases z with ⟨q1, q2⟩ | ⟨q1, q2⟩ | ⟨q1, q2⟩ | ⟨q1, q2⟩ <;> omega), rfl⟩

abbrev rm_X5_readsAll : Room := { frames := 5, cells := 0, slots := 0, locals := 111 }
set_option maxHeartbeats 4000000 in
set_option maxRecDepth 100000 in
theorem c_X5_readsAll (lq : Launch) (D : va_G) (t : zT) (mq mT mD mS mP mI mE mH mX mR mO ty ev kn kp sg : Nat) (at_ : Int32) (fs : Int64) (tx : Nat → Nat) (f : Nat → Int32) (hty9 : ty ≤ 200) (htx : ∀ j, tx j < 127) : Ct lq D t yX5_readsAll cX5_readsAll 2 (some .int) rm_X5_readsAll [.ref mq] [eX5 mq mT (nI ty) mD mS (nI ev) mP (nI kn) mI (nI kp) mE (nI sg) at_ mH mX mR mO fs, eI t mT 200 (nf tx), eI t mD 6 f] 0 0 (fun rv rw_ => ∃ (at2 : Int32) (D2 : Nat → Int32), ((pr tx ty).1 = none → D2 = nf (pr tx ty).2) ∧ rv = some (.int (flt (pr tx ty).1)) ∧ rw_ = [eX5 mq mT (nI ty) mD mS (nI ev) mP (nI kn) mI (nI kp) mE (nI sg) at2 mH mX mR mO fs, eI t mT 200 (nf tx), eI t mD 6 D2]) := by
  refine Ct.of (by decide) (Nat.le_of_ble_eq_true rfl) (fun k X hRet => ?_)
  have X : zX D t k cX5_readsAll 2 RX5 "readsAll" rm_X5_readsAll lq := X
  refine z_eq (lv2 := [(0, .ref mq)]) rfl rfl rfl ?_
  refine z_aload_n X (pc := 0) 0 dX5_readsAll_0 rfl ?_
  refine zc_V (as := []) X (pc := 1) (c_X5_begins lq D t mq mT mD mS mP mI mE mH mX mR mO ty ev kn kp sg at_ fs f ) tw_551 tw_554 tw_7 tw_553 tw_1022 0 5 rfl rfl [0, 2] rfl rfl dX5_readsAll_1 rfl zdX5_begins ⟨rfl, rfl, Nat.le_of_ble_eq_true rfl, Nat.le_of_ble_eq_true rfl⟩ (Nat.le_of_ble_eq_true rfl) (Nat.zero_le _) (Nat.zero_le _) (fun v_1 w_2 hp_3 => ?_)
  obtain ⟨rfl, rfl⟩ := hp_3
  refine ⟨rfl, ?_⟩
  refine z_eq (ws2 := [eX5 mq mT (nI ty) mD mS (nI ev) mP (nI kn) mI (nI kp) mE (nI sg) at_ mH mX mR mO fs, eI t mT 200 (nf tx), eI t mD 6 (nf d0)]) (st2 := []) rfl rfl rfl ?_
  refine z_aload_n X (pc := 4) 0 dX5_readsAll_4 rfl ?_
  refine z_iconst X (pc := 5) (nI 0) dX5_readsAll_5 (by decide) ?_
  refine z_put X (pc := 6) 0 11 [eX5 mq mT (nI ty) mD mS (nI ev) mP (nI kn) mI (nI kp) mE (nI sg) (nI 0) mH mX mR mO fs, eI t mT 200 (nf tx), eI t mD 6 (nf d0)] tu_5 tyX5_ok nmX5 tw_570 dX5_readsAll_6 rfl rfl (by decide) rfl rfl rfl rfl (Nat.le_of_ble_eq_true rfl) rfl ?_
  have loop_9 : ∀ (fuel_9 : Nat) (p : Nat) (d : Nat → Nat), ty < p + fuel_9 → (p ≤ ty) → (pr tx ty = prs (chf tx ty) ty (ty - p) p d) → Z D k (0, 0) [eX5 mq mT (nI ty) mD mS (nI ev) mP (nI kn) mI (nI kp) mE (nI sg) (nI p) mH mX mR mO fs, eI t mT 200 (nf tx), eI t mD 6 (nf d)] 9 [(0, .ref mq)] [] := by
    intro fuel_9
    induction fuel_9 with
    | zero =>
      intro p d hfuel_9 hp hpr
      exfalso; omega
    | succ fuel_9 ih_9 =>
      intro p d hfuel_9 hp hpr
      refine z_aload_n X (pc := 9) 0 dX5_readsAll_9 rfl ?_
      refine z_get X (pc := 10) 0 11 (.int (nI p)) tu_5 tw_570 dX5_readsAll_10 rfl rfl (by decide) rfl rfl ?_
      refine z_aload_n X (pc := 13) 0 dX5_readsAll_13 rfl ?_
      refine z_get X (pc := 14) 0 1 (.int (nI ty)) tu_5 tw_560 dX5_readsAll_14 rfl rfl (by decide) rfl rfl ?_
      refine z_icmp_geN X (pc := 17) 53 (by omega) (by omega) dX5_readsAll_17 (by decide) (fun c_17 => ?_) (fun c_17 => ?_)
      · skip
        refine z_bipush X (pc := 53) (-4) dX5_readsAll_53 (by decide) ?_
        exact hRet.i dX5_readsAll_55 ⟨nI p, nf d, fun _ => by rw [hpr, prs_end (by omega)], by rw [hpr, prs_end (by omega)]; rfl, rfl⟩
      · skip
        refine z_aload_n X (pc := 20) 0 dX5_readsAll_20 rfl ?_
        refine z_get X (pc := 21) 0 11 (.int (nI p)) tu_5 tw_570 dX5_readsAll_21 rfl rfl (by decide) rfl rfl ?_
        refine z_istore_n X (pc := 24) (i := 1) [(1, .int (nI p)), (0, .ref mq)] dX5_readsAll_24 rfl (by decide) rfl ?_
        refine z_aload_n X (pc := 25) 1 dX5_readsAll_25 rfl ?_
        refine z_dup X (pc := 26) dX5_readsAll_26 rfl ?_
        refine z_get X (pc := 27) 0 11 (.int (nI p)) tu_5 tw_570 dX5_readsAll_27 rfl rfl (by decide) rfl rfl ?_
        refine z_iconst X (pc := 30) (nI 1) dX5_readsAll_30 (by decide) ?_
        refine z_iadd X (pc := 31) (v := (nI (p + 1))) dX5_readsAll_31 (nI_add p 1) ?_
        refine z_put X (pc := 32) 0 11 [eX5 mq mT (nI ty) mD mS (nI ev) mP (nI kn) mI (nI kp) mE (nI sg) (nI (p + 1)) mH mX mR mO fs, eI t mT 200 (nf tx), eI t mD 6 (nf d)] tu_5 tyX5_ok nmX5 tw_570 dX5_readsAll_32 rfl rfl (by decide) rfl rfl rfl rfl (Nat.le_of_ble_eq_true rfl) rfl ?_
        refine z_aload_n X (pc := 35) 1 dX5_readsAll_35 rfl ?_
        refine z_aload_n X (pc := 36) 1 dX5_readsAll_36 rfl ?_
        refine z_get X (pc := 37) 0 0 (.ref mT) tu_5 tw_559 dX5_readsAll_37 rfl rfl (by decide) rfl rfl ?_
        refine z_iload_n X (pc := 40) 0 dX5_readsAll_40 rfl ?_
        refine z_iald X (pc := 41) 1 p (nI (chf tx ty p)) dX5_readsAll_41 rfl rfl (Nat.le_of_ble_eq_true rfl) (by omega) (by show nI _ = nI _; rw [chf, if_pos (by omega)]) ?_
        refine zc_V (as := [.int (nI (chf tx ty p))]) X (pc := 42) (c_X5_readsItem lq D t mq mT mD mS mP mI mE mH mX mR mO ty ev kn kp sg (nI 0) fs tx d p (by omega) (by omega) htx) tw_630 tw_633 tw_7 tw_632 tw_1025 0 5 rfl rfl [0, 1, 2] rfl rfl dX5_readsAll_42 rfl zdX5_readsItem ⟨rfl, rfl, Nat.le_of_ble_eq_true rfl, Nat.le_of_ble_eq_true rfl⟩ (Nat.le_of_ble_eq_true rfl) (Nat.zero_le _) (Nat.zero_le _) (fun v_4 w_5 hp_6 => ?_)
        obtain ⟨at2_7, D2_8, hf_9, rfl, rfl⟩ := hp_6
        refine ⟨rfl, ?_⟩
        refine z_eq (ws2 := [eX5 mq mT (nI ty) mD mS (nI ev) mP (nI kn) mI (nI kp) mE (nI sg) at2_7 mH mX mR mO fs, eI t mT 200 (nf tx), eI t mD 6 D2_8]) (st2 := [.int (zb (okI (chf tx ty) p))]) rfl rfl rfl ?_
        refine z_if_neB X (pc := 45) 50 dX5_readsAll_45 (by decide) (fun c_45 => ?_) (fun c_45 => ?_)
        · skip
          obtain ⟨rfl, rfl⟩ := hf_9 c_45
          have hnx := nxt_len c_45
          refine z_goto X (pc := 50) 9 dX5_readsAll_50 (by decide) ?_
          refine z_lv [1] (lv2 := [(0, .ref mq)]) rfl ?_
          exact ih_9 (nxt (chf tx ty) p) (dupd (chf tx ty) p d) (by omega) hnx.1 (by rw [hpr, show ty - p = (ty - p - 1) + 1 by omega, prs_s, if_pos (by omega), if_pos c_45]; exact prs_fuel (fun p z => by have := nxt_len z; omega) (by omega) (by omega))
        · skip
          refine z_iload_n X (pc := 48) 0 dX5_readsAll_48 rfl ?_
          exact hRet.i dX5_readsAll_49 ⟨at2_7, D2_8, fun z => absurd z (by rw [hpr, show ty - p = (ty - p - 1) + 1 by omega, prs_s, if_pos (by omega), if_neg c_45]; exact fun z => by cases z), by rw [hpr, show ty - p = (ty - p - 1) + 1 by omega, prs_s, if_pos (by omega), if_neg c_45]; rfl, rfl⟩
  exact loop_9 (ty + 1) 0 d0 (by omega) (by omega) (prs_fuel (fun p z => by have := nxt_len z; omega) (by omega) (by omega))

abbrev rm_X5_fault : Room := { frames := 6, cells := 0, slots := 0, locals := 132 }
set_option maxHeartbeats 4000000 in
set_option maxRecDepth 100000 in
theorem c_X5_fault (lq : Launch) (D : va_G) (t : zT) (mq mT mD mS mP mI mE mH mX mR mO ty ev kn kp sg : Nat) (at_ : Int32) (fs : Int64) (tx : Nat → Nat) (f : Nat → Int32) (hty9 : ty ≤ 200) (htx : ∀ j, tx j < 127) : Ct lq D t yX5_fault cX5_fault 1 (some .int) rm_X5_fault [.ref mq] [eX5 mq mT (nI ty) mD mS (nI ev) mP (nI kn) mI (nI kp) mE (nI sg) at_ mH mX mR mO fs, eI t mT 200 (nf tx), eI t mD 6 f] 0 0 (fun rv rw_ => ∃ (at2 : Int32) (D2 : Nat → Int32), rv = some (.int (flt (pr tx ty).1)) ∧ rw_ = [eX5 mq mT (nI ty) mD mS (nI ev) mP (nI kn) mI (nI kp) mE (nI sg) at2 mH mX mR mO fs, eI t mT 200 (nf tx), eI t mD 6 D2]) := by
  refine Ct.of (by decide) (Nat.le_of_ble_eq_true rfl) (fun k X hRet => ?_)
  have X : zX D t k cX5_fault 1 RX5 "fault" rm_X5_fault lq := X
  refine z_eq (lv2 := [(0, .ref mq)]) rfl rfl rfl ?_
  refine z_aload_n X (pc := 0) 0 dX5_fault_0 rfl ?_
  refine zc_V (as := []) X (pc := 1) (c_X5_readsAll lq D t mq mT mD mS mP mI mE mH mX mR mO ty ev kn kp sg at_ fs tx f (by omega) htx) tw_626 tw_629 tw_7 tw_628 tw_1024 0 5 rfl rfl [0, 1, 2] rfl rfl dX5_fault_1 rfl zdX5_readsAll ⟨rfl, rfl, Nat.le_of_ble_eq_true rfl, Nat.le_of_ble_eq_true rfl⟩ (Nat.le_of_ble_eq_true rfl) (Nat.zero_le _) (Nat.zero_le _) (fun v_1 w_2 hp_3 => ?_)
  obtain ⟨at2_4, D2_5, hf_6, rfl, rfl⟩ := hp_3
  refine ⟨rfl, ?_⟩
  refine z_eq (ws2 := [eX5 mq mT (nI ty) mD mS (nI ev) mP (nI kn) mI (nI kp) mE (nI sg) at2_4 mH mX mR mO fs, eI t mT 200 (nf tx), eI t mD 6 D2_5]) (st2 := [.int (flt (pr tx ty).1)]) rfl rfl rfl ?_
  exact hRet.i dX5_fault_4 ⟨at2_4, D2_5, rfl, rfl⟩

abbrev rm_X5_lays : Room := { frames := 0, cells := 0, slots := 0, locals := 0 }
set_option maxHeartbeats 4000000 in
set_option maxRecDepth 100000 in
theorem c_X5_lays (lq : Launch) (D : va_G) (t : zT) (mq mT mD mS mP mI mE mH mX mR mO ty ev kn kp sg : Nat) (at_ : Int32) (fs : Int64) (d s : Nat → Nat)  : Ct lq D t yX5_lays cX5_lays 2 none rm_X5_lays [.ref mq] [eX5 mq mT (nI ty) mD mS (nI ev) mP (nI kn) mI (nI kp) mE (nI sg) at_ mH mX mR mO fs, eI t mD 6 (nf d), eI t mS 5 (nf s)] 0 0 (fun rv rw_ => rv = none ∧ rw_ = [eX5 mq mT (nI ty) mD mS (nI (d 5)) mP (nI 0) mI (nI 0) mE (nI 0) at_ mH mX mR mO fs, eI t mD 6 (nf d), eI t mS 5 (nf d)]) := by
  refine Ct.of (by decide) (Nat.le_of_ble_eq_true rfl) (fun k X hRet => ?_)
  have X : zX D t k cX5_lays 2 RX5 "lays" rm_X5_lays lq := X
  refine z_eq (lv2 := [(0, .ref mq)]) rfl rfl rfl ?_
  refine z_iconst X (pc := 0) (nI 0) dX5_lays_0 (by decide) ?_
  refine z_istore_n X (pc := 1) (i := 1) [(1, .int (nI 0)), (0, .ref mq)] dX5_lays_1 rfl (by decide) rfl ?_
  refine z_iload_n X (pc := 2) 0 dX5_lays_2 rfl ?_
  refine z_iconst X (pc := 3) (nI 5) dX5_lays_3 (by decide) ?_
  refine z_icmp_geN X (pc := 4) 25 (by omega) (by omega) dX5_lays_4 (by decide) (fun c_4 => absurd c_4 (by decide)) (fun c_4 => ?_)
  refine z_aload_n X (pc := 7) 1 dX5_lays_7 rfl ?_
  refine z_get X (pc := 8) 0 3 (.ref mS) tu_5 tw_562 dX5_lays_8 rfl rfl (by decide) rfl rfl ?_
  refine z_iload_n X (pc := 11) 0 dX5_lays_11 rfl ?_
  refine z_aload_n X (pc := 12) 1 dX5_lays_12 rfl ?_
  refine z_get X (pc := 13) 0 2 (.ref mD) tu_5 tw_561 dX5_lays_13 rfl rfl (by decide) rfl rfl ?_
  refine z_iload_n X (pc := 16) 0 dX5_lays_16 rfl ?_
  refine z_iald X (pc := 17) 1 0 (nI (d 0)) dX5_lays_17 rfl rfl (Nat.le_of_ble_eq_true rfl) (by decide) rfl ?_
  refine z_iast X (pc := 18) 2 0 (nf (vup s 0 (d 0))) [eX5 mq mT (nI ty) mD mS (nI ev) mP (nI kn) mI (nI kp) mE (nI sg) at_ mH mX mR mO fs, eI t mD 6 (nf d), eI t mS 5 (nf (vup s 0 (d 0)))] dX5_lays_18 rfl rfl (Nat.le_of_ble_eq_true rfl) (by decide) (upd_nf _ _ _) rfl ?_
  refine z_iinc X (pc := 19) (i := 1) 0 (nI 1) [(1, .int (nI 1)), (0, .ref mq)] dX5_lays_19 rfl (nI_incc 0 1) (by decide) rfl ?_
  refine z_goto X (pc := 22) 2 dX5_lays_22 (by decide) ?_
  refine z_iload_n X (pc := 2) 0 dX5_lays_2 rfl ?_
  refine z_iconst X (pc := 3) (nI 5) dX5_lays_3 (by decide) ?_
  refine z_icmp_geN X (pc := 4) 25 (by omega) (by omega) dX5_lays_4 (by decide) (fun c_4 => absurd c_4 (by decide)) (fun c_4 => ?_)
  refine z_aload_n X (pc := 7) 1 dX5_lays_7 rfl ?_
  refine z_get X (pc := 8) 0 3 (.ref mS) tu_5 tw_562 dX5_lays_8 rfl rfl (by decide) rfl rfl ?_
  refine z_iload_n X (pc := 11) 0 dX5_lays_11 rfl ?_
  refine z_aload_n X (pc := 12) 1 dX5_lays_12 rfl ?_
  refine z_get X (pc := 13) 0 2 (.ref mD) tu_5 tw_561 dX5_lays_13 rfl rfl (by decide) rfl rfl ?_
  refine z_iload_n X (pc := 16) 0 dX5_lays_16 rfl ?_
  refine z_iald X (pc := 17) 1 1 (nI (d 1)) dX5_lays_17 rfl rfl (Nat.le_of_ble_eq_true rfl) (by decide) rfl ?_
  refine z_iast X (pc := 18) 2 1 (nf (vup (vup s 0 (d 0)) 1 (d 1))) [eX5 mq mT (nI ty) mD mS (nI ev) mP (nI kn) mI (nI kp) mE (nI sg) at_ mH mX mR mO fs, eI t mD 6 (nf d), eI t mS 5 (nf (vup (vup s 0 (d 0)) 1 (d 1)))] dX5_lays_18 rfl rfl (Nat.le_of_ble_eq_true rfl) (by decide) (upd_nf _ _ _) rfl ?_
  refine z_iinc X (pc := 19) (i := 1) 0 (nI 2) [(1, .int (nI 2)), (0, .ref mq)] dX5_lays_19 rfl (nI_incc 1 1) (by decide) rfl ?_
  refine z_goto X (pc := 22) 2 dX5_lays_22 (by decide) ?_
  refine z_iload_n X (pc := 2) 0 dX5_lays_2 rfl ?_
  refine z_iconst X (pc := 3) (nI 5) dX5_lays_3 (by decide) ?_
  refine z_icmp_geN X (pc := 4) 25 (by omega) (by omega) dX5_lays_4 (by decide) (fun c_4 => absurd c_4 (by decide)) (fun c_4 => ?_)
  refine z_aload_n X (pc := 7) 1 dX5_lays_7 rfl ?_
  refine z_get X (pc := 8) 0 3 (.ref mS) tu_5 tw_562 dX5_lays_8 rfl rfl (by decide) rfl rfl ?_
  refine z_iload_n X (pc := 11) 0 dX5_lays_11 rfl ?_
  refine z_aload_n X (pc := 12) 1 dX5_lays_12 rfl ?_
  refine z_get X (pc := 13) 0 2 (.ref mD) tu_5 tw_561 dX5_lays_13 rfl rfl (by decide) rfl rfl ?_
  refine z_iload_n X (pc := 16) 0 dX5_lays_16 rfl ?_
  refine z_iald X (pc := 17) 1 2 (nI (d 2)) dX5_lays_17 rfl rfl (Nat.le_of_ble_eq_true rfl) (by decide) rfl ?_
  refine z_iast X (pc := 18) 2 2 (nf (vup (vup (vup s 0 (d 0)) 1 (d 1)) 2 (d 2))) [eX5 mq mT (nI ty) mD mS (nI ev) mP (nI kn) mI (nI kp) mE (nI sg) at_ mH mX mR mO fs, eI t mD 6 (nf d), eI t mS 5 (nf (vup (vup (vup s 0 (d 0)) 1 (d 1)) 2 (d 2)))] dX5_lays_18 rfl rfl (Nat.le_of_ble_eq_true rfl) (by decide) (upd_nf _ _ _) rfl ?_
  refine z_iinc X (pc := 19) (i := 1) 0 (nI 3) [(1, .int (nI 3)), (0, .ref mq)] dX5_lays_19 rfl (nI_incc 2 1) (by decide) rfl ?_
  refine z_goto X (pc := 22) 2 dX5_lays_22 (by decide) ?_
  refine z_iload_n X (pc := 2) 0 dX5_lays_2 rfl ?_
  refine z_iconst X (pc := 3) (nI 5) dX5_lays_3 (by decide) ?_
  refine z_icmp_geN X (pc := 4) 25 (by omega) (by omega) dX5_lays_4 (by decide) (fun c_4 => absurd c_4 (by decide)) (fun c_4 => ?_)
  refine z_aload_n X (pc := 7) 1 dX5_lays_7 rfl ?_
  refine z_get X (pc := 8) 0 3 (.ref mS) tu_5 tw_562 dX5_lays_8 rfl rfl (by decide) rfl rfl ?_
  refine z_iload_n X (pc := 11) 0 dX5_lays_11 rfl ?_
  refine z_aload_n X (pc := 12) 1 dX5_lays_12 rfl ?_
  refine z_get X (pc := 13) 0 2 (.ref mD) tu_5 tw_561 dX5_lays_13 rfl rfl (by decide) rfl rfl ?_
  refine z_iload_n X (pc := 16) 0 dX5_lays_16 rfl ?_
  refine z_iald X (pc := 17) 1 3 (nI (d 3)) dX5_lays_17 rfl rfl (Nat.le_of_ble_eq_true rfl) (by decide) rfl ?_
  refine z_iast X (pc := 18) 2 3 (nf (vup (vup (vup (vup s 0 (d 0)) 1 (d 1)) 2 (d 2)) 3 (d 3))) [eX5 mq mT (nI ty) mD mS (nI ev) mP (nI kn) mI (nI kp) mE (nI sg) at_ mH mX mR mO fs, eI t mD 6 (nf d), eI t mS 5 (nf (vup (vup (vup (vup s 0 (d 0)) 1 (d 1)) 2 (d 2)) 3 (d 3)))] dX5_lays_18 rfl rfl (Nat.le_of_ble_eq_true rfl) (by decide) (upd_nf _ _ _) rfl ?_
  refine z_iinc X (pc := 19) (i := 1) 0 (nI 4) [(1, .int (nI 4)), (0, .ref mq)] dX5_lays_19 rfl (nI_incc 3 1) (by decide) rfl ?_
  refine z_goto X (pc := 22) 2 dX5_lays_22 (by decide) ?_
  refine z_iload_n X (pc := 2) 0 dX5_lays_2 rfl ?_
  refine z_iconst X (pc := 3) (nI 5) dX5_lays_3 (by decide) ?_
  refine z_icmp_geN X (pc := 4) 25 (by omega) (by omega) dX5_lays_4 (by decide) (fun c_4 => absurd c_4 (by decide)) (fun c_4 => ?_)
  refine z_aload_n X (pc := 7) 1 dX5_lays_7 rfl ?_
  refine z_get X (pc := 8) 0 3 (.ref mS) tu_5 tw_562 dX5_lays_8 rfl rfl (by decide) rfl rfl ?_
  refine z_iload_n X (pc := 11) 0 dX5_lays_11 rfl ?_
  refine z_aload_n X (pc := 12) 1 dX5_lays_12 rfl ?_
  refine z_get X (pc := 13) 0 2 (.ref mD) tu_5 tw_561 dX5_lays_13 rfl rfl (by decide) rfl rfl ?_
  refine z_iload_n X (pc := 16) 0 dX5_lays_16 rfl ?_
  refine z_iald X (pc := 17) 1 4 (nI (d 4)) dX5_lays_17 rfl rfl (Nat.le_of_ble_eq_true rfl) (by decide) rfl ?_
  refine z_iast X (pc := 18) 2 4 (nf (vup (vup (vup (vup (vup s 0 (d 0)) 1 (d 1)) 2 (d 2)) 3 (d 3)) 4 (d 4))) [eX5 mq mT (nI ty) mD mS (nI ev) mP (nI kn) mI (nI kp) mE (nI sg) at_ mH mX mR mO fs, eI t mD 6 (nf d), eI t mS 5 (nf (vup (vup (vup (vup (vup s 0 (d 0)) 1 (d 1)) 2 (d 2)) 3 (d 3)) 4 (d 4)))] dX5_lays_18 rfl rfl (Nat.le_of_ble_eq_true rfl) (by decide) (upd_nf _ _ _) rfl ?_
  refine z_iinc X (pc := 19) (i := 1) 0 (nI 5) [(1, .int (nI 5)), (0, .ref mq)] dX5_lays_19 rfl (nI_incc 4 1) (by decide) rfl ?_
  refine z_goto X (pc := 22) 2 dX5_lays_22 (by decide) ?_
  refine z_iload_n X (pc := 2) 0 dX5_lays_2 rfl ?_
  refine z_iconst X (pc := 3) (nI 5) dX5_lays_3 (by decide) ?_
  refine z_icmp_geN X (pc := 4) 25 (by omega) (by omega) dX5_lays_4 (by decide) (fun c_4 => ?_) (fun c_4 => absurd c_4 (by decide))
  refine z_irow 2 (nf d) [eX5 mq mT (nI ty) mD mS (nI ev) mP (nI kn) mI (nI kp) mE (nI sg) at_ mH mX mR mO fs, eI t mD 6 (nf d), eI t mS 5 (nf d)] rfl (fun j hj => by rcases (show j = 0 ∨ j = 1 ∨ j = 2 ∨ j = 3 ∨ j = 4 by omega) with rfl | rfl | rfl | rfl | rfl <;> rfl) rfl ?_
  refine z_aload_n X (pc := 25) 1 dX5_lays_25 rfl ?_
  refine z_aload_n X (pc := 26) 1 dX5_lays_26 rfl ?_
  refine z_get X (pc := 27) 0 2 (.ref mD) tu_5 tw_561 dX5_lays_27 rfl rfl (by decide) rfl rfl ?_
  refine z_iconst X (pc := 30) (nI 5) dX5_lays_30 (by decide) ?_
  refine z_iald X (pc := 31) 1 5 (nI (d 5)) dX5_lays_31 rfl rfl (Nat.le_of_ble_eq_true rfl) (by decide) rfl ?_
  refine z_put X (pc := 32) 0 4 [eX5 mq mT (nI ty) mD mS (nI (d 5)) mP (nI kn) mI (nI kp) mE (nI sg) at_ mH mX mR mO fs, eI t mD 6 (nf d), eI t mS 5 (nf d)] tu_5 tyX5_ok nmX5 tw_563 dX5_lays_32 rfl rfl (by decide) rfl rfl rfl rfl (Nat.le_of_ble_eq_true rfl) rfl ?_
  refine z_aload_n X (pc := 35) 1 dX5_lays_35 rfl ?_
  refine z_iconst X (pc := 36) (nI 0) dX5_lays_36 (by decide) ?_
  refine z_put X (pc := 37) 0 6 [eX5 mq mT (nI ty) mD mS (nI (d 5)) mP (nI 0) mI (nI kp) mE (nI sg) at_ mH mX mR mO fs, eI t mD 6 (nf d), eI t mS 5 (nf d)] tu_5 tyX5_ok nmX5 tw_565 dX5_lays_37 rfl rfl (by decide) rfl rfl rfl rfl (Nat.le_of_ble_eq_true rfl) rfl ?_
  refine z_aload_n X (pc := 40) 1 dX5_lays_40 rfl ?_
  refine z_iconst X (pc := 41) (nI 0) dX5_lays_41 (by decide) ?_
  refine z_put X (pc := 42) 0 8 [eX5 mq mT (nI ty) mD mS (nI (d 5)) mP (nI 0) mI (nI 0) mE (nI sg) at_ mH mX mR mO fs, eI t mD 6 (nf d), eI t mS 5 (nf d)] tu_5 tyX5_ok nmX5 tw_567 dX5_lays_42 rfl rfl (by decide) rfl rfl rfl rfl (Nat.le_of_ble_eq_true rfl) rfl ?_
  refine z_aload_n X (pc := 45) 1 dX5_lays_45 rfl ?_
  refine z_iconst X (pc := 46) (nI 0) dX5_lays_46 (by decide) ?_
  refine z_put X (pc := 47) 0 10 [eX5 mq mT (nI ty) mD mS (nI (d 5)) mP (nI 0) mI (nI 0) mE (nI 0) at_ mH mX mR mO fs, eI t mD 6 (nf d), eI t mS 5 (nf d)] tu_5 tyX5_ok nmX5 tw_569 dX5_lays_47 rfl rfl (by decide) rfl rfl rfl rfl (Nat.le_of_ble_eq_true rfl) rfl ?_
  exact hRet.v dX5_lays_50 ⟨rfl, rfl⟩

abbrev rm_X5_lay : Room := { frames := 6, cells := 0, slots := 0, locals := 132 }
set_option maxHeartbeats 4000000 in
set_option maxRecDepth 100000 in
theorem c_X5_lay (lq : Launch) (D : va_G) (t : zT) (mq mT mD mS mP mI mE mH mX mR mO ty ev kn kp sg : Nat) (at_ : Int32) (fs : Int64) (tx : Nat → Nat) (f : Nat → Int32) (s : Nat → Nat) (hty9 : ty ≤ 200) (htx : ∀ j, tx j < 127) : Ct lq D t yX5_lay cX5_lay 1 (some .int) rm_X5_lay [.ref mq] [eX5 mq mT (nI ty) mD mS (nI ev) mP (nI kn) mI (nI kp) mE (nI sg) at_ mH mX mR mO fs, eI t mT 200 (nf tx), eI t mD 6 f, eI t mS 5 (nf s)] 0 0 (fun rv rw_ => ∃ (at2 : Int32) (D2 : Nat → Int32), rv = some (.int (an_lay (pr tx ty))) ∧ rw_ = [eX5 mq mT (nI ty) mD mS (nI (nx_n (pr tx ty) ((pr tx ty).2 5) ev)) mP (nI (nx_n (pr tx ty) 0 kn)) mI (nI (nx_n (pr tx ty) 0 kp)) mE (nI (nx_n (pr tx ty) 0 sg)) at2 mH mX mR mO fs, eI t mT 200 (nf tx), eI t mD 6 D2, eI t mS 5 (nf (nx_if (pr tx ty) s))]) := by
  refine Ct.of (by decide) (Nat.le_of_ble_eq_true rfl) (fun k X hRet => ?_)
  have X : zX D t k cX5_lay 1 RX5 "lay" rm_X5_lay lq := X
  refine z_eq (lv2 := [(0, .ref mq)]) rfl rfl rfl ?_
  refine z_aload_n X (pc := 0) 0 dX5_lay_0 rfl ?_
  refine zc_V (as := []) X (pc := 1) (c_X5_readsAll lq D t mq mT mD mS mP mI mE mH mX mR mO ty ev kn kp sg at_ fs tx f (by omega) htx) tw_626 tw_629 tw_7 tw_628 tw_1024 0 5 rfl rfl [0, 1, 2] rfl rfl dX5_lay_1 rfl zdX5_readsAll ⟨rfl, rfl, Nat.le_of_ble_eq_true rfl, Nat.le_of_ble_eq_true rfl⟩ (Nat.le_of_ble_eq_true rfl) (Nat.zero_le _) (Nat.zero_le _) (fun v_1 w_2 hp_3 => ?_)
  obtain ⟨at2_4, D2_5, hf_6, rfl, rfl⟩ := hp_3
  refine ⟨rfl, ?_⟩
  refine z_eq (ws2 := [eX5 mq mT (nI ty) mD mS (nI ev) mP (nI kn) mI (nI kp) mE (nI sg) at2_4 mH mX mR mO fs, eI t mT 200 (nf tx), eI t mD 6 D2_5, eI t mS 5 (nf s)]) (st2 := [.int (flt (pr tx ty).1)]) rfl rfl rfl ?_
  refine z_bipush X (pc := 4) (-4) dX5_lay_4 (by decide) ?_
  refine z_icmp_eq X (pc := 6) 12 dX5_lay_6 (by decide) (fun c_6 => ?_) (fun c_6 => ?_)
  · skip
    have hno : (pr tx ty).1 = none := by
      cases hq : (pr tx ty).1 with
      | none => rfl
      | some p =>
        rw [hq] at c_6
        exact absurd c_6 (flt_ne p (prs_lt hq) hty9)
    obtain rfl : D2_5 = nf (pr tx ty).2 := hf_6 hno
    refine z_aload_n X (pc := 12) 0 dX5_lay_12 rfl ?_
    refine zc_V (as := []) X (pc := 13) (c_X5_lays lq D t mq mT mD mS mP mI mE mH mX mR mO ty ev kn kp sg at2_4 fs ((pr tx ty).2) s ) tw_555 tw_558 tw_7 tw_557 tw_1023 0 5 rfl rfl [0, 2, 3] rfl rfl dX5_lay_13 rfl zdX5_lays ⟨rfl, rfl, Nat.le_of_ble_eq_true rfl, Nat.le_of_ble_eq_true rfl⟩ (Nat.le_of_ble_eq_true rfl) (Nat.zero_le _) (Nat.zero_le _) (fun v_7 w_8 hp_9 => ?_)
    obtain ⟨rfl, rfl⟩ := hp_9
    refine ⟨rfl, ?_⟩
    refine z_eq (ws2 := [eX5 mq mT (nI ty) mD mS (nI (((pr tx ty).2) 5)) mP (nI 0) mI (nI 0) mE (nI 0) at2_4 mH mX mR mO fs, eI t mT 200 (nf tx), eI t mD 6 (nf ((pr tx ty).2)), eI t mS 5 (nf ((pr tx ty).2))]) (st2 := []) rfl rfl rfl ?_
    refine z_aload_n X (pc := 16) 0 dX5_lay_16 rfl ?_
    refine z_get X (pc := 17) 0 3 (.ref mS) tu_5 tw_562 dX5_lay_17 rfl rfl (by decide) rfl rfl ?_
    refine z_iconst X (pc := 20) (nI 0) dX5_lay_20 (by decide) ?_
    refine z_iald X (pc := 21) 3 0 (nI (((pr tx ty).2) 0)) dX5_lay_21 rfl rfl (Nat.le_of_ble_eq_true rfl) (by decide) rfl ?_
    refine z_aload_n X (pc := 22) 0 dX5_lay_22 rfl ?_
    refine z_get X (pc := 23) 0 3 (.ref mS) tu_5 tw_562 dX5_lay_23 rfl rfl (by decide) rfl rfl ?_
    refine z_iconst X (pc := 26) (nI 1) dX5_lay_26 (by decide) ?_
    refine z_iald X (pc := 27) 3 1 (nI (((pr tx ty).2) 1)) dX5_lay_27 rfl rfl (Nat.le_of_ble_eq_true rfl) (by decide) rfl ?_
    refine z_iadd X (pc := 28) (v := (nI (((pr tx ty).2) 0 + (((pr tx ty).2) 1)))) dX5_lay_28 (nI_add (((pr tx ty).2) 0) (((pr tx ty).2) 1)) ?_
    exact hRet.i dX5_lay_29 ⟨at2_4, (nf ((pr tx ty).2)), by rw [an_lay, hno], by simp only [nx_if, nx_n, hno]⟩
  · skip
    obtain ⟨q9, hq9⟩ : ∃ q, (pr tx ty).1 = some q := by
      cases hq : (pr tx ty).1 with
      | none => rw [hq] at c_6; exact absurd rfl c_6
      | some p => exact ⟨p, rfl⟩
    refine z_bipush X (pc := 9) (-2) dX5_lay_9 (by decide) ?_
    exact hRet.i dX5_lay_11 ⟨at2_4, D2_5, by rw [an_lay, hq9], by simp only [nx_if, nx_n, hq9]⟩
