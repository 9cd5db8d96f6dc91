/-! PART 15: Text, second half: readTwo, what is told, readItem, firstFault, append -/
theorem prs_end {c : Nat → Nat} {len p : Nat} {d : Nat → Nat} (h : len ≤ p) : ∀ f : Nat, prs c len f p d = (none, d)
  | 0 => prs_z _ _ _ _
  | f + 1 => by rw [prs_s, if_neg (by omega)]
theorem vnar_char {q : Nat} (h : q < 65536) : vp_nar .char (nI q) = nI q := by
  unfold vp_nar
  rw [(pk_charN h).1]
theorem i2c_nI {q : Nat} (h : q < 65536) : ((nI q).toUInt32 % 65536).toInt32 = nI q := by
  rw [pk_char, pk_tn (by omega), Nat.mod_eq_of_lt h]
abbrev rm_X2_readTwoy : Room := { frames := 3, cells := 0, slots := 0, locals := 63 }
set_option maxHeartbeats 4000000 in
set_option maxRecDepth 100000 in
theorem c_X2_readTwoy (lq : Launch) (D : va_G) (t : zT) (h0 hl ht len pl : Nat) (fi se ev : Int32) (tx : Nat → Nat) (hlen : len ≤ 200) (hpl : pl < 1000) (htx : ∀ j, tx j < 127) (hpl2 : pl < 800) (hd : t2 (chf tx len) pl) : Ct lq D t yX2_readTwo cX2_readTwo 1 (some .boolean) rm_X2_readTwoy [.ref h0] [eX2 h0 hl (nI len) (nI pl) fi se ht ev, eC t hl 200 (nf tx)] 0 0 (fun rv rw_ => rv = some (.int (nI 1)) ∧ rw_ = [eX2 h0 hl (nI len) (nI (e2 (chf tx len) pl)) (nI (nvl (chf tx len) pl)) (nI (nvl (chf tx len) (e1 (chf tx len) pl))) ht ev, eC t hl 200 (nf tx)]) := by
  refine Ct.of (by decide) (Nat.le_of_ble_eq_true rfl) (fun k X hR => ?_)
  have X : zX D t k cX2_readTwo 1 RX2 "readTwo" rm_X2_readTwoy lq := X
  refine z_eq (lv2 := [(0, .ref h0)]) rfl rfl rfl ?_
  have hn1 := nln_le (chf tx len) pl
  have hnv := nvl_le hd.1
  have hnv2 := nvl_le hd.2.2.1
  unfold e1 at hnv2
  refine z_aload_n X (pc := 0) 0 dX2_readTwo_0 rfl ?_
  refine z_aload_n X (pc := 1) 0 dX2_readTwo_1 rfl ?_
  refine zc_V (as := []) X (pc := 2) (c_X2_readNumbery lq D t h0 hl ht len pl fi se ev tx (by omega) (by omega) htx (by omega) hd.1) tw_222 tw_225 tw_2 tw_224 tw_1003 0 2 rfl rfl [0, 1] rfl rfl dX2_readTwo_2 rfl zdX2_readNumber ⟨rfl, rfl, Nat.le_of_ble_eq_true rfl, Nat.le_of_ble_eq_true rfl⟩ (Nat.le_of_ble_eq_true rfl) (Nat.zero_le _) (Nat.zero_le _) (fun v_1 w_2 hp_3 => ?_)
  obtain ⟨rfl, rfl⟩ := hp_3
  refine ⟨rfl, ?_⟩
  refine z_eq (ws2 := [eX2 h0 hl (nI len) (nI (pl + nln (chf tx len) pl)) fi se ht ev, eC t hl 200 (nf tx)]) (st2 := [.int (nI (nvl (chf tx len) pl)), .ref h0]) rfl rfl rfl ?_
  refine z_put X (pc := 5) 0 3 [eX2 h0 hl (nI len) (nI (pl + nln (chf tx len) pl)) (nI (nvl (chf tx len) pl)) se ht ev, eC t hl 200 (nf tx)] tu_2 tyX2_ok nmX2 tw_59 dX2_readTwo_5 rfl rfl (by decide) rfl rfl rfl rfl (Nat.le_of_ble_eq_true rfl) rfl ?_
  refine z_aload_n X (pc := 8) 0 dX2_readTwo_8 rfl ?_
  refine z_get X (pc := 9) 0 3 (.int (nI (nvl (chf tx len) pl))) tu_2 tw_59 dX2_readTwo_9 rfl rfl (by decide) rfl rfl ?_
  refine z_if_ltN X (pc := 12) 24 (by omega) dX2_readTwo_12 (by decide) ?_
  refine z_aload_n X (pc := 15) 0 dX2_readTwo_15 rfl ?_
  refine z_bipush X (pc := 16) (nI 44) dX2_readTwo_16 (by decide) ?_
  refine zc_V (as := [.int (nI 44)]) X (pc := 18) (c_X2_readSigny lq D t h0 hl ht len (pl + nln (chf tx len) pl) (nI (nvl (chf tx len) pl)) se ev tx 44 (by omega) (by omega) htx (by decide) hd.2.1) tw_230 tw_233 tw_2 tw_232 tw_1005 0 2 rfl rfl [0, 1] rfl rfl dX2_readTwo_18 rfl zdX2_readSign ⟨rfl, rfl, Nat.le_of_ble_eq_true rfl, Nat.le_of_ble_eq_true rfl⟩ (Nat.le_of_ble_eq_true rfl) (Nat.zero_le _) (Nat.zero_le _) (fun v_4 w_5 hp_6 => ?_)
  obtain ⟨rfl, rfl⟩ := hp_6
  refine ⟨rfl, ?_⟩
  refine z_eq (ws2 := [eX2 h0 hl (nI len) (nI ((pl + nln (chf tx len) pl) + 1)) (nI (nvl (chf tx len) pl)) se ht ev, eC t hl 200 (nf tx)]) (st2 := [.int (nI 1)]) rfl rfl rfl ?_
  refine z_if_neN X (pc := 21) 26 (by omega) dX2_readTwo_21 (by decide) (fun c_21 => ?_) (fun c_21 => absurd c_21 (by decide))
  refine z_aload_n X (pc := 26) 0 dX2_readTwo_26 rfl ?_
  refine z_aload_n X (pc := 27) 0 dX2_readTwo_27 rfl ?_
  refine zc_V (as := []) X (pc := 28) (c_X2_readNumbery lq D t h0 hl ht len ((pl + nln (chf tx len) pl) + 1) (nI (nvl (chf tx len) pl)) se ev tx (by omega) (by omega) htx (by omega) hd.2.2.1) tw_222 tw_225 tw_2 tw_224 tw_1003 0 2 rfl rfl [0, 1] rfl rfl dX2_readTwo_28 rfl zdX2_readNumber ⟨rfl, rfl, Nat.le_of_ble_eq_true rfl, Nat.le_of_ble_eq_true rfl⟩ (Nat.le_of_ble_eq_true rfl) (Nat.zero_le _) (Nat.zero_le _) (fun v_7 w_8 hp_9 => ?_)
  obtain ⟨rfl, rfl⟩ := hp_9
  refine ⟨rfl, ?_⟩
  refine z_eq (ws2 := [eX2 h0 hl (nI len) (nI (((pl + nln (chf tx len) pl) + 1) + nln (chf tx len) ((pl + nln (chf tx len) pl) + 1))) (nI (nvl (chf tx len) pl)) se ht ev, eC t hl 200 (nf tx)]) (st2 := [.int (nI (nvl (chf tx len) ((pl + nln (chf tx len) pl) + 1))), .ref h0]) rfl rfl rfl ?_
  refine z_put X (pc := 31) 0 4 [eX2 h0 hl (nI len) (nI (((pl + nln (chf tx len) pl) + 1) + nln (chf tx len) ((pl + nln (chf tx len) pl) + 1))) (nI (nvl (chf tx len) pl)) (nI (nvl (chf tx len) ((pl + nln (chf tx len) pl) + 1))) ht ev, eC t hl 200 (nf tx)] tu_2 tyX2_ok nmX2 tw_60 dX2_readTwo_31 rfl rfl (by decide) rfl rfl rfl rfl (Nat.le_of_ble_eq_true rfl) rfl ?_
  refine z_aload_n X (pc := 34) 0 dX2_readTwo_34 rfl ?_
  refine z_get X (pc := 35) 0 4 (.int (nI (nvl (chf tx len) ((pl + nln (chf tx len) pl) + 1)))) tu_2 tw_60 dX2_readTwo_35 rfl rfl (by decide) rfl rfl ?_
  refine z_if_ltN X (pc := 38) 54 (by omega) dX2_readTwo_38 (by decide) ?_
  refine z_aload_n X (pc := 41) 0 dX2_readTwo_41 rfl ?_
  refine z_bipush X (pc := 42) (nI 59) dX2_readTwo_42 (by decide) ?_
  refine zc_V (as := [.int (nI 59)]) X (pc := 44) (c_X2_readSigny lq D t h0 hl ht len (((pl + nln (chf tx len) pl) + 1) + nln (chf tx len) ((pl + nln (chf tx len) pl) + 1)) (nI (nvl (chf tx len) pl)) (nI (nvl (chf tx len) ((pl + nln (chf tx len) pl) + 1))) ev tx 59 (by omega) (by have := nln_le (chf tx len) (pl + nln (chf tx len) pl + 1); omega) htx (by decide) hd.2.2.2) tw_230 tw_233 tw_2 tw_232 tw_1005 0 2 rfl rfl [0, 1] rfl rfl dX2_readTwo_44 rfl zdX2_readSign ⟨rfl, rfl, Nat.le_of_ble_eq_true rfl, Nat.le_of_ble_eq_true rfl⟩ (Nat.le_of_ble_eq_true rfl) (Nat.zero_le _) (Nat.zero_le _) (fun v_10 w_11 hp_12 => ?_)
  obtain ⟨rfl, rfl⟩ := hp_12
  refine ⟨rfl, ?_⟩
  refine z_eq (ws2 := [eX2 h0 hl (nI len) (nI ((((pl + nln (chf tx len) pl) + 1) + nln (chf tx len) ((pl + nln (chf tx len) pl) + 1)) + 1)) (nI (nvl (chf tx len) pl)) (nI (nvl (chf tx len) ((pl + nln (chf tx len) pl) + 1))) ht ev, eC t hl 200 (nf tx)]) (st2 := [.int (nI 1)]) rfl rfl rfl ?_
  refine z_if_eqN X (pc := 47) 54 (by omega) dX2_readTwo_47 (by decide) (fun c_47 => absurd c_47 (by decide)) (fun c_47 => ?_)
  refine z_iconst X (pc := 50) (nI 1) dX2_readTwo_50 (by decide) ?_
  refine z_goto X (pc := 51) 55 dX2_readTwo_51 (by decide) ?_
  exact hR.z dX2_readTwo_55 rfl ⟨rfl, rfl⟩

abbrev rm_X2_readTwon : Room := { frames := 3, cells := 0, slots := 0, locals := 63 }
set_option maxHeartbeats 4000000 in
set_option maxRecDepth 100000 in
theorem c_X2_readTwon (lq : Launch) (D : va_G) (t : zT) (h0 hl ht len pl : Nat) (fi se ev : Int32) (tx : Nat → Nat) (hlen : len ≤ 200) (hpl : pl < 1000) (htx : ∀ j, tx j < 127) (hpl2 : pl < 800) (hd : ¬ t2 (chf tx len) pl) : Ct lq D t yX2_readTwo cX2_readTwo 1 (some .boolean) rm_X2_readTwon [.ref h0] [eX2 h0 hl (nI len) (nI pl) fi se ht ev, eC t hl 200 (nf tx)] 0 0 (fun rv rw_ => ∃ (pl2 : Int32) (fi2 : Int32) (se2 : Int32), rv = some (.int (nI 0)) ∧ rw_ = [eX2 h0 hl (nI len) pl2 fi2 se2 ht ev, eC t hl 200 (nf tx)]) := by
  refine Ct.of (by decide) (Nat.le_of_ble_eq_true rfl) (fun k X hR => ?_)
  have X : zX D t k cX2_readTwo 1 RX2 "readTwo" rm_X2_readTwon lq := X
  refine z_eq (lv2 := [(0, .ref h0)]) rfl rfl rfl ?_
  by_cases h1 : dig (chf tx len) pl
  · skip
    by_cases h2 : chf tx len (pl + nln (chf tx len) pl) = 44
    · skip
      by_cases h3 : dig (chf tx len) (pl + nln (chf tx len) pl + 1)
      · skip
        by_cases h4 : chf tx len (pl + nln (chf tx len) pl + 1 + nln (chf tx len) (pl + nln (chf tx len) pl + 1)) = 59
        · skip
          refine z_aload_n X (pc := 0) 0 dX2_readTwo_0 rfl ?_
          have hn1 := nln_le (chf tx len) pl
          refine z_aload_n X (pc := 1) 0 dX2_readTwo_1 rfl ?_
          refine zc_V (as := []) X (pc := 2) (c_X2_readNumbery lq D t h0 hl ht len pl fi se ev tx (by omega) (by omega) htx (by omega) h1) tw_222 tw_225 tw_2 tw_224 tw_1003 0 2 rfl rfl [0, 1] rfl rfl dX2_readTwo_2 rfl zdX2_readNumber ⟨rfl, rfl, Nat.le_of_ble_eq_true rfl, Nat.le_of_ble_eq_true rfl⟩ (Nat.le_of_ble_eq_true rfl) (Nat.zero_le _) (Nat.zero_le _) (fun v_1 w_2 hp_3 => ?_)
          obtain ⟨rfl, rfl⟩ := hp_3
          refine ⟨rfl, ?_⟩
          refine z_eq (ws2 := [eX2 h0 hl (nI len) (nI (pl + nln (chf tx len) pl)) fi se ht ev, eC t hl 200 (nf tx)]) (st2 := [.int (nI (nvl (chf tx len) pl)), .ref h0]) rfl rfl rfl ?_
          refine z_put X (pc := 5) 0 3 [eX2 h0 hl (nI len) (nI (pl + nln (chf tx len) pl)) (nI (nvl (chf tx len) pl)) se ht ev, eC t hl 200 (nf tx)] tu_2 tyX2_ok nmX2 tw_59 dX2_readTwo_5 rfl rfl (by decide) rfl rfl rfl rfl (Nat.le_of_ble_eq_true rfl) rfl ?_
          refine z_aload_n X (pc := 8) 0 dX2_readTwo_8 rfl ?_
          refine z_get X (pc := 9) 0 3 (.int (nI (nvl (chf tx len) pl))) tu_2 tw_59 dX2_readTwo_9 rfl rfl (by decide) rfl rfl ?_
          refine z_if_ltN X (pc := 12) 24 (by have := nvl_le h1; omega) dX2_readTwo_12 (by decide) ?_
          refine z_aload_n X (pc := 15) 0 dX2_readTwo_15 rfl ?_
          refine z_bipush X (pc := 16) (nI 44) dX2_readTwo_16 (by decide) ?_
          refine zc_V (as := [.int (nI 44)]) X (pc := 18) (c_X2_readSigny lq D t h0 hl ht len (pl + nln (chf tx len) pl) (nI (nvl (chf tx len) pl)) se ev tx 44 (by omega) (by omega) htx (by decide) h2) tw_230 tw_233 tw_2 tw_232 tw_1005 0 2 rfl rfl [0, 1] rfl rfl dX2_readTwo_18 rfl zdX2_readSign ⟨rfl, rfl, Nat.le_of_ble_eq_true rfl, Nat.le_of_ble_eq_true rfl⟩ (Nat.le_of_ble_eq_true rfl) (Nat.zero_le _) (Nat.zero_le _) (fun v_4 w_5 hp_6 => ?_)
          obtain ⟨rfl, rfl⟩ := hp_6
          refine ⟨rfl, ?_⟩
          refine z_eq (ws2 := [eX2 h0 hl (nI len) (nI ((pl + nln (chf tx len) pl) + 1)) (nI (nvl (chf tx len) pl)) se ht ev, eC t hl 200 (nf tx)]) (st2 := [.int (nI 1)]) rfl rfl rfl ?_
          refine z_if_neN X (pc := 21) 26 (by omega) dX2_readTwo_21 (by decide) (fun c_21 => ?_) (fun c_21 => absurd c_21 (by decide))
          refine z_aload_n X (pc := 26) 0 dX2_readTwo_26 rfl ?_
          refine z_aload_n X (pc := 27) 0 dX2_readTwo_27 rfl ?_
          refine zc_V (as := []) X (pc := 28) (c_X2_readNumbery lq D t h0 hl ht len ((pl + nln (chf tx len) pl) + 1) (nI (nvl (chf tx len) pl)) se ev tx (by omega) (by omega) htx (by omega) h3) tw_222 tw_225 tw_2 tw_224 tw_1003 0 2 rfl rfl [0, 1] rfl rfl dX2_readTwo_28 rfl zdX2_readNumber ⟨rfl, rfl, Nat.le_of_ble_eq_true rfl, Nat.le_of_ble_eq_true rfl⟩ (Nat.le_of_ble_eq_true rfl) (Nat.zero_le _) (Nat.zero_le _) (fun v_7 w_8 hp_9 => ?_)
          obtain ⟨rfl, rfl⟩ := hp_9
          refine ⟨rfl, ?_⟩
          refine z_eq (ws2 := [eX2 h0 hl (nI len) (nI (((pl + nln (chf tx len) pl) + 1) + nln (chf tx len) ((pl + nln (chf tx len) pl) + 1))) (nI (nvl (chf tx len) pl)) se ht ev, eC t hl 200 (nf tx)]) (st2 := [.int (nI (nvl (chf tx len) ((pl + nln (chf tx len) pl) + 1))), .ref h0]) rfl rfl rfl ?_
          refine z_put X (pc := 31) 0 4 [eX2 h0 hl (nI len) (nI (((pl + nln (chf tx len) pl) + 1) + nln (chf tx len) ((pl + nln (chf tx len) pl) + 1))) (nI (nvl (chf tx len) pl)) (nI (nvl (chf tx len) ((pl + nln (chf tx len) pl) + 1))) ht ev, eC t hl 200 (nf tx)] tu_2 tyX2_ok nmX2 tw_60 dX2_readTwo_31 rfl rfl (by decide) rfl rfl rfl rfl (Nat.le_of_ble_eq_true rfl) rfl ?_
          refine z_aload_n X (pc := 34) 0 dX2_readTwo_34 rfl ?_
          refine z_get X (pc := 35) 0 4 (.int (nI (nvl (chf tx len) ((pl + nln (chf tx len) pl) + 1)))) tu_2 tw_60 dX2_readTwo_35 rfl rfl (by decide) rfl rfl ?_
          refine z_if_ltN X (pc := 38) 54 (by have := nvl_le h3; omega) dX2_readTwo_38 (by decide) ?_
          refine z_aload_n X (pc := 41) 0 dX2_readTwo_41 rfl ?_
          refine z_bipush X (pc := 42) (nI 59) dX2_readTwo_42 (by decide) ?_
          refine zc_V (as := [.int (nI 59)]) X (pc := 44) (c_X2_readSigny lq D t h0 hl ht len (((pl + nln (chf tx len) pl) + 1) + nln (chf tx len) ((pl + nln (chf tx len) pl) + 1)) (nI (nvl (chf tx len) pl)) (nI (nvl (chf tx len) ((pl + nln (chf tx len) pl) + 1))) ev tx 59 (by omega) (by have := nln_le (chf tx len) (pl + nln (chf tx len) pl + 1); omega) htx (by decide) h4) tw_230 tw_233 tw_2 tw_232 tw_1005 0 2 rfl rfl [0, 1] rfl rfl dX2_readTwo_44 rfl zdX2_readSign ⟨rfl, rfl, Nat.le_of_ble_eq_true rfl, Nat.le_of_ble_eq_true rfl⟩ (Nat.le_of_ble_eq_true rfl) (Nat.zero_le _) (Nat.zero_le _) (fun v_10 w_11 hp_12 => ?_)
          obtain ⟨rfl, rfl⟩ := hp_12
          refine ⟨rfl, ?_⟩
          refine z_eq (ws2 := [eX2 h0 hl (nI len) (nI ((((pl + nln (chf tx len) pl) + 1) + nln (chf tx len) ((pl + nln (chf tx len) pl) + 1)) + 1)) (nI (nvl (chf tx len) pl)) (nI (nvl (chf tx len) ((pl + nln (chf tx len) pl) + 1))) ht ev, eC t hl 200 (nf tx)]) (st2 := [.int (nI 1)]) rfl rfl rfl ?_
          refine z_if_eqN X (pc := 47) 54 (by omega) dX2_readTwo_47 (by decide) (fun c_47 => absurd c_47 (by decide)) (fun c_47 => ?_)
          exact absurd ⟨h1, h2, h3, h4⟩ hd
        · skip
          refine z_aload_n X (pc := 0) 0 dX2_readTwo_0 rfl ?_
          have hn1 := nln_le (chf tx len) pl
          refine z_aload_n X (pc := 1) 0 dX2_readTwo_1 rfl ?_
          refine zc_V (as := []) X (pc := 2) (c_X2_readNumbery lq D t h0 hl ht len pl fi se ev tx (by omega) (by omega) htx (by omega) h1) tw_222 tw_225 tw_2 tw_224 tw_1003 0 2 rfl rfl [0, 1] rfl rfl dX2_readTwo_2 rfl zdX2_readNumber ⟨rfl, rfl, Nat.le_of_ble_eq_true rfl, Nat.le_of_ble_eq_true rfl⟩ (Nat.le_of_ble_eq_true rfl) (Nat.zero_le _) (Nat.zero_le _) (fun v_13 w_14 hp_15 => ?_)
          obtain ⟨rfl, rfl⟩ := hp_15
          refine ⟨rfl, ?_⟩
          refine z_eq (ws2 := [eX2 h0 hl (nI len) (nI (pl + nln (chf tx len) pl)) fi se ht ev, eC t hl 200 (nf tx)]) (st2 := [.int (nI (nvl (chf tx len) pl)), .ref h0]) rfl rfl rfl ?_
          refine z_put X (pc := 5) 0 3 [eX2 h0 hl (nI len) (nI (pl + nln (chf tx len) pl)) (nI (nvl (chf tx len) pl)) se ht ev, eC t hl 200 (nf tx)] tu_2 tyX2_ok nmX2 tw_59 dX2_readTwo_5 rfl rfl (by decide) rfl rfl rfl rfl (Nat.le_of_ble_eq_true rfl) rfl ?_
          refine z_aload_n X (pc := 8) 0 dX2_readTwo_8 rfl ?_
          refine z_get X (pc := 9) 0 3 (.int (nI (nvl (chf tx len) pl))) tu_2 tw_59 dX2_readTwo_9 rfl rfl (by decide) rfl rfl ?_
          refine z_if_ltN X (pc := 12) 24 (by have := nvl_le h1; omega) dX2_readTwo_12 (by decide) ?_
          refine z_aload_n X (pc := 15) 0 dX2_readTwo_15 rfl ?_
          refine z_bipush X (pc := 16) (nI 44) dX2_readTwo_16 (by decide) ?_
          refine zc_V (as := [.int (nI 44)]) X (pc := 18) (c_X2_readSigny lq D t h0 hl ht len (pl + nln (chf tx len) pl) (nI (nvl (chf tx len) pl)) se ev tx 44 (by omega) (by omega) htx (by decide) h2) tw_230 tw_233 tw_2 tw_232 tw_1005 0 2 rfl rfl [0, 1] rfl rfl dX2_readTwo_18 rfl zdX2_readSign ⟨rfl, rfl, Nat.le_of_ble_eq_true rfl, Nat.le_of_ble_eq_true rfl⟩ (Nat.le_of_ble_eq_true rfl) (Nat.zero_le _) (Nat.zero_le _) (fun v_16 w_17 hp_18 => ?_)
          obtain ⟨rfl, rfl⟩ := hp_18
          refine ⟨rfl, ?_⟩
          refine z_eq (ws2 := [eX2 h0 hl (nI len) (nI ((pl + nln (chf tx len) pl) + 1)) (nI (nvl (chf tx len) pl)) se ht ev, eC t hl 200 (nf tx)]) (st2 := [.int (nI 1)]) rfl rfl rfl ?_
          refine z_if_neN X (pc := 21) 26 (by omega) dX2_readTwo_21 (by decide) (fun c_21 => ?_) (fun c_21 => absurd c_21 (by decide))
          refine z_aload_n X (pc := 26) 0 dX2_readTwo_26 rfl ?_
          refine z_aload_n X (pc := 27) 0 dX2_readTwo_27 rfl ?_
          refine zc_V (as := []) X (pc := 28) (c_X2_readNumbery lq D t h0 hl ht len ((pl + nln (chf tx len) pl) + 1) (nI (nvl (chf tx len) pl)) se ev tx (by omega) (by omega) htx (by omega) h3) tw_222 tw_225 tw_2 tw_224 tw_1003 0 2 rfl rfl [0, 1] rfl rfl dX2_readTwo_28 rfl zdX2_readNumber ⟨rfl, rfl, Nat.le_of_ble_eq_true rfl, Nat.le_of_ble_eq_true rfl⟩ (Nat.le_of_ble_eq_true rfl) (Nat.zero_le _) (Nat.zero_le _) (fun v_19 w_20 hp_21 => ?_)
          obtain ⟨rfl, rfl⟩ := hp_21
          refine ⟨rfl, ?_⟩
          refine z_eq (ws2 := [eX2 h0 hl (nI len) (nI (((pl + nln (chf tx len) pl) + 1) + nln (chf tx len) ((pl + nln (chf tx len) pl) + 1))) (nI (nvl (chf tx len) pl)) se ht ev, eC t hl 200 (nf tx)]) (st2 := [.int (nI (nvl (chf tx len) ((pl + nln (chf tx len) pl) + 1))), .ref h0]) rfl rfl rfl ?_
          refine z_put X (pc := 31) 0 4 [eX2 h0 hl (nI len) (nI (((pl + nln (chf tx len) pl) + 1) + nln (chf tx len) ((pl + nln (chf tx len) pl) + 1))) (nI (nvl (chf tx len) pl)) (nI (nvl (chf tx len) ((pl + nln (chf tx len) pl) + 1))) ht ev, eC t hl 200 (nf tx)] tu_2 tyX2_ok nmX2 tw_60 dX2_readTwo_31 rfl rfl (by decide) rfl rfl rfl rfl (Nat.le_of_ble_eq_true rfl) rfl ?_
          refine z_aload_n X (pc := 34) 0 dX2_readTwo_34 rfl ?_
          refine z_get X (pc := 35) 0 4 (.int (nI (nvl (chf tx len) ((pl + nln (chf tx len) pl) + 1)))) tu_2 tw_60 dX2_readTwo_35 rfl rfl (by decide) rfl rfl ?_
          refine z_if_ltN X (pc := 38) 54 (by have := nvl_le h3; omega) dX2_readTwo_38 (by decide) ?_
          refine z_aload_n X (pc := 41) 0 dX2_readTwo_41 rfl ?_
          refine z_bipush X (pc := 42) (nI 59) dX2_readTwo_42 (by decide) ?_
          refine zc_V (as := [.int (nI 59)]) X (pc := 44) (c_X2_readSignn lq D t h0 hl ht len (((pl + nln (chf tx len) pl) + 1) + nln (chf tx len) ((pl + nln (chf tx len) pl) + 1)) (nI (nvl (chf tx len) pl)) (nI (nvl (chf tx len) ((pl + nln (chf tx len) pl) + 1))) ev tx 59 (by omega) (by have := nln_le (chf tx len) (pl + nln (chf tx len) pl + 1); omega) htx (by decide) h4) tw_230 tw_233 tw_2 tw_232 tw_1005 0 2 rfl rfl [0, 1] rfl rfl dX2_readTwo_44 rfl zdX2_readSign ⟨rfl, rfl, Nat.le_of_ble_eq_true rfl, Nat.le_of_ble_eq_true rfl⟩ (Nat.le_of_ble_eq_true rfl) (Nat.zero_le _) (Nat.zero_le _) (fun v_22 w_23 hp_24 => ?_)
          obtain ⟨rfl, rfl⟩ := hp_24
          refine ⟨rfl, ?_⟩
          refine z_eq (ws2 := [eX2 h0 hl (nI len) (nI (((pl + nln (chf tx len) pl) + 1) + nln (chf tx len) ((pl + nln (chf tx len) pl) + 1))) (nI (nvl (chf tx len) pl)) (nI (nvl (chf tx len) ((pl + nln (chf tx len) pl) + 1))) ht ev, eC t hl 200 (nf tx)]) (st2 := [.int (nI 0)]) rfl rfl rfl ?_
          refine z_if_eqN X (pc := 47) 54 (by omega) dX2_readTwo_47 (by decide) (fun c_47 => ?_) (fun c_47 => absurd c_47 (by decide))
          refine z_iconst X (pc := 54) (nI 0) dX2_readTwo_54 (by decide) ?_
          exact hR.z dX2_readTwo_55 rfl ⟨(nI (((pl + nln (chf tx len) pl) + 1) + nln (chf tx len) ((pl + nln (chf tx len) pl) + 1))), (nI (nvl (chf tx len) pl)), (nI (nvl (chf tx len) ((pl + nln (chf tx len) pl) + 1))), rfl, rfl⟩
      · skip
        refine z_aload_n X (pc := 0) 0 dX2_readTwo_0 rfl ?_
        have hn1 := nln_le (chf tx len) pl
        refine z_aload_n X (pc := 1) 0 dX2_readTwo_1 rfl ?_
        refine zc_V (as := []) X (pc := 2) (c_X2_readNumbery lq D t h0 hl ht len pl fi se ev tx (by omega) (by omega) htx (by omega) h1) tw_222 tw_225 tw_2 tw_224 tw_1003 0 2 rfl rfl [0, 1] rfl rfl dX2_readTwo_2 rfl zdX2_readNumber ⟨rfl, rfl, Nat.le_of_ble_eq_true rfl, Nat.le_of_ble_eq_true rfl⟩ (Nat.le_of_ble_eq_true rfl) (Nat.zero_le _) (Nat.zero_le _) (fun v_25 w_26 hp_27 => ?_)
        obtain ⟨rfl, rfl⟩ := hp_27
        refine ⟨rfl, ?_⟩
        refine z_eq (ws2 := [eX2 h0 hl (nI len) (nI (pl + nln (chf tx len) pl)) fi se ht ev, eC t hl 200 (nf tx)]) (st2 := [.int (nI (nvl (chf tx len) pl)), .ref h0]) rfl rfl rfl ?_
        refine z_put X (pc := 5) 0 3 [eX2 h0 hl (nI len) (nI (pl + nln (chf tx len) pl)) (nI (nvl (chf tx len) pl)) se ht ev, eC t hl 200 (nf tx)] tu_2 tyX2_ok nmX2 tw_59 dX2_readTwo_5 rfl rfl (by decide) rfl rfl rfl rfl (Nat.le_of_ble_eq_true rfl) rfl ?_
        refine z_aload_n X (pc := 8) 0 dX2_readTwo_8 rfl ?_
        refine z_get X (pc := 9) 0 3 (.int (nI (nvl (chf tx len) pl))) tu_2 tw_59 dX2_readTwo_9 rfl rfl (by decide) rfl rfl ?_
        refine z_if_ltN X (pc := 12) 24 (by have := nvl_le h1; omega) dX2_readTwo_12 (by decide) ?_
        refine z_aload_n X (pc := 15) 0 dX2_readTwo_15 rfl ?_
        refine z_bipush X (pc := 16) (nI 44) dX2_readTwo_16 (by decide) ?_
        refine zc_V (as := [.int (nI 44)]) X (pc := 18) (c_X2_readSigny lq D t h0 hl ht len (pl + nln (chf tx len) pl) (nI (nvl (chf tx len) pl)) se ev tx 44 (by omega) (by omega) htx (by decide) h2) tw_230 tw_233 tw_2 tw_232 tw_1005 0 2 rfl rfl [0, 1] rfl rfl dX2_readTwo_18 rfl zdX2_readSign ⟨rfl, rfl, Nat.le_of_ble_eq_true rfl, Nat.le_of_ble_eq_true rfl⟩ (Nat.le_of_ble_eq_true rfl) (Nat.zero_le _) (Nat.zero_le _) (fun v_28 w_29 hp_30 => ?_)
        obtain ⟨rfl, rfl⟩ := hp_30
        refine ⟨rfl, ?_⟩
        refine z_eq (ws2 := [eX2 h0 hl (nI len) (nI ((pl + nln (chf tx len) pl) + 1)) (nI (nvl (chf tx len) pl)) se ht ev, eC t hl 200 (nf tx)]) (st2 := [.int (nI 1)]) rfl rfl rfl ?_
        refine z_if_neN X (pc := 21) 26 (by omega) dX2_readTwo_21 (by decide) (fun c_21 => ?_) (fun c_21 => absurd c_21 (by decide))
        refine z_aload_n X (pc := 26) 0 dX2_readTwo_26 rfl ?_
        refine z_aload_n X (pc := 27) 0 dX2_readTwo_27 rfl ?_
        refine zc_V (as := []) X (pc := 28) (c_X2_readNumbern lq D t h0 hl ht len ((pl + nln (chf tx len) pl) + 1) (nI (nvl (chf tx len) pl)) se ev tx (by omega) (by omega) htx h3) tw_222 tw_225 tw_2 tw_224 tw_1003 0 2 rfl rfl [0, 1] rfl rfl dX2_readTwo_28 rfl zdX2_readNumber ⟨rfl, rfl, Nat.le_of_ble_eq_true rfl, Nat.le_of_ble_eq_true rfl⟩ (Nat.le_of_ble_eq_true rfl) (Nat.zero_le _) (Nat.zero_le _) (fun v_31 w_32 hp_33 => ?_)
        obtain ⟨rfl, rfl⟩ := hp_33
        refine ⟨rfl, ?_⟩
        refine z_eq (ws2 := [eX2 h0 hl (nI len) (nI ((pl + nln (chf tx len) pl) + 1)) (nI (nvl (chf tx len) pl)) se ht ev, eC t hl 200 (nf tx)]) (st2 := [.int (-1), .ref h0]) rfl rfl rfl ?_
        refine z_put X (pc := 31) 0 4 [eX2 h0 hl (nI len) (nI ((pl + nln (chf tx len) pl) + 1)) (nI (nvl (chf tx len) pl)) (-1) ht ev, eC t hl 200 (nf tx)] tu_2 tyX2_ok nmX2 tw_60 dX2_readTwo_31 rfl rfl (by decide) rfl rfl rfl rfl (Nat.le_of_ble_eq_true rfl) rfl ?_
        refine z_aload_n X (pc := 34) 0 dX2_readTwo_34 rfl ?_
        refine z_get X (pc := 35) 0 4 (.int (-1)) tu_2 tw_60 dX2_readTwo_35 rfl rfl (by decide) rfl rfl ?_
        refine z_if_lt X (pc := 38) 54 dX2_readTwo_38 (by decide) (fun c_38 => ?_) (fun c_38 => absurd c_38 (by decide))
        refine z_iconst X (pc := 54) (nI 0) dX2_readTwo_54 (by decide) ?_
        exact hR.z dX2_readTwo_55 rfl ⟨(nI ((pl + nln (chf tx len) pl) + 1)), (nI (nvl (chf tx len) pl)), (-1), rfl, rfl⟩
    · skip
      refine z_aload_n X (pc := 0) 0 dX2_readTwo_0 rfl ?_
      have hn1 := nln_le (chf tx len) pl
      refine z_aload_n X (pc := 1) 0 dX2_readTwo_1 rfl ?_
      refine zc_V (as := []) X (pc := 2) (c_X2_readNumbery lq D t h0 hl ht len pl fi se ev tx (by omega) (by omega) htx (by omega) h1) tw_222 tw_225 tw_2 tw_224 tw_1003 0 2 rfl rfl [0, 1] rfl rfl dX2_readTwo_2 rfl zdX2_readNumber ⟨rfl, rfl, Nat.le_of_ble_eq_true rfl, Nat.le_of_ble_eq_true rfl⟩ (Nat.le_of_ble_eq_true rfl) (Nat.zero_le _) (Nat.zero_le _) (fun v_34 w_35 hp_36 => ?_)
      obtain ⟨rfl, rfl⟩ := hp_36
      refine ⟨rfl, ?_⟩
      refine z_eq (ws2 := [eX2 h0 hl (nI len) (nI (pl + nln (chf tx len) pl)) fi se ht ev, eC t hl 200 (nf tx)]) (st2 := [.int (nI (nvl (chf tx len) pl)), .ref h0]) rfl rfl rfl ?_
      refine z_put X (pc := 5) 0 3 [eX2 h0 hl (nI len) (nI (pl + nln (chf tx len) pl)) (nI (nvl (chf tx len) pl)) se ht ev, eC t hl 200 (nf tx)] tu_2 tyX2_ok nmX2 tw_59 dX2_readTwo_5 rfl rfl (by decide) rfl rfl rfl rfl (Nat.le_of_ble_eq_true rfl) rfl ?_
      refine z_aload_n X (pc := 8) 0 dX2_readTwo_8 rfl ?_
      refine z_get X (pc := 9) 0 3 (.int (nI (nvl (chf tx len) pl))) tu_2 tw_59 dX2_readTwo_9 rfl rfl (by decide) rfl rfl ?_
      refine z_if_ltN X (pc := 12) 24 (by have := nvl_le h1; omega) dX2_readTwo_12 (by decide) ?_
      refine z_aload_n X (pc := 15) 0 dX2_readTwo_15 rfl ?_
      refine z_bipush X (pc := 16) (nI 44) dX2_readTwo_16 (by decide) ?_
      refine zc_V (as := [.int (nI 44)]) X (pc := 18) (c_X2_readSignn lq D t h0 hl ht len (pl + nln (chf tx len) pl) (nI (nvl (chf tx len) pl)) se ev tx 44 (by omega) (by omega) htx (by decide) h2) tw_230 tw_233 tw_2 tw_232 tw_1005 0 2 rfl rfl [0, 1] rfl rfl dX2_readTwo_18 rfl zdX2_readSign ⟨rfl, rfl, Nat.le_of_ble_eq_true rfl, Nat.le_of_ble_eq_true rfl⟩ (Nat.le_of_ble_eq_true rfl) (Nat.zero_le _) (Nat.zero_le _) (fun v_37 w_38 hp_39 => ?_)
      obtain ⟨rfl, rfl⟩ := hp_39
      refine ⟨rfl, ?_⟩
      refine z_eq (ws2 := [eX2 h0 hl (nI len) (nI (pl + nln (chf tx len) pl)) (nI (nvl (chf tx len) pl)) se ht ev, eC t hl 200 (nf tx)]) (st2 := [.int (nI 0)]) rfl rfl rfl ?_
      refine z_if_neN X (pc := 21) 26 (by omega) dX2_readTwo_21 (by decide) (fun c_21 => absurd c_21 (by decide)) (fun c_21 => ?_)
      refine z_iconst X (pc := 24) (nI 0) dX2_readTwo_24 (by decide) ?_
      exact hR.z dX2_readTwo_25 rfl ⟨(nI (pl + nln (chf tx len) pl)), (nI (nvl (chf tx len) pl)), se, rfl, rfl⟩
  · skip
    refine z_aload_n X (pc := 0) 0 dX2_readTwo_0 rfl ?_
    have hn1 := nln_le (chf tx len) pl
    refine z_aload_n X (pc := 1) 0 dX2_readTwo_1 rfl ?_
    refine zc_V (as := []) X (pc := 2) (c_X2_readNumbern lq D t h0 hl ht len pl fi se ev tx (by omega) (by omega) htx h1) tw_222 tw_225 tw_2 tw_224 tw_1003 0 2 rfl rfl [0, 1] rfl rfl dX2_readTwo_2 rfl zdX2_readNumber ⟨rfl, rfl, Nat.le_of_ble_eq_true rfl, Nat.le_of_ble_eq_true rfl⟩ (Nat.le_of_ble_eq_true rfl) (Nat.zero_le _) (Nat.zero_le _) (fun v_40 w_41 hp_42 => ?_)
    obtain ⟨rfl, rfl⟩ := hp_42
    refine ⟨rfl, ?_⟩
    refine z_eq (ws2 := [eX2 h0 hl (nI len) (nI pl) fi se ht ev, eC t hl 200 (nf tx)]) (st2 := [.int (-1), .ref h0]) rfl rfl rfl ?_
    refine z_put X (pc := 5) 0 3 [eX2 h0 hl (nI len) (nI pl) (-1) se ht ev, eC t hl 200 (nf tx)] tu_2 tyX2_ok nmX2 tw_59 dX2_readTwo_5 rfl rfl (by decide) rfl rfl rfl rfl (Nat.le_of_ble_eq_true rfl) rfl ?_
    refine z_aload_n X (pc := 8) 0 dX2_readTwo_8 rfl ?_
    refine z_get X (pc := 9) 0 3 (.int (-1)) tu_2 tw_59 dX2_readTwo_9 rfl rfl (by decide) rfl rfl ?_
    refine z_if_lt X (pc := 12) 24 dX2_readTwo_12 (by decide) (fun c_12 => ?_) (fun c_12 => absurd c_12 (by decide))
    refine z_iconst X (pc := 24) (nI 0) dX2_readTwo_24 (by decide) ?_
    exact hR.z dX2_readTwo_25 rfl ⟨(nI pl), (-1), se, rfl, rfl⟩

abbrev rm_X2_tellBoxes : Room := { frames := 1, cells := 0, slots := 0, locals := 22 }
set_option maxHeartbeats 4000000 in
set_option maxRecDepth 100000 in
theorem c_X2_tellBoxes (lq : Launch) (D : va_G) (t : zT) (h0 hl ht len : Nat) (pl ev : Int32) (a b u0 u1 u2 u3 u4 : Nat) (ha : a ≤ 99) (hb : b ≤ 99) : Ct lq D t yX2_tellBoxes cX2_tellBoxes 1 (some .boolean) rm_X2_tellBoxes [.ref h0] [eX2 h0 hl (nI len) pl (nI a) (nI b) ht ev, eX0 ht (nI u0) (nI u1) (nI u2) (nI u3) (nI u4)] 0 0 (fun rv rw_ => rv = some (.int (zb (a ≤ 10 ∧ b ≤ 10))) ∧ rw_ = [eX2 h0 hl (nI len) pl (nI a) (nI b) ht ev, eX0 ht (nI a) (nI b) (nI u2) (nI u3) (nI u4)]) := by
  refine Ct.of (by decide) (Nat.le_of_ble_eq_true rfl) (fun k X hR => ?_)
  have X : zX D t k cX2_tellBoxes 1 RX2 "tellBoxes" rm_X2_tellBoxes lq := X
  refine z_eq (lv2 := [(0, .ref h0)]) rfl rfl rfl ?_
  refine z_aload_n X (pc := 0) 0 dX2_tellBoxes_0 rfl ?_
  refine z_get X (pc := 1) 0 5 (.ref ht) tu_2 tw_61 dX2_tellBoxes_1 rfl rfl (by decide) rfl rfl ?_
  refine z_aload_n X (pc := 4) 0 dX2_tellBoxes_4 rfl ?_
  refine z_get X (pc := 5) 0 3 (.int (nI a)) tu_2 tw_59 dX2_tellBoxes_5 rfl rfl (by decide) rfl rfl ?_
  refine z_aload_n X (pc := 8) 0 dX2_tellBoxes_8 rfl ?_
  refine z_get X (pc := 9) 0 4 (.int (nI b)) tu_2 tw_60 dX2_tellBoxes_9 rfl rfl (by decide) rfl rfl ?_
  refine zc_V (as := [.int (nI a), .int (nI b)]) X (pc := 12) (c_X0_setBoxes lq D t ht (nI u0) (nI u1) (nI u2) (nI u3) (nI u4) (nI a) (nI b) ) tw_208 tw_139 tw_3 tw_137 tw_138 0 0 rfl rfl [1] rfl rfl dX2_tellBoxes_12 rfl zdX0_setBoxes ⟨rfl, rfl, Nat.le_of_ble_eq_true rfl, Nat.le_of_ble_eq_true rfl⟩ (Nat.le_of_ble_eq_true rfl) (Nat.zero_le _) (Nat.zero_le _) (fun v_1 w_2 hp_3 => ?_)
  obtain ⟨rfl, rfl⟩ := hp_3
  refine ⟨rfl, ?_⟩
  refine z_eq (ws2 := [eX2 h0 hl (nI len) pl (nI a) (nI b) ht ev, eX0 ht (nI a) (nI b) (nI u2) (nI u3) (nI u4)]) (st2 := []) rfl rfl rfl ?_
  refine z_aload_n X (pc := 15) 0 dX2_tellBoxes_15 rfl ?_
  refine z_get X (pc := 16) 0 3 (.int (nI a)) tu_2 tw_59 dX2_tellBoxes_16 rfl rfl (by decide) rfl rfl ?_
  refine z_iconst X (pc := 19) (nI 0) dX2_tellBoxes_19 (by decide) ?_
  refine z_bipush X (pc := 20) (nI 10) dX2_tellBoxes_20 (by decide) ?_
  refine zc_SN (as := [.int (nI a), .int (nI 0), .int (nI 10)]) X (pc := 22) (c_X4_withinN lq D t a 0 10 (by omega) (by decide) (by decide)) tw_187 tw_182 tw_1 tw_181 [] rfl rfl dX2_tellBoxes_22 rfl zdX4_within ⟨rfl, rfl, Nat.le_of_ble_eq_true rfl, Nat.le_of_ble_eq_true rfl⟩ (Nat.le_of_ble_eq_true rfl) (Nat.zero_le _) (Nat.zero_le _) (fun v_4 w_5 hp_6 => ?_)
  obtain ⟨rfl, rfl⟩ := hp_6
  refine ⟨rfl, ?_⟩
  refine z_eq (ws2 := [eX2 h0 hl (nI len) pl (nI a) (nI b) ht ev, eX0 ht (nI a) (nI b) (nI u2) (nI u3) (nI u4)]) (st2 := [.int (zb (0 ≤ a ∧ a ≤ 10))]) rfl rfl rfl ?_
  refine z_if_eqB X (pc := 25) 45 dX2_tellBoxes_25 (by decide) (fun c_25 => ?_) (fun c_25 => ?_)
  · skip
    refine z_iconst X (pc := 45) (nI 0) dX2_tellBoxes_45 (by decide) ?_
    exact hR.z dX2_tellBoxes_46 rfl ⟨some_zb_f (by omega), rfl⟩
  · skip
    refine z_aload_n X (pc := 28) 0 dX2_tellBoxes_28 rfl ?_
    refine z_get X (pc := 29) 0 4 (.int (nI b)) tu_2 tw_60 dX2_tellBoxes_29 rfl rfl (by decide) rfl rfl ?_
    refine z_iconst X (pc := 32) (nI 0) dX2_tellBoxes_32 (by decide) ?_
    refine z_bipush X (pc := 33) (nI 10) dX2_tellBoxes_33 (by decide) ?_
    refine zc_SN (as := [.int (nI b), .int (nI 0), .int (nI 10)]) X (pc := 35) (c_X4_withinN lq D t b 0 10 (by omega) (by decide) (by decide)) tw_187 tw_182 tw_1 tw_181 [] rfl rfl dX2_tellBoxes_35 rfl zdX4_within ⟨rfl, rfl, Nat.le_of_ble_eq_true rfl, Nat.le_of_ble_eq_true rfl⟩ (Nat.le_of_ble_eq_true rfl) (Nat.zero_le _) (Nat.zero_le _) (fun v_7 w_8 hp_9 => ?_)
    obtain ⟨rfl, rfl⟩ := hp_9
    refine ⟨rfl, ?_⟩
    refine z_eq (ws2 := [eX2 h0 hl (nI len) pl (nI a) (nI b) ht ev, eX0 ht (nI a) (nI b) (nI u2) (nI u3) (nI u4)]) (st2 := [.int (zb (0 ≤ b ∧ b ≤ 10))]) rfl rfl rfl ?_
    refine z_if_eqB X (pc := 38) 45 dX2_tellBoxes_38 (by decide) (fun c_38 => ?_) (fun c_38 => ?_)
    · skip
      refine z_iconst X (pc := 45) (nI 0) dX2_tellBoxes_45 (by decide) ?_
      exact hR.z dX2_tellBoxes_46 rfl ⟨some_zb_f (by omega), rfl⟩
    · skip
      refine z_iconst X (pc := 41) (nI 1) dX2_tellBoxes_41 (by decide) ?_
      refine z_goto X (pc := 42) 46 dX2_tellBoxes_42 (by decide) ?_
      exact hR.z dX2_tellBoxes_46 rfl ⟨some_zb_t (by omega), rfl⟩

abbrev rm_X2_tellHand : Room := { frames := 3, cells := 0, slots := 0, locals := 63 }
set_option maxHeartbeats 4000000 in
set_option maxRecDepth 100000 in
theorem c_X2_tellHand (lq : Launch) (D : va_G) (t : zT) (h0 hl ht len : Nat) (pl ev : Int32) (a b u0 u1 u2 u3 u4 : Nat) (ha : a ≤ 99) (hb : b ≤ 99) : Ct lq D t yX2_tellHand cX2_tellHand 1 (some .boolean) rm_X2_tellHand [.ref h0] [eX2 h0 hl (nI len) pl (nI a) (nI b) ht ev, eX0 ht (nI u0) (nI u1) (nI u2) (nI u3) (nI u4)] 0 0 (fun rv rw_ => rv = some (.int (zb (a ≤ 3 ∧ b ≤ 4))) ∧ rw_ = [eX2 h0 hl (nI len) pl (nI a) (nI b) ht ev, eX0 ht (nI u0) (nI u1) (nI u2) (nI a) (nI b)]) := by
  refine Ct.of (by decide) (Nat.le_of_ble_eq_true rfl) (fun k X hR => ?_)
  have X : zX D t k cX2_tellHand 1 RX2 "tellHand" rm_X2_tellHand lq := X
  refine z_eq (lv2 := [(0, .ref h0)]) rfl rfl rfl ?_
  refine z_aload_n X (pc := 0) 0 dX2_tellHand_0 rfl ?_
  refine z_get X (pc := 1) 0 5 (.ref ht) tu_2 tw_61 dX2_tellHand_1 rfl rfl (by decide) rfl rfl ?_
  refine z_aload_n X (pc := 4) 0 dX2_tellHand_4 rfl ?_
  refine z_get X (pc := 5) 0 3 (.int (nI a)) tu_2 tw_59 dX2_tellHand_5 rfl rfl (by decide) rfl rfl ?_
  refine z_aload_n X (pc := 8) 0 dX2_tellHand_8 rfl ?_
  refine z_get X (pc := 9) 0 4 (.int (nI b)) tu_2 tw_60 dX2_tellHand_9 rfl rfl (by decide) rfl rfl ?_
  refine zc_V (as := [.int (nI a), .int (nI b)]) X (pc := 12) (c_X0_setHand lq D t ht (nI u0) (nI u1) (nI u2) (nI u3) (nI u4) (nI a) (nI b) ) tw_209 tw_143 tw_3 tw_141 tw_142 0 0 rfl rfl [1] rfl rfl dX2_tellHand_12 rfl zdX0_setHand ⟨rfl, rfl, Nat.le_of_ble_eq_true rfl, Nat.le_of_ble_eq_true rfl⟩ (Nat.le_of_ble_eq_true rfl) (Nat.zero_le _) (Nat.zero_le _) (fun v_1 w_2 hp_3 => ?_)
  obtain ⟨rfl, rfl⟩ := hp_3
  refine ⟨rfl, ?_⟩
  refine z_eq (ws2 := [eX2 h0 hl (nI len) pl (nI a) (nI b) ht ev, eX0 ht (nI u0) (nI u1) (nI u2) (nI a) (nI b)]) (st2 := []) rfl rfl rfl ?_
  refine z_aload_n X (pc := 15) 0 dX2_tellHand_15 rfl ?_
  refine z_get X (pc := 16) 0 3 (.int (nI a)) tu_2 tw_59 dX2_tellHand_16 rfl rfl (by decide) rfl rfl ?_
  refine z_aload_n X (pc := 19) 0 dX2_tellHand_19 rfl ?_
  refine z_get X (pc := 20) 0 4 (.int (nI b)) tu_2 tw_60 dX2_tellHand_20 rfl rfl (by decide) rfl rfl ?_
  refine zc_SN (as := [.int (nI a), .int (nI b)]) X (pc := 23) (c_X4_isHandN lq D t a b (by omega) (by omega)) tw_242 tw_244 tw_1 tw_243 [] rfl rfl dX2_tellHand_23 rfl zdX4_isHand ⟨rfl, rfl, Nat.le_of_ble_eq_true rfl, Nat.le_of_ble_eq_true rfl⟩ (Nat.le_of_ble_eq_true rfl) (Nat.zero_le _) (Nat.zero_le _) (fun v_4 w_5 hp_6 => ?_)
  obtain ⟨rfl, rfl⟩ := hp_6
  refine ⟨rfl, ?_⟩
  refine z_eq (ws2 := [eX2 h0 hl (nI len) pl (nI a) (nI b) ht ev, eX0 ht (nI u0) (nI u1) (nI u2) (nI a) (nI b)]) (st2 := [.int (zb (a ≤ 3 ∧ b ≤ 4))]) rfl rfl rfl ?_
  exact hR.z dX2_tellHand_26 (zb_nar _) ⟨rfl, rfl⟩

abbrev rm_X2_tellLast : Room := { frames := 2, cells := 0, slots := 0, locals := 42 }
set_option maxHeartbeats 4000000 in
set_option maxRecDepth 100000 in
theorem c_X2_tellLast (lq : Launch) (D : va_G) (t : zT) (h0 hl ht len : Nat) (pl se ev : Int32) (a u0 u1 u2 u3 u4 : Nat) (ha : a ≤ 99) : Ct lq D t yX2_tellLast cX2_tellLast 1 (some .boolean) rm_X2_tellLast [.ref h0] [eX2 h0 hl (nI len) pl (nI a) se ht ev, eX0 ht (nI u0) (nI u1) (nI u2) (nI u3) (nI u4)] 0 0 (fun rv rw_ => rv = some (.int (zb (a ≤ 1))) ∧ rw_ = [eX2 h0 hl (nI len) pl (nI a) se ht ev, eX0 ht (nI u0) (nI u1) (nI a) (nI u3) (nI u4)]) := by
  refine Ct.of (by decide) (Nat.le_of_ble_eq_true rfl) (fun k X hR => ?_)
  have X : zX D t k cX2_tellLast 1 RX2 "tellLast" rm_X2_tellLast lq := X
  refine z_eq (lv2 := [(0, .ref h0)]) rfl rfl rfl ?_
  refine z_aload_n X (pc := 0) 0 dX2_tellLast_0 rfl ?_
  refine z_get X (pc := 1) 0 5 (.ref ht) tu_2 tw_61 dX2_tellLast_1 rfl rfl (by decide) rfl rfl ?_
  refine z_aload_n X (pc := 4) 0 dX2_tellLast_4 rfl ?_
  refine z_get X (pc := 5) 0 3 (.int (nI a)) tu_2 tw_59 dX2_tellLast_5 rfl rfl (by decide) rfl rfl ?_
  refine z_put X (pc := 8) 1 2 [eX2 h0 hl (nI len) pl (nI a) se ht ev, eX0 ht (nI u0) (nI u1) (nI a) (nI u3) (nI u4)] tu_0 tyX0_ok nmX0 tw_37 dX2_tellLast_8 rfl rfl (by decide) rfl rfl rfl rfl (Nat.le_of_ble_eq_true rfl) rfl ?_
  refine z_aload_n X (pc := 11) 0 dX2_tellLast_11 rfl ?_
  refine z_get X (pc := 12) 0 3 (.int (nI a)) tu_2 tw_59 dX2_tellLast_12 rfl rfl (by decide) rfl rfl ?_
  refine zc_SN (as := [.int (nI a)]) X (pc := 15) (c_X4_isSideN lq D t a (by omega)) tw_256 tw_258 tw_1 tw_257 [] rfl rfl dX2_tellLast_15 rfl zdX4_isSide ⟨rfl, rfl, Nat.le_of_ble_eq_true rfl, Nat.le_of_ble_eq_true rfl⟩ (Nat.le_of_ble_eq_true rfl) (Nat.zero_le _) (Nat.zero_le _) (fun v_1 w_2 hp_3 => ?_)
  obtain ⟨rfl, rfl⟩ := hp_3
  refine ⟨rfl, ?_⟩
  refine z_eq (ws2 := [eX2 h0 hl (nI len) pl (nI a) se ht ev, eX0 ht (nI u0) (nI u1) (nI a) (nI u3) (nI u4)]) (st2 := [.int (zb (a ≤ 1))]) rfl rfl rfl ?_
  exact hR.z dX2_tellLast_18 (zb_nar _) ⟨rfl, rfl⟩

abbrev rm_X2_tellEvening : Room := { frames := 1, cells := 0, slots := 0, locals := 22 }
set_option maxHeartbeats 4000000 in
set_option maxRecDepth 100000 in
theorem c_X2_tellEvening (lq : Launch) (D : va_G) (t : zT) (h0 hl ht len : Nat) (pl se ev : Int32) (a : Nat) (ha : a ≤ 99) : Ct lq D t yX2_tellEvening cX2_tellEvening 1 (some .boolean) rm_X2_tellEvening [.ref h0] [eX2 h0 hl (nI len) pl (nI a) se ht ev] 0 0 (fun rv rw_ => rv = some (.int (zb (1 ≤ a ∧ a ≤ 9))) ∧ rw_ = [eX2 h0 hl (nI len) pl (nI a) se ht (nI a)]) := by
  refine Ct.of (by decide) (Nat.le_of_ble_eq_true rfl) (fun k X hR => ?_)
  have X : zX D t k cX2_tellEvening 1 RX2 "tellEvening" rm_X2_tellEvening lq := X
  refine z_eq (lv2 := [(0, .ref h0)]) rfl rfl rfl ?_
  refine z_aload_n X (pc := 0) 0 dX2_tellEvening_0 rfl ?_
  refine z_aload_n X (pc := 1) 0 dX2_tellEvening_1 rfl ?_
  refine z_get X (pc := 2) 0 3 (.int (nI a)) tu_2 tw_59 dX2_tellEvening_2 rfl rfl (by decide) rfl rfl ?_
  refine z_put X (pc := 5) 0 6 [eX2 h0 hl (nI len) pl (nI a) se ht (nI a)] tu_2 tyX2_ok nmX2 tw_63 dX2_tellEvening_5 rfl rfl (by decide) rfl rfl rfl rfl (Nat.le_of_ble_eq_true rfl) rfl ?_
  refine z_aload_n X (pc := 8) 0 dX2_tellEvening_8 rfl ?_
  refine z_get X (pc := 9) 0 3 (.int (nI a)) tu_2 tw_59 dX2_tellEvening_9 rfl rfl (by decide) rfl rfl ?_
  refine z_iconst X (pc := 12) (nI 1) dX2_tellEvening_12 (by decide) ?_
  refine z_bipush X (pc := 13) (nI 9) dX2_tellEvening_13 (by decide) ?_
  refine zc_SN (as := [.int (nI a), .int (nI 1), .int (nI 9)]) X (pc := 15) (c_X4_withinN lq D t a 1 9 (by omega) (by decide) (by decide)) tw_187 tw_182 tw_1 tw_181 [] rfl rfl dX2_tellEvening_15 rfl zdX4_within ⟨rfl, rfl, Nat.le_of_ble_eq_true rfl, Nat.le_of_ble_eq_true rfl⟩ (Nat.le_of_ble_eq_true rfl) (Nat.zero_le _) (Nat.zero_le _) (fun v_1 w_2 hp_3 => ?_)
  obtain ⟨rfl, rfl⟩ := hp_3
  refine ⟨rfl, ?_⟩
  refine z_eq (ws2 := [eX2 h0 hl (nI len) pl (nI a) se ht (nI a)]) (st2 := [.int (zb (1 ≤ a ∧ a ≤ 9))]) rfl rfl rfl ?_
  exact hR.z dX2_tellEvening_18 (zb_nar _) ⟨rfl, rfl⟩

abbrev rm_X2_readItem : Room := { frames := 4, cells := 0, slots := 0, locals := 83 }
set_option maxHeartbeats 4000000 in
set_option maxRecDepth 100000 in
theorem c_X2_readItem (lq : Launch) (D : va_G) (t : zT) (h0 hl ht len pl : Nat) (fi se : Int32) (tx d : Nat → Nat) (hlen : len ≤ 200) (hpl : pl < 700) (htx : ∀ j, tx j < 127) : Ct lq D t yX2_readItem cX2_readItem 2 (some .boolean) rm_X2_readItem [.ref h0] [eX2 h0 hl (nI len) (nI pl) fi se ht (nI (d 5)), eC t hl 200 (nf tx), eX0 ht (nI (d 0)) (nI (d 1)) (nI (d 2)) (nI (d 3)) (nI (d 4))] 0 0 (fun rv rw_ => ∃ (pl2 : Int32) (fi2 : Int32) (se2 : Int32) (d2 : Nat → Nat), (okI (chf tx len) pl → pl2 = nI (nxt (chf tx len) pl) ∧ d2 = dupd (chf tx len) pl d) ∧ rv = some (.int (zb (okI (chf tx len) pl))) ∧ rw_ = [eX2 h0 hl (nI len) pl2 fi2 se2 ht (nI (d2 5)), eC t hl 200 (nf tx), eX0 ht (nI (d2 0)) (nI (d2 1)) (nI (d2 2)) (nI (d2 3)) (nI (d2 4))]) := by
  refine Ct.of (by decide) (Nat.le_of_ble_eq_true rfl) (fun k X hR => ?_)
  have X : zX D t k cX2_readItem 2 RX2 "readItem" rm_X2_readItem lq := X
  refine z_eq (lv2 := [(0, .ref h0)]) rfl rfl rfl ?_
  refine z_aload_n X (pc := 0) 0 dX2_readItem_0 rfl ?_
  refine zc_V (as := []) X (pc := 1) (c_X2_letterHere lq D t h0 hl ht len pl fi se (nI (d 5)) tx (by omega) (by omega) htx) tw_214 tw_217 tw_2 tw_216 tw_1001 0 2 rfl rfl [0, 1] rfl rfl dX2_readItem_1 rfl zdX2_letterHere ⟨rfl, rfl, Nat.le_of_ble_eq_true rfl, Nat.le_of_ble_eq_true rfl⟩ (Nat.le_of_ble_eq_true rfl) (Nat.zero_le _) (Nat.zero_le _) (fun v_1 w_2 hp_3 => ?_)
  obtain ⟨rfl, rfl⟩ := hp_3
  refine ⟨rfl, ?_⟩
  refine z_eq (ws2 := [eX2 h0 hl (nI len) (nI pl) fi se ht (nI (d 5)), eC t hl 200 (nf tx), eX0 ht (nI (d 0)) (nI (d 1)) (nI (d 2)) (nI (d 3)) (nI (d 4))]) (st2 := [.int (nI (chf tx len pl))]) rfl rfl rfl ?_
  refine z_istore_n X (pc := 4) (i := 1) [(1, .int (nI (chf tx len pl))), (0, .ref h0)] dX2_readItem_4 rfl (by decide) rfl ?_
  refine z_aload_n X (pc := 5) 1 dX2_readItem_5 rfl ?_
  refine z_dup X (pc := 6) dX2_readItem_6 rfl ?_
  refine z_get X (pc := 7) 0 2 (.int (nI pl)) tu_2 tw_58 dX2_readItem_7 rfl rfl (by decide) rfl rfl ?_
  refine z_iconst X (pc := 10) (nI 1) dX2_readItem_10 (by decide) ?_
  refine z_iadd X (pc := 11) (v := (nI (pl + 1))) dX2_readItem_11 (nI_add pl 1) ?_
  refine z_put X (pc := 12) 0 2 [eX2 h0 hl (nI len) (nI (pl + 1)) fi se ht (nI (d 5)), eC t hl 200 (nf tx), eX0 ht (nI (d 0)) (nI (d 1)) (nI (d 2)) (nI (d 3)) (nI (d 4))] tu_2 tyX2_ok nmX2 tw_58 dX2_readItem_12 rfl rfl (by decide) rfl rfl rfl rfl (Nat.le_of_ble_eq_true rfl) rfl ?_
  refine z_iload_n X (pc := 15) 0 dX2_readItem_15 rfl ?_
  have hch := @chf_lt tx len pl htx
  by_cases h98 : chf tx len pl = 98
  · refine z_topi (nI 98) (by rw [h98]) ?_
    refine z_lookup X (pc := 16) (off := 44) 60 dX2_readItem_16 (by decide) (by decide) (by decide) ?_
    by_cases h2 : t2 (chf tx len) (pl + 1)
    · skip
      have hv1 := nvl_le h2.1
      have hv2 := nvl_le h2.2.2.1
      refine z_aload_n X (pc := 60) 1 dX2_readItem_60 rfl ?_
      refine zc_V (as := []) X (pc := 61) (c_X2_readTwoy lq D t h0 hl ht len (pl + 1) fi se (nI (d 5)) tx (by omega) (by omega) htx (by omega) h2) tw_218 tw_221 tw_2 tw_220 tw_1002 0 2 rfl rfl [0, 1] rfl rfl dX2_readItem_61 rfl zdX2_readTwo ⟨rfl, rfl, Nat.le_of_ble_eq_true rfl, Nat.le_of_ble_eq_true rfl⟩ (Nat.le_of_ble_eq_true rfl) (Nat.zero_le _) (Nat.zero_le _) (fun v_4 w_5 hp_6 => ?_)
      obtain ⟨rfl, rfl⟩ := hp_6
      refine ⟨rfl, ?_⟩
      refine z_eq (ws2 := [eX2 h0 hl (nI len) (nI (e2 (chf tx len) (pl + 1))) (nI (nvl (chf tx len) (pl + 1))) (nI (nvl (chf tx len) (e1 (chf tx len) (pl + 1)))) ht (nI (d 5)), eC t hl 200 (nf tx), eX0 ht (nI (d 0)) (nI (d 1)) (nI (d 2)) (nI (d 3)) (nI (d 4))]) (st2 := [.int (nI 1)]) rfl rfl rfl ?_
      refine z_if_eqN X (pc := 64) 78 (by omega) dX2_readItem_64 (by decide) (fun c_64 => absurd c_64 (by decide)) (fun c_64 => ?_)
      refine z_aload_n X (pc := 67) 1 dX2_readItem_67 rfl ?_
      refine zc_V (as := []) X (pc := 68) (c_X2_tellBoxes lq D t h0 hl ht len (nI (e2 (chf tx len) (pl + 1))) (nI (d 5)) (nvl (chf tx len) (pl + 1)) (nvl (chf tx len) (e1 (chf tx len) (pl + 1))) (d 0) (d 1) (d 2) (d 3) (d 4) hv1 hv2) tw_234 tw_237 tw_2 tw_236 tw_1006 0 2 rfl rfl [0, 2] rfl rfl dX2_readItem_68 rfl zdX2_tellBoxes ⟨rfl, rfl, Nat.le_of_ble_eq_true rfl, Nat.le_of_ble_eq_true rfl⟩ (Nat.le_of_ble_eq_true rfl) (Nat.zero_le _) (Nat.zero_le _) (fun v_7 w_8 hp_9 => ?_)
      obtain ⟨rfl, rfl⟩ := hp_9
      refine ⟨rfl, ?_⟩
      refine z_eq (ws2 := [eX2 h0 hl (nI len) (nI (e2 (chf tx len) (pl + 1))) (nI (nvl (chf tx len) (pl + 1))) (nI (nvl (chf tx len) (e1 (chf tx len) (pl + 1)))) ht (nI (d 5)), eC t hl 200 (nf tx), eX0 ht (nI (nvl (chf tx len) (pl + 1))) (nI (nvl (chf tx len) (e1 (chf tx len) (pl + 1)))) (nI (d 2)) (nI (d 3)) (nI (d 4))]) (st2 := [.int (zb ((nvl (chf tx len) (pl + 1)) ≤ 10 ∧ (nvl (chf tx len) (e1 (chf tx len) (pl + 1))) ≤ 10))]) rfl rfl rfl ?_
      refine z_if_eqB X (pc := 71) 78 dX2_readItem_71 (by decide) (fun c_71 => ?_) (fun c_71 => ?_)
      · skip
        refine z_iconst X (pc := 78) (nI 0) dX2_readItem_78 (by decide) ?_
        exact hR.z dX2_readItem_79 rfl ⟨(nI (e2 (chf tx len) (pl + 1))), (nI (nvl (chf tx len) (pl + 1))), (nI (nvl (chf tx len) (e1 (chf tx len) (pl + 1)))), vup (vup d 0 (nvl (chf tx len) (pl + 1))) 1 (nvl (chf tx len) (e1 (chf tx len) (pl + 1))), fun z => absurd z (by intro z; rcases z with ⟨q1, q2, q3, q4⟩ | ⟨q1, q2, q3, q4⟩ | ⟨q1, q2, q3⟩ | ⟨q1, q2, q3, q4⟩ <;> first | omega | exact absurd q2 h2 | exact absurd ⟨q3, q4⟩ c_71 | exact absurd q3 c_71), some_zb_f (by intro z; rcases z with ⟨q1, q2, q3, q4⟩ | ⟨q1, q2, q3, q4⟩ | ⟨q1, q2, q3⟩ | ⟨q1, q2, q3, q4⟩ <;> first | omega | exact absurd q2 h2 | exact absurd ⟨q3, q4⟩ c_71 | exact absurd q3 c_71), rfl⟩
      · skip
        refine z_iconst X (pc := 74) (nI 1) dX2_readItem_74 (by decide) ?_
        refine z_goto X (pc := 75) 79 dX2_readItem_75 (by decide) ?_
        exact hR.z dX2_readItem_79 rfl ⟨(nI (e2 (chf tx len) (pl + 1))), (nI (nvl (chf tx len) (pl + 1))), (nI (nvl (chf tx len) (e1 (chf tx len) (pl + 1)))), vup (vup d 0 (nvl (chf tx len) (pl + 1))) 1 (nvl (chf tx len) (e1 (chf tx len) (pl + 1))), fun _ => ⟨by rw [nxt, if_pos (Or.inl h98)], by rw [dupd, if_pos h98]⟩, some_zb_t (Or.inl ⟨h98, h2, c_71.1, c_71.2⟩), rfl⟩
    · skip
      refine z_aload_n X (pc := 60) 1 dX2_readItem_60 rfl ?_
      refine zc_V (as := []) X (pc := 61) (c_X2_readTwon lq D t h0 hl ht len (pl + 1) fi se (nI (d 5)) tx (by omega) (by omega) htx (by omega) h2) tw_218 tw_221 tw_2 tw_220 tw_1002 0 2 rfl rfl [0, 1] rfl rfl dX2_readItem_61 rfl zdX2_readTwo ⟨rfl, rfl, Nat.le_of_ble_eq_true rfl, Nat.le_of_ble_eq_true rfl⟩ (Nat.le_of_ble_eq_true rfl) (Nat.zero_le _) (Nat.zero_le _) (fun v_10 w_11 hp_12 => ?_)
      obtain ⟨pl2_13, fi2_14, se2_15, rfl, rfl⟩ := hp_12
      refine ⟨rfl, ?_⟩
      refine z_eq (ws2 := [eX2 h0 hl (nI len) pl2_13 fi2_14 se2_15 ht (nI (d 5)), eC t hl 200 (nf tx), eX0 ht (nI (d 0)) (nI (d 1)) (nI (d 2)) (nI (d 3)) (nI (d 4))]) (st2 := [.int (nI 0)]) rfl rfl rfl ?_
      refine z_if_eqN X (pc := 64) 78 (by omega) dX2_readItem_64 (by decide) (fun c_64 => ?_) (fun c_64 => absurd c_64 (by decide))
      refine z_iconst X (pc := 78) (nI 0) dX2_readItem_78 (by decide) ?_
      exact hR.z dX2_readItem_79 rfl ⟨pl2_13, fi2_14, se2_15, d, fun z => absurd z (by intro z; rcases z with ⟨q1, q2, q3, q4⟩ | ⟨q1, q2, q3, q4⟩ | ⟨q1, q2, q3⟩ | ⟨q1, q2, q3, q4⟩ <;> first | omega | exact absurd q2 h2 | exact absurd ⟨q3, q4⟩ h2 | exact absurd q3 h2), some_zb_f (by intro z; rcases z with ⟨q1, q2, q3, q4⟩ | ⟨q1, q2, q3, q4⟩ | ⟨q1, q2, q3⟩ | ⟨q1, q2, q3, q4⟩ <;> first | omega | exact absurd q2 h2 | exact absurd ⟨q3, q4⟩ h2 | exact absurd q3 h2), rfl⟩
  by_cases h104 : chf tx len pl = 104
  · refine z_topi (nI 104) (by rw [h104]) ?_
    refine z_lookup X (pc := 16) (off := 64) 80 dX2_readItem_16 (by decide) (by decide) (by decide) ?_
    by_cases h2 : t2 (chf tx len) (pl + 1)
    · skip
      have hv1 := nvl_le h2.1
      have hv2 := nvl_le h2.2.2.1
      refine z_aload_n X (pc := 80) 1 dX2_readItem_80 rfl ?_
      refine zc_V (as := []) X (pc := 81) (c_X2_readTwoy lq D t h0 hl ht len (pl + 1) fi se (nI (d 5)) tx (by omega) (by omega) htx (by omega) h2) tw_218 tw_221 tw_2 tw_220 tw_1002 0 2 rfl rfl [0, 1] rfl rfl dX2_readItem_81 rfl zdX2_readTwo ⟨rfl, rfl, Nat.le_of_ble_eq_true rfl, Nat.le_of_ble_eq_true rfl⟩ (Nat.le_of_ble_eq_true rfl) (Nat.zero_le _) (Nat.zero_le _) (fun v_16 w_17 hp_18 => ?_)
      obtain ⟨rfl, rfl⟩ := hp_18
      refine ⟨rfl, ?_⟩
      refine z_eq (ws2 := [eX2 h0 hl (nI len) (nI (e2 (chf tx len) (pl + 1))) (nI (nvl (chf tx len) (pl + 1))) (nI (nvl (chf tx len) (e1 (chf tx len) (pl + 1)))) ht (nI (d 5)), eC t hl 200 (nf tx), eX0 ht (nI (d 0)) (nI (d 1)) (nI (d 2)) (nI (d 3)) (nI (d 4))]) (st2 := [.int (nI 1)]) rfl rfl rfl ?_
      refine z_if_eqN X (pc := 84) 98 (by omega) dX2_readItem_84 (by decide) (fun c_84 => absurd c_84 (by decide)) (fun c_84 => ?_)
      refine z_aload_n X (pc := 87) 1 dX2_readItem_87 rfl ?_
      refine zc_V (as := []) X (pc := 88) (c_X2_tellHand lq D t h0 hl ht len (nI (e2 (chf tx len) (pl + 1))) (nI (d 5)) (nvl (chf tx len) (pl + 1)) (nvl (chf tx len) (e1 (chf tx len) (pl + 1))) (d 0) (d 1) (d 2) (d 3) (d 4) hv1 hv2) tw_238 tw_241 tw_2 tw_240 tw_1007 0 2 rfl rfl [0, 2] rfl rfl dX2_readItem_88 rfl zdX2_tellHand ⟨rfl, rfl, Nat.le_of_ble_eq_true rfl, Nat.le_of_ble_eq_true rfl⟩ (Nat.le_of_ble_eq_true rfl) (Nat.zero_le _) (Nat.zero_le _) (fun v_19 w_20 hp_21 => ?_)
      obtain ⟨rfl, rfl⟩ := hp_21
      refine ⟨rfl, ?_⟩
      refine z_eq (ws2 := [eX2 h0 hl (nI len) (nI (e2 (chf tx len) (pl + 1))) (nI (nvl (chf tx len) (pl + 1))) (nI (nvl (chf tx len) (e1 (chf tx len) (pl + 1)))) ht (nI (d 5)), eC t hl 200 (nf tx), eX0 ht (nI (d 0)) (nI (d 1)) (nI (d 2)) (nI (nvl (chf tx len) (pl + 1))) (nI (nvl (chf tx len) (e1 (chf tx len) (pl + 1))))]) (st2 := [.int (zb ((nvl (chf tx len) (pl + 1)) ≤ 3 ∧ (nvl (chf tx len) (e1 (chf tx len) (pl + 1))) ≤ 4))]) rfl rfl rfl ?_
      refine z_if_eqB X (pc := 91) 98 dX2_readItem_91 (by decide) (fun c_91 => ?_) (fun c_91 => ?_)
      · skip
        refine z_iconst X (pc := 98) (nI 0) dX2_readItem_98 (by decide) ?_
        exact hR.z dX2_readItem_99 rfl ⟨(nI (e2 (chf tx len) (pl + 1))), (nI (nvl (chf tx len) (pl + 1))), (nI (nvl (chf tx len) (e1 (chf tx len) (pl + 1)))), vup (vup d 3 (nvl (chf tx len) (pl + 1))) 4 (nvl (chf tx len) (e1 (chf tx len) (pl + 1))), fun z => absurd z (by intro z; rcases z with ⟨q1, q2, q3, q4⟩ | ⟨q1, q2, q3, q4⟩ | ⟨q1, q2, q3⟩ | ⟨q1, q2, q3, q4⟩ <;> first | omega | exact absurd q2 h2 | exact absurd ⟨q3, q4⟩ c_91 | exact absurd q3 c_91), some_zb_f (by intro z; rcases z with ⟨q1, q2, q3, q4⟩ | ⟨q1, q2, q3, q4⟩ | ⟨q1, q2, q3⟩ | ⟨q1, q2, q3, q4⟩ <;> first | omega | exact absurd q2 h2 | exact absurd ⟨q3, q4⟩ c_91 | exact absurd q3 c_91), rfl⟩
      · skip
        refine z_iconst X (pc := 94) (nI 1) dX2_readItem_94 (by decide) ?_
        refine z_goto X (pc := 95) 99 dX2_readItem_95 (by decide) ?_
        exact hR.z dX2_readItem_99 rfl ⟨(nI (e2 (chf tx len) (pl + 1))), (nI (nvl (chf tx len) (pl + 1))), (nI (nvl (chf tx len) (e1 (chf tx len) (pl + 1)))), vup (vup d 3 (nvl (chf tx len) (pl + 1))) 4 (nvl (chf tx len) (e1 (chf tx len) (pl + 1))), fun _ => ⟨by rw [nxt, if_pos (Or.inr h104)], by rw [dupd, if_neg (by omega), if_pos h104]⟩, some_zb_t (Or.inr (Or.inl ⟨h104, h2, c_91.1, c_91.2⟩)), rfl⟩
    · skip
      refine z_aload_n X (pc := 80) 1 dX2_readItem_80 rfl ?_
      refine zc_V (as := []) X (pc := 81) (c_X2_readTwon lq D t h0 hl ht len (pl + 1) fi se (nI (d 5)) tx (by omega) (by omega) htx (by omega) h2) tw_218 tw_221 tw_2 tw_220 tw_1002 0 2 rfl rfl [0, 1] rfl rfl dX2_readItem_81 rfl zdX2_readTwo ⟨rfl, rfl, Nat.le_of_ble_eq_true rfl, Nat.le_of_ble_eq_true rfl⟩ (Nat.le_of_ble_eq_true rfl) (Nat.zero_le _) (Nat.zero_le _) (fun v_22 w_23 hp_24 => ?_)
      obtain ⟨pl2_25, fi2_26, se2_27, rfl, rfl⟩ := hp_24
      refine ⟨rfl, ?_⟩
      refine z_eq (ws2 := [eX2 h0 hl (nI len) pl2_25 fi2_26 se2_27 ht (nI (d 5)), eC t hl 200 (nf tx), eX0 ht (nI (d 0)) (nI (d 1)) (nI (d 2)) (nI (d 3)) (nI (d 4))]) (st2 := [.int (nI 0)]) rfl rfl rfl ?_
      refine z_if_eqN X (pc := 84) 98 (by omega) dX2_readItem_84 (by decide) (fun c_84 => ?_) (fun c_84 => absurd c_84 (by decide))
      refine z_iconst X (pc := 98) (nI 0) dX2_readItem_98 (by decide) ?_
      exact hR.z dX2_readItem_99 rfl ⟨pl2_25, fi2_26, se2_27, d, fun z => absurd z (by intro z; rcases z with ⟨q1, q2, q3, q4⟩ | ⟨q1, q2, q3, q4⟩ | ⟨q1, q2, q3⟩ | ⟨q1, q2, q3, q4⟩ <;> first | omega | exact absurd q2 h2 | exact absurd ⟨q3, q4⟩ h2 | exact absurd q3 h2), some_zb_f (by intro z; rcases z with ⟨q1, q2, q3, q4⟩ | ⟨q1, q2, q3, q4⟩ | ⟨q1, q2, q3⟩ | ⟨q1, q2, q3, q4⟩ <;> first | omega | exact absurd q2 h2 | exact absurd ⟨q3, q4⟩ h2 | exact absurd q3 h2), rfl⟩
  by_cases h108 : chf tx len pl = 108
  · refine z_topi (nI 108) (by rw [h108]) ?_
    refine z_lookup X (pc := 16) (off := 84) 100 dX2_readItem_16 (by decide) (by decide) (by decide) ?_
    by_cases h2 : t1 (chf tx len) (pl + 1)
    · skip
      have hv1 := nvl_le h2.1
      refine z_aload_n X (pc := 100) 1 dX2_readItem_100 rfl ?_
      refine zc_V (as := []) X (pc := 101) (c_X2_readOney lq D t h0 hl ht len (pl + 1) fi se (nI (d 5)) tx (by omega) (by omega) htx (by omega) h2) tw_248 tw_251 tw_2 tw_250 tw_1008 0 2 rfl rfl [0, 1] rfl rfl dX2_readItem_101 rfl zdX2_readOne ⟨rfl, rfl, Nat.le_of_ble_eq_true rfl, Nat.le_of_ble_eq_true rfl⟩ (Nat.le_of_ble_eq_true rfl) (Nat.zero_le _) (Nat.zero_le _) (fun v_28 w_29 hp_30 => ?_)
      obtain ⟨rfl, rfl⟩ := hp_30
      refine ⟨rfl, ?_⟩
      refine z_eq (ws2 := [eX2 h0 hl (nI len) (nI (e1 (chf tx len) (pl + 1))) (nI (nvl (chf tx len) (pl + 1))) se ht (nI (d 5)), eC t hl 200 (nf tx), eX0 ht (nI (d 0)) (nI (d 1)) (nI (d 2)) (nI (d 3)) (nI (d 4))]) (st2 := [.int (nI 1)]) rfl rfl rfl ?_
      refine z_if_eqN X (pc := 104) 118 (by omega) dX2_readItem_104 (by decide) (fun c_104 => absurd c_104 (by decide)) (fun c_104 => ?_)
      refine z_aload_n X (pc := 107) 1 dX2_readItem_107 rfl ?_
      refine zc_V (as := []) X (pc := 108) (c_X2_tellLast lq D t h0 hl ht len (nI (e1 (chf tx len) (pl + 1))) se (nI (d 5)) (nvl (chf tx len) (pl + 1)) (d 0) (d 1) (d 2) (d 3) (d 4) hv1) tw_252 tw_255 tw_2 tw_254 tw_1009 0 2 rfl rfl [0, 2] rfl rfl dX2_readItem_108 rfl zdX2_tellLast ⟨rfl, rfl, Nat.le_of_ble_eq_true rfl, Nat.le_of_ble_eq_true rfl⟩ (Nat.le_of_ble_eq_true rfl) (Nat.zero_le _) (Nat.zero_le _) (fun v_31 w_32 hp_33 => ?_)
      obtain ⟨rfl, rfl⟩ := hp_33
      refine ⟨rfl, ?_⟩
      refine z_eq (ws2 := [eX2 h0 hl (nI len) (nI (e1 (chf tx len) (pl + 1))) (nI (nvl (chf tx len) (pl + 1))) se ht (nI (d 5)), eC t hl 200 (nf tx), eX0 ht (nI (d 0)) (nI (d 1)) (nI (nvl (chf tx len) (pl + 1))) (nI (d 3)) (nI (d 4))]) (st2 := [.int (zb ((nvl (chf tx len) (pl + 1)) ≤ 1))]) rfl rfl rfl ?_
      refine z_if_eqB X (pc := 111) 118 dX2_readItem_111 (by decide) (fun c_111 => ?_) (fun c_111 => ?_)
      · skip
        refine z_iconst X (pc := 118) (nI 0) dX2_readItem_118 (by decide) ?_
        exact hR.z dX2_readItem_119 rfl ⟨(nI (e1 (chf tx len) (pl + 1))), (nI (nvl (chf tx len) (pl + 1))), se, vup d 2 (nvl (chf tx len) (pl + 1)), fun z => absurd z (by intro z; rcases z with ⟨q1, q2, q3, q4⟩ | ⟨q1, q2, q3, q4⟩ | ⟨q1, q2, q3⟩ | ⟨q1, q2, q3, q4⟩ <;> first | omega | exact absurd q2 h2 | exact absurd ⟨q3, q4⟩ c_111 | exact absurd q3 c_111), some_zb_f (by intro z; rcases z with ⟨q1, q2, q3, q4⟩ | ⟨q1, q2, q3, q4⟩ | ⟨q1, q2, q3⟩ | ⟨q1, q2, q3, q4⟩ <;> first | omega | exact absurd q2 h2 | exact absurd ⟨q3, q4⟩ c_111 | exact absurd q3 c_111), rfl⟩
      · skip
        refine z_iconst X (pc := 114) (nI 1) dX2_readItem_114 (by decide) ?_
        refine z_goto X (pc := 115) 119 dX2_readItem_115 (by decide) ?_
        exact hR.z dX2_readItem_119 rfl ⟨(nI (e1 (chf tx len) (pl + 1))), (nI (nvl (chf tx len) (pl + 1))), se, vup d 2 (nvl (chf tx len) (pl + 1)), fun _ => ⟨by rw [nxt, if_neg (by omega)], by rw [dupd, if_neg (by omega), if_neg (by omega), if_pos h108]⟩, some_zb_t (Or.inr (Or.inr (Or.inl ⟨h108, h2, c_111⟩))), rfl⟩
    · skip
      refine z_aload_n X (pc := 100) 1 dX2_readItem_100 rfl ?_
      refine zc_V (as := []) X (pc := 101) (c_X2_readOnen lq D t h0 hl ht len (pl + 1) fi se (nI (d 5)) tx (by omega) (by omega) htx (by omega) h2) tw_248 tw_251 tw_2 tw_250 tw_1008 0 2 rfl rfl [0, 1] rfl rfl dX2_readItem_101 rfl zdX2_readOne ⟨rfl, rfl, Nat.le_of_ble_eq_true rfl, Nat.le_of_ble_eq_true rfl⟩ (Nat.le_of_ble_eq_true rfl) (Nat.zero_le _) (Nat.zero_le _) (fun v_34 w_35 hp_36 => ?_)
      obtain ⟨pl2_37, fi2_38, se2_39, rfl, rfl⟩ := hp_36
      refine ⟨rfl, ?_⟩
      refine z_eq (ws2 := [eX2 h0 hl (nI len) pl2_37 fi2_38 se2_39 ht (nI (d 5)), eC t hl 200 (nf tx), eX0 ht (nI (d 0)) (nI (d 1)) (nI (d 2)) (nI (d 3)) (nI (d 4))]) (st2 := [.int (nI 0)]) rfl rfl rfl ?_
      refine z_if_eqN X (pc := 104) 118 (by omega) dX2_readItem_104 (by decide) (fun c_104 => ?_) (fun c_104 => absurd c_104 (by decide))
      refine z_iconst X (pc := 118) (nI 0) dX2_readItem_118 (by decide) ?_
      exact hR.z dX2_readItem_119 rfl ⟨pl2_37, fi2_38, se2_39, d, fun z => absurd z (by intro z; rcases z with ⟨q1, q2, q3, q4⟩ | ⟨q1, q2, q3, q4⟩ | ⟨q1, q2, q3⟩ | ⟨q1, q2, q3, q4⟩ <;> first | omega | exact absurd q2 h2 | exact absurd ⟨q3, q4⟩ h2 | exact absurd q3 h2), some_zb_f (by intro z; rcases z with ⟨q1, q2, q3, q4⟩ | ⟨q1, q2, q3, q4⟩ | ⟨q1, q2, q3⟩ | ⟨q1, q2, q3, q4⟩ <;> first | omega | exact absurd q2 h2 | exact absurd ⟨q3, q4⟩ h2 | exact absurd q3 h2), rfl⟩
  by_cases h101 : chf tx len pl = 101
  · refine z_topi (nI 101) (by rw [h101]) ?_
    refine z_lookup X (pc := 16) (off := 104) 120 dX2_readItem_16 (by decide) (by decide) (by decide) ?_
    by_cases h2 : t1 (chf tx len) (pl + 1)
    · skip
      have hv1 := nvl_le h2.1
      refine z_aload_n X (pc := 120) 1 dX2_readItem_120 rfl ?_
      refine zc_V (as := []) X (pc := 121) (c_X2_readOney lq D t h0 hl ht len (pl + 1) fi se (nI (d 5)) tx (by omega) (by omega) htx (by omega) h2) tw_248 tw_251 tw_2 tw_250 tw_1008 0 2 rfl rfl [0, 1] rfl rfl dX2_readItem_121 rfl zdX2_readOne ⟨rfl, rfl, Nat.le_of_ble_eq_true rfl, Nat.le_of_ble_eq_true rfl⟩ (Nat.le_of_ble_eq_true rfl) (Nat.zero_le _) (Nat.zero_le _) (fun v_40 w_41 hp_42 => ?_)
      obtain ⟨rfl, rfl⟩ := hp_42
      refine ⟨rfl, ?_⟩
      refine z_eq (ws2 := [eX2 h0 hl (nI len) (nI (e1 (chf tx len) (pl + 1))) (nI (nvl (chf tx len) (pl + 1))) se ht (nI (d 5)), eC t hl 200 (nf tx), eX0 ht (nI (d 0)) (nI (d 1)) (nI (d 2)) (nI (d 3)) (nI (d 4))]) (st2 := [.int (nI 1)]) rfl rfl rfl ?_
      refine z_if_eqN X (pc := 124) 138 (by omega) dX2_readItem_124 (by decide) (fun c_124 => absurd c_124 (by decide)) (fun c_124 => ?_)
      refine z_aload_n X (pc := 127) 1 dX2_readItem_127 rfl ?_
      refine zc_V (as := []) X (pc := 128) (c_X2_tellEvening lq D t h0 hl ht len (nI (e1 (chf tx len) (pl + 1))) se (nI (d 5)) (nvl (chf tx len) (pl + 1)) hv1) tw_259 tw_262 tw_2 tw_261 tw_1010 0 2 rfl rfl [0] rfl rfl dX2_readItem_128 rfl zdX2_tellEvening ⟨rfl, rfl, Nat.le_of_ble_eq_true rfl, Nat.le_of_ble_eq_true rfl⟩ (Nat.le_of_ble_eq_true rfl) (Nat.zero_le _) (Nat.zero_le _) (fun v_43 w_44 hp_45 => ?_)
      obtain ⟨rfl, rfl⟩ := hp_45
      refine ⟨rfl, ?_⟩
      refine z_eq (ws2 := [eX2 h0 hl (nI len) (nI (e1 (chf tx len) (pl + 1))) (nI (nvl (chf tx len) (pl + 1))) se ht (nI (nvl (chf tx len) (pl + 1))), eC t hl 200 (nf tx), eX0 ht (nI (d 0)) (nI (d 1)) (nI (d 2)) (nI (d 3)) (nI (d 4))]) (st2 := [.int (zb (1 ≤ (nvl (chf tx len) (pl + 1)) ∧ (nvl (chf tx len) (pl + 1)) ≤ 9))]) rfl rfl rfl ?_
      refine z_if_eqB X (pc := 131) 138 dX2_readItem_131 (by decide) (fun c_131 => ?_) (fun c_131 => ?_)
      · skip
        refine z_iconst X (pc := 138) (nI 0) dX2_readItem_138 (by decide) ?_
        exact hR.z dX2_readItem_139 rfl ⟨(nI (e1 (chf tx len) (pl + 1))), (nI (nvl (chf tx len) (pl + 1))), se, vup d 5 (nvl (chf tx len) (pl + 1)), fun z => absurd z (by intro z; rcases z with ⟨q1, q2, q3, q4⟩ | ⟨q1, q2, q3, q4⟩ | ⟨q1, q2, q3⟩ | ⟨q1, q2, q3, q4⟩ <;> first | omega | exact absurd q2 h2 | exact absurd ⟨q3, q4⟩ c_131 | exact absurd q3 c_131), some_zb_f (by intro z; rcases z with ⟨q1, q2, q3, q4⟩ | ⟨q1, q2, q3, q4⟩ | ⟨q1, q2, q3⟩ | ⟨q1, q2, q3, q4⟩ <;> first | omega | exact absurd q2 h2 | exact absurd ⟨q3, q4⟩ c_131 | exact absurd q3 c_131), rfl⟩
      · skip
        refine z_iconst X (pc := 134) (nI 1) dX2_readItem_134 (by decide) ?_
        refine z_goto X (pc := 135) 139 dX2_readItem_135 (by decide) ?_
        exact hR.z dX2_readItem_139 rfl ⟨(nI (e1 (chf tx len) (pl + 1))), (nI (nvl (chf tx len) (pl + 1))), se, vup d 5 (nvl (chf tx len) (pl + 1)), fun _ => ⟨by rw [nxt, if_neg (by omega)], by rw [dupd, if_neg (by omega), if_neg (by omega), if_neg (by omega)]⟩, some_zb_t (Or.inr (Or.inr (Or.inr ⟨h101, h2, c_131.1, c_131.2⟩))), rfl⟩
    · skip
      refine z_aload_n X (pc := 120) 1 dX2_readItem_120 rfl ?_
      refine zc_V (as := []) X (pc := 121) (c_X2_readOnen lq D t h0 hl ht len (pl + 1) fi se (nI (d 5)) tx (by omega) (by omega) htx (by omega) h2) tw_248 tw_251 tw_2 tw_250 tw_1008 0 2 rfl rfl [0, 1] rfl rfl dX2_readItem_121 rfl zdX2_readOne ⟨rfl, rfl, Nat.le_of_ble_eq_true rfl, Nat.le_of_ble_eq_true rfl⟩ (Nat.le_of_ble_eq_true rfl) (Nat.zero_le _) (Nat.zero_le _) (fun v_46 w_47 hp_48 => ?_)
      obtain ⟨pl2_49, fi2_50, se2_51, rfl, rfl⟩ := hp_48
      refine ⟨rfl, ?_⟩
      refine z_eq (ws2 := [eX2 h0 hl (nI len) pl2_49 fi2_50 se2_51 ht (nI (d 5)), eC t hl 200 (nf tx), eX0 ht (nI (d 0)) (nI (d 1)) (nI (d 2)) (nI (d 3)) (nI (d 4))]) (st2 := [.int (nI 0)]) rfl rfl rfl ?_
      refine z_if_eqN X (pc := 124) 138 (by omega) dX2_readItem_124 (by decide) (fun c_124 => ?_) (fun c_124 => absurd c_124 (by decide))
      refine z_iconst X (pc := 138) (nI 0) dX2_readItem_138 (by decide) ?_
      exact hR.z dX2_readItem_139 rfl ⟨pl2_49, fi2_50, se2_51, d, fun z => absurd z (by intro z; rcases z with ⟨q1, q2, q3, q4⟩ | ⟨q1, q2, q3, q4⟩ | ⟨q1, q2, q3⟩ | ⟨q1, q2, q3, q4⟩ <;> first | omega | exact absurd q2 h2 | exact absurd ⟨q3, q4⟩ h2 | exact absurd q3 h2), some_zb_f (by intro z; rcases z with ⟨q1, q2, q3, q4⟩ | ⟨q1, q2, q3, q4⟩ | ⟨q1, q2, q3⟩ | ⟨q1, q2, q3, q4⟩ <;> first | omega | exact absurd q2 h2 | exact absurd ⟨q3, q4⟩ h2 | exact absurd q3 h2), rfl⟩
  refine z_lookup X (pc := 16) (off := 124) 140 dX2_readItem_16 (by decide) (by rw [nI_toInt (by omega)]; exact lk_none (by omega) (by omega) (by omega) (by omega)) (by decide) ?_
  refine z_iconst X (pc := 140) (nI 0) dX2_readItem_140 (by decide) ?_
  exact hR.z dX2_readItem_141 rfl ⟨(nI (pl + 1)), fi, se, d, fun z => absurd z (by intro z; rcases z with ⟨q1, q2, q3, q4⟩ | ⟨q1, q2, q3, q4⟩ | ⟨q1, q2, q3⟩ | ⟨q1, q2, q3, q4⟩ <;> omega), some_zb_f (by intro z; rcases z with ⟨q1, q2, q3, q4⟩ | ⟨q1, q2, q3, q4⟩ | ⟨q1, q2, q3⟩ | ⟨q1, q2, q3, q4⟩ <;> omega), rfl⟩

abbrev rm_X2_firstFault : Room := { frames := 5, cells := 0, slots := 0, locals := 104 }
set_option maxHeartbeats 4000000 in
set_option maxRecDepth 100000 in
theorem c_X2_firstFault (lq : Launch) (D : va_G) (t : zT) (h0 hl ht len : Nat) (pl fi se ev a0 a1 a2 a3 a4 : Int32) (tx : Nat → Nat) (hlen : len ≤ 200) (htx : ∀ j, tx j < 127) : Ct lq D t yX2_firstFault cX2_firstFault 3 (some .int) rm_X2_firstFault [.ref h0] [eX2 h0 hl (nI len) pl fi se ht ev, eC t hl 200 (nf tx), eX0 ht a0 a1 a2 a3 a4] 0 0 (fun rv rw_ => ∃ (pl2 : Int32) (fi2 : Int32) (se2 : Int32) (d2 : Nat → Nat), ((prs (chf tx len) len 200 0 d0).1 = none → d2 = (prs (chf tx len) len 200 0 d0).2) ∧ rv = some (.int (flt (prs (chf tx len) len 200 0 d0).1)) ∧ rw_ = [eX2 h0 hl (nI len) pl2 fi2 se2 ht (nI (d2 5)), eC t hl 200 (nf tx), eX0 ht (nI (d2 0)) (nI (d2 1)) (nI (d2 2)) (nI (d2 3)) (nI (d2 4))]) := by
  refine Ct.of (by decide) (Nat.le_of_ble_eq_true rfl) (fun k X hR => ?_)
  have X : zX D t k cX2_firstFault 3 RX2 "firstFault" rm_X2_firstFault lq := X
  refine z_eq (lv2 := [(0, .ref h0)]) rfl rfl rfl ?_
  refine z_aload_n X (pc := 0) 0 dX2_firstFault_0 rfl ?_
  refine z_get X (pc := 1) 0 5 (.ref ht) tu_2 tw_61 dX2_firstFault_1 rfl rfl (by decide) rfl rfl ?_
  refine z_bipush X (pc := 4) (nI 10) dX2_firstFault_4 (by decide) ?_
  refine z_bipush X (pc := 6) (nI 10) dX2_firstFault_6 (by decide) ?_
  refine zc_V (as := [.int (nI 10), .int (nI 10)]) X (pc := 8) (c_X0_setBoxes lq D t ht a0 a1 a2 a3 a4 (nI 10) (nI 10) ) tw_208 tw_139 tw_3 tw_137 tw_138 0 0 rfl rfl [2] rfl rfl dX2_firstFault_8 rfl zdX0_setBoxes ⟨rfl, rfl, Nat.le_of_ble_eq_true rfl, Nat.le_of_ble_eq_true rfl⟩ (Nat.le_of_ble_eq_true rfl) (Nat.zero_le _) (Nat.zero_le _) (fun v_1 w_2 hp_3 => ?_)
  obtain ⟨rfl, rfl⟩ := hp_3
  refine ⟨rfl, ?_⟩
  refine z_eq (ws2 := [eX2 h0 hl (nI len) pl fi se ht ev, eC t hl 200 (nf tx), eX0 ht (nI 10) (nI 10) a2 a3 a4]) (st2 := []) rfl rfl rfl ?_
  refine z_aload_n X (pc := 11) 0 dX2_firstFault_11 rfl ?_
  refine z_get X (pc := 12) 0 5 (.ref ht) tu_2 tw_61 dX2_firstFault_12 rfl rfl (by decide) rfl rfl ?_
  refine z_iconst X (pc := 15) (nI 0) dX2_firstFault_15 (by decide) ?_
  refine z_iconst X (pc := 16) (nI 2) dX2_firstFault_16 (by decide) ?_
  refine zc_V (as := [.int (nI 0), .int (nI 2)]) X (pc := 17) (c_X0_setHand lq D t ht (nI 10) (nI 10) a2 a3 a4 (nI 0) (nI 2) ) tw_209 tw_143 tw_3 tw_141 tw_142 0 0 rfl rfl [2] rfl rfl dX2_firstFault_17 rfl zdX0_setHand ⟨rfl, rfl, Nat.le_of_ble_eq_true rfl, Nat.le_of_ble_eq_true rfl⟩ (Nat.le_of_ble_eq_true rfl) (Nat.zero_le _) (Nat.zero_le _) (fun v_4 w_5 hp_6 => ?_)
  obtain ⟨rfl, rfl⟩ := hp_6
  refine ⟨rfl, ?_⟩
  refine z_eq (ws2 := [eX2 h0 hl (nI len) pl fi se ht ev, eC t hl 200 (nf tx), eX0 ht (nI 10) (nI 10) a2 (nI 0) (nI 2)]) (st2 := []) rfl rfl rfl ?_
  refine z_aload_n X (pc := 20) 0 dX2_firstFault_20 rfl ?_
  refine z_get X (pc := 21) 0 5 (.ref ht) tu_2 tw_61 dX2_firstFault_21 rfl rfl (by decide) rfl rfl ?_
  refine z_iconst X (pc := 24) (nI 2) dX2_firstFault_24 (by decide) ?_
  refine z_put X (pc := 25) 2 2 [eX2 h0 hl (nI len) pl fi se ht ev, eC t hl 200 (nf tx), eX0 ht (nI 10) (nI 10) (nI 2) (nI 0) (nI 2)] tu_0 tyX0_ok nmX0 tw_37 dX2_firstFault_25 rfl rfl (by decide) rfl rfl rfl rfl (Nat.le_of_ble_eq_true rfl) rfl ?_
  refine z_aload_n X (pc := 28) 0 dX2_firstFault_28 rfl ?_
  refine z_iconst X (pc := 29) (nI 3) dX2_firstFault_29 (by decide) ?_
  refine z_put X (pc := 30) 0 6 [eX2 h0 hl (nI len) pl fi se ht (nI 3), eC t hl 200 (nf tx), eX0 ht (nI 10) (nI 10) (nI 2) (nI 0) (nI 2)] tu_2 tyX2_ok nmX2 tw_63 dX2_firstFault_30 rfl rfl (by decide) rfl rfl rfl rfl (Nat.le_of_ble_eq_true rfl) rfl ?_
  refine z_aload_n X (pc := 33) 0 dX2_firstFault_33 rfl ?_
  refine z_iconst X (pc := 34) (nI 0) dX2_firstFault_34 (by decide) ?_
  refine z_put X (pc := 35) 0 2 [eX2 h0 hl (nI len) (nI 0) fi se ht (nI 3), eC t hl 200 (nf tx), eX0 ht (nI 10) (nI 10) (nI 2) (nI 0) (nI 2)] tu_2 tyX2_ok nmX2 tw_58 dX2_firstFault_35 rfl rfl (by decide) rfl rfl rfl rfl (Nat.le_of_ble_eq_true rfl) rfl ?_
  refine z_iconst X (pc := 38) (nI 0) dX2_firstFault_38 (by decide) ?_
  refine z_istore_n X (pc := 39) (i := 1) [(1, .int (nI 0)), (0, .ref h0)] dX2_firstFault_39 rfl (by decide) rfl ?_
  have loop_40 : ∀ (fuel_40 : Nat) (i : Nat) (p : Nat) (fi : Int32) (se : Int32) (d : Nat → Nat), 200 < i + fuel_40 → (i ≤ 200) → (p ≤ len) → (prs (chf tx len) len 200 0 d0 = prs (chf tx len) len (200 - i) p d) → Z D k (0, 0) [eX2 h0 hl (nI len) (nI p) fi se ht (nI (d 5)), eC t hl 200 (nf tx), eX0 ht (nI (d 0)) (nI (d 1)) (nI (d 2)) (nI (d 3)) (nI (d 4))] 40 [(0, .ref h0), (1, .int (nI i))] [] := by
    intro fuel_40
    induction fuel_40 with
    | zero =>
      intro i p fi se d hfuel_40 hi hp hpr
      exfalso; omega
    | succ fuel_40 ih_40 =>
      intro i p fi se d hfuel_40 hi hp hpr
      refine z_iload_n X (pc := 40) 1 dX2_firstFault_40 rfl ?_
      refine z_sipush X (pc := 41) (nI 200) dX2_firstFault_41 (by decide) ?_
      refine z_icmp_geN X (pc := 44) 78 (by omega) (by omega) dX2_firstFault_44 (by decide) (fun c_44 => ?_) (fun c_44 => ?_)
      · skip
        refine z_bipush X (pc := 78) (-4) dX2_firstFault_78 (by decide) ?_
        exact hR.i dX2_firstFault_80 ⟨nI p, fi, se, d, fun _ => by rw [hpr, show 200 - i = 0 by omega, prs_z], by rw [hpr, show 200 - i = 0 by omega, prs_z]; rfl, rfl⟩
      · skip
        refine z_aload_n X (pc := 47) 0 dX2_firstFault_47 rfl ?_
        refine z_get X (pc := 48) 0 2 (.int (nI p)) tu_2 tw_58 dX2_firstFault_48 rfl rfl (by decide) rfl rfl ?_
        refine z_aload_n X (pc := 51) 0 dX2_firstFault_51 rfl ?_
        refine z_get X (pc := 52) 0 1 (.int (nI len)) tu_2 tw_57 dX2_firstFault_52 rfl rfl (by decide) rfl rfl ?_
        refine z_icmp_geN X (pc := 55) 78 (by omega) (by omega) dX2_firstFault_55 (by decide) (fun c_55 => ?_) (fun c_55 => ?_)
        · skip
          refine z_bipush X (pc := 78) (-4) dX2_firstFault_78 (by decide) ?_
          exact hR.i dX2_firstFault_80 ⟨nI p, fi, se, d, fun _ => by rw [hpr, prs_end (by omega)], by rw [hpr, prs_end (by omega)]; rfl, rfl⟩
        · skip
          refine z_aload_n X (pc := 58) 0 dX2_firstFault_58 rfl ?_
          refine z_get X (pc := 59) 0 2 (.int (nI p)) tu_2 tw_58 dX2_firstFault_59 rfl rfl (by decide) rfl rfl ?_
          refine z_istore_n X (pc := 62) (i := 2) [(2, .int (nI p)), (0, .ref h0), (1, .int (nI i))] dX2_firstFault_62 rfl (by decide) rfl ?_
          refine z_aload_n X (pc := 63) 1 dX2_firstFault_63 rfl ?_
          refine zc_V (as := []) X (pc := 64) (c_X2_readItem lq D t h0 hl ht len p fi se tx d (by omega) (by omega) htx) tw_210 tw_213 tw_2 tw_212 tw_1000 0 2 rfl rfl [0, 1, 2] rfl rfl dX2_firstFault_64 rfl zdX2_readItem ⟨rfl, rfl, Nat.le_of_ble_eq_true rfl, Nat.le_of_ble_eq_true rfl⟩ (Nat.le_of_ble_eq_true rfl) (Nat.zero_le _) (Nat.zero_le _) (fun v_7 w_8 hp_9 => ?_)
          obtain ⟨pl2_10, fi2_11, se2_12, d2_13, hf_14, rfl, rfl⟩ := hp_9
          refine ⟨rfl, ?_⟩
          refine z_eq (ws2 := [eX2 h0 hl (nI len) pl2_10 fi2_11 se2_12 ht (nI (d2_13 5)), eC t hl 200 (nf tx), eX0 ht (nI (d2_13 0)) (nI (d2_13 1)) (nI (d2_13 2)) (nI (d2_13 3)) (nI (d2_13 4))]) (st2 := [.int (zb (okI (chf tx len) p))]) rfl rfl rfl ?_
          refine z_if_neB X (pc := 67) 72 dX2_firstFault_67 (by decide) (fun c_67 => ?_) (fun c_67 => ?_)
          · skip
            obtain ⟨rfl, rfl⟩ := hf_14 c_67
            have hnx := nxt_len c_67
            refine z_iinc X (pc := 72) (i := 1) 2 (nI (i + 1)) [(1, .int (nI (i + 1))), (2, .int (nI p)), (0, .ref h0)] dX2_firstFault_72 rfl (nI_incc i 1) (by decide) rfl ?_
            refine z_goto X (pc := 75) 40 dX2_firstFault_75 (by decide) ?_
            refine z_lv [2, 0] (lv2 := [(0, .ref h0), (1, .int (nI (i + 1)))]) rfl ?_
            exact ih_40 (i + 1) (nxt (chf tx len) p) fi2_11 se2_12 (dupd (chf tx len) p d) (by omega) (by omega) hnx.1 (by rw [hpr, show 200 - i = (200 - (i + 1)) + 1 by omega, prs_s, if_pos (by omega), if_pos c_67])
          · skip
            refine z_iload_n X (pc := 70) 0 dX2_firstFault_70 rfl ?_
            exact hR.i dX2_firstFault_71 ⟨pl2_10, fi2_11, se2_12, d2_13, fun z => absurd z (by rw [hpr, show 200 - i = (200 - (i + 1)) + 1 by omega, prs_s, if_pos (by omega), if_neg c_67]; exact fun z => by cases z), by rw [hpr, show 200 - i = (200 - (i + 1)) + 1 by omega, prs_s, if_pos (by omega), if_neg c_67]; rfl, rfl⟩
  refine z_eq (ws2 := [eX2 h0 hl (nI len) (nI 0) fi se ht (nI (d0 5)), eC t hl 200 (nf tx), eX0 ht (nI (d0 0)) (nI (d0 1)) (nI (d0 2)) (nI (d0 3)) (nI (d0 4))]) rfl rfl rfl ?_
  refine z_lv [1, 0] (lv2 := [(0, .ref h0), (1, .int (nI 0))]) rfl ?_
  exact loop_40 201 0 0 fi se d0 (by omega) (by omega) (by omega) rfl

abbrev rm_X2_appendy : Room := { frames := 1, cells := 0, slots := 0, locals := 22 }
set_option maxHeartbeats 4000000 in
set_option maxRecDepth 100000 in
theorem c_X2_appendy (lq : Launch) (D : va_G) (t : zT) (h0 hl ht len lt : Nat) (pl fi se ev : Int32) (tx : Nat → Nat) (hlt : lt < 127) (hlen : len ≤ 200) (hd : len < 200) : Ct lq D t yX2_append cX2_append 2 (some .boolean) rm_X2_appendy [.ref h0, .int (nI lt)] [eX2 h0 hl (nI len) pl fi se ht ev, eC t hl 200 (nf tx)] 0 0 (fun rv rw_ => rv = some (.int (nI 1)) ∧ rw_ = [eX2 h0 hl (nI (len + 1)) pl fi se ht ev, eC t hl 200 (nf (vup tx len lt))]) := by
  refine Ct.of (by decide) (Nat.le_of_ble_eq_true rfl) (fun k X hR => ?_)
  have X : zX D t k cX2_append 2 RX2 "append" rm_X2_appendy lq := X
  refine z_eq (lv2 := [(0, .ref h0), (1, .int (nI lt))]) rfl rfl rfl ?_
  refine z_aload_n X (pc := 0) 0 dX2_append_0 rfl ?_
  refine z_get X (pc := 1) 0 1 (.int (nI len)) tu_2 tw_57 dX2_append_1 rfl rfl (by decide) rfl rfl ?_
  refine z_iconst X (pc := 4) (nI 0) dX2_append_4 (by decide) ?_
  refine z_sipush X (pc := 5) (nI 199) dX2_append_5 (by decide) ?_
  refine zc_SN (as := [.int (nI len), .int (nI 0), .int (nI 199)]) X (pc := 8) (c_X4_withinN lq D t len 0 199 (by omega) (by decide) (by decide)) tw_187 tw_182 tw_1 tw_181 [] rfl rfl dX2_append_8 rfl zdX4_within ⟨rfl, rfl, Nat.le_of_ble_eq_true rfl, Nat.le_of_ble_eq_true rfl⟩ (Nat.le_of_ble_eq_true rfl) (Nat.zero_le _) (Nat.zero_le _) (fun v_1 w_2 hp_3 => ?_)
  obtain ⟨rfl, rfl⟩ := hp_3
  refine ⟨rfl, ?_⟩
  refine z_eq (ws2 := [eX2 h0 hl (nI len) pl fi se ht ev, eC t hl 200 (nf tx)]) (st2 := [.int (zb (0 ≤ len ∧ len ≤ 199))]) rfl rfl rfl ?_
  refine z_if_neB X (pc := 11) 16 dX2_append_11 (by decide) (fun c_11 => ?_) (fun c_11 => absurd c_11 (by omega))
  refine z_aload_n X (pc := 16) 0 dX2_append_16 rfl ?_
  refine z_get X (pc := 17) 0 0 (.ref hl) tu_2 tw_56 dX2_append_17 rfl rfl (by decide) rfl rfl ?_
  refine z_aload_n X (pc := 20) 0 dX2_append_20 rfl ?_
  refine z_get X (pc := 21) 0 1 (.int (nI len)) tu_2 tw_57 dX2_append_21 rfl rfl (by decide) rfl rfl ?_
  refine z_iload_n X (pc := 24) 1 dX2_append_24 rfl ?_
  refine z_cast X (pc := 25) 1 len (nf (vup tx len lt)) [eX2 h0 hl (nI len) pl fi se ht ev, eC t hl 200 (nf (vup tx len lt))] dX2_append_25 rfl rfl (Nat.le_of_ble_eq_true rfl) (by omega) (by rw [vnar_char (by omega), upd_nf]) rfl ?_
  refine z_aload_n X (pc := 26) 0 dX2_append_26 rfl ?_
  refine z_dup X (pc := 27) dX2_append_27 rfl ?_
  refine z_get X (pc := 28) 0 1 (.int (nI len)) tu_2 tw_57 dX2_append_28 rfl rfl (by decide) rfl rfl ?_
  refine z_iconst X (pc := 31) (nI 1) dX2_append_31 (by decide) ?_
  refine z_iadd X (pc := 32) (v := (nI (len + 1))) dX2_append_32 (nI_add len 1) ?_
  refine z_put X (pc := 33) 0 1 [eX2 h0 hl (nI (len + 1)) pl fi se ht ev, eC t hl 200 (nf (vup tx len lt))] tu_2 tyX2_ok nmX2 tw_57 dX2_append_33 rfl rfl (by decide) rfl rfl rfl rfl (Nat.le_of_ble_eq_true rfl) rfl ?_
  refine z_iconst X (pc := 36) (nI 1) dX2_append_36 (by decide) ?_
  exact hR.z dX2_append_37 rfl ⟨rfl, rfl⟩

abbrev rm_X2_appendn : Room := { frames := 1, cells := 0, slots := 0, locals := 22 }
set_option maxHeartbeats 4000000 in
set_option maxRecDepth 100000 in
theorem c_X2_appendn (lq : Launch) (D : va_G) (t : zT) (h0 hl ht len lt : Nat) (pl fi se ev : Int32) (tx : Nat → Nat) (hlt : lt < 127) (hlen : len ≤ 200) (hd : ¬ len < 200) : Ct lq D t yX2_append cX2_append 2 (some .boolean) rm_X2_appendn [.ref h0, .int (nI lt)] [eX2 h0 hl (nI len) pl fi se ht ev, eC t hl 200 (nf tx)] 0 0 (fun rv rw_ => rv = some (.int (nI 0)) ∧ rw_ = [eX2 h0 hl (nI len) pl fi se ht ev, eC t hl 200 (nf tx)]) := by
  refine Ct.of (by decide) (Nat.le_of_ble_eq_true rfl) (fun k X hR => ?_)
  have X : zX D t k cX2_append 2 RX2 "append" rm_X2_appendn lq := X
  refine z_eq (lv2 := [(0, .ref h0), (1, .int (nI lt))]) rfl rfl rfl ?_
  refine z_aload_n X (pc := 0) 0 dX2_append_0 rfl ?_
  refine z_get X (pc := 1) 0 1 (.int (nI len)) tu_2 tw_57 dX2_append_1 rfl rfl (by decide) rfl rfl ?_
  refine z_iconst X (pc := 4) (nI 0) dX2_append_4 (by decide) ?_
  refine z_sipush X (pc := 5) (nI 199) dX2_append_5 (by decide) ?_
  refine zc_SN (as := [.int (nI len), .int (nI 0), .int (nI 199)]) X (pc := 8) (c_X4_withinN lq D t len 0 199 (by omega) (by decide) (by decide)) tw_187 tw_182 tw_1 tw_181 [] rfl rfl dX2_append_8 rfl zdX4_within ⟨rfl, rfl, Nat.le_of_ble_eq_true rfl, Nat.le_of_ble_eq_true rfl⟩ (Nat.le_of_ble_eq_true rfl) (Nat.zero_le _) (Nat.zero_le _) (fun v_1 w_2 hp_3 => ?_)
  obtain ⟨rfl, rfl⟩ := hp_3
  refine ⟨rfl, ?_⟩
  refine z_eq (ws2 := [eX2 h0 hl (nI len) pl fi se ht ev, eC t hl 200 (nf tx)]) (st2 := [.int (zb (0 ≤ len ∧ len ≤ 199))]) rfl rfl rfl ?_
  refine z_if_neB X (pc := 11) 16 dX2_append_11 (by decide) (fun c_11 => absurd c_11 (by omega)) (fun c_11 => ?_)
  refine z_iconst X (pc := 14) (nI 0) dX2_append_14 (by decide) ?_
  exact hR.z dX2_append_15 rfl ⟨rfl, rfl⟩

abbrev rm_X2_size : Room := { frames := 0, cells := 0, slots := 0, locals := 0 }
set_option maxHeartbeats 4000000 in
set_option maxRecDepth 100000 in
theorem c_X2_size (lq : Launch) (D : va_G) (t : zT) (h0 hl ht len : Nat) (pl fi se ev : Int32)  : Ct lq D t yX2_size cX2_size 1 (some .int) rm_X2_size [.ref h0] [eX2 h0 hl (nI len) pl fi se ht ev] 0 0 (fun rv rw_ => rv = some (.int (nI len)) ∧ rw_ = [eX2 h0 hl (nI len) pl fi se ht ev]) := by
  refine Ct.of (by decide) (Nat.le_of_ble_eq_true rfl) (fun k X hR => ?_)
  have X : zX D t k cX2_size 1 RX2 "size" rm_X2_size lq := X
  refine z_eq (lv2 := [(0, .ref h0)]) rfl rfl rfl ?_
  refine z_aload_n X (pc := 0) 0 dX2_size_0 rfl ?_
  refine z_get X (pc := 1) 0 1 (.int (nI len)) tu_2 tw_57 dX2_size_1 rfl rfl (by decide) rfl rfl ?_
  exact hR.i dX2_size_4 ⟨rfl, rfl⟩

abbrev rm_X2_clear : Room := { frames := 0, cells := 0, slots := 0, locals := 0 }
set_option maxHeartbeats 4000000 in
set_option maxRecDepth 100000 in
theorem c_X2_clear (lq : Launch) (D : va_G) (t : zT) (h0 hl ht len : Nat) (pl fi se ev : Int32)  : Ct lq D t yX2_clear cX2_clear 1 none rm_X2_clear [.ref h0] [eX2 h0 hl (nI len) pl fi se ht ev] 0 0 (fun rv rw_ => rv = none ∧ rw_ = [eX2 h0 hl (nI 0) pl fi se ht ev]) := by
  refine Ct.of (by decide) (Nat.le_of_ble_eq_true rfl) (fun k X hR => ?_)
  have X : zX D t k cX2_clear 1 RX2 "clear" rm_X2_clear lq := X
  refine z_eq (lv2 := [(0, .ref h0)]) rfl rfl rfl ?_
  refine z_aload_n X (pc := 0) 0 dX2_clear_0 rfl ?_
  refine z_iconst X (pc := 1) (nI 0) dX2_clear_1 (by decide) ?_
  refine z_put X (pc := 2) 0 1 [eX2 h0 hl (nI 0) pl fi se ht ev] tu_2 tyX2_ok nmX2 tw_57 dX2_clear_2 rfl rfl (by decide) rfl rfl rfl rfl (Nat.le_of_ble_eq_true rfl) rfl ?_
  exact hR.v dX2_clear_5 ⟨rfl, rfl⟩
