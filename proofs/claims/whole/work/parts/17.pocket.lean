/-! PART 17: EitherPocket: coats, acts, seen, kept -/
theorem prs_lt {c : Nat → Nat} {len : Nat} : ∀ {f p : Nat} {d : Nat → Nat} {q : Nat}, (prs c len f p d).1 = some q → q < len
  | 0, p, d, q, h => by rw [prs_z] at h; cases h
  | f + 1, p, d, q, h => by
    rw [prs_s] at h
    split at h
    · split at h
      · exact prs_lt h
      · cases h; assumption
    · cases h
theorem flt_ne (p : Nat) {len : Nat} (h : p < len) (hl : len ≤ 200) : ¬ flt (some p) = -4 := by
  intro z
  have z2 : nI p = -4 := z
  have := nI_pos (n := p) (by omega)
  rw [z2] at this
  exact this (by decide)
theorem hbad {e f : Int32} (h : ¬ ((nI 0 ≤ e ∧ e ≤ nI 3) ∧ (nI 0 ≤ f ∧ f ≤ nI 4))) : dz 0 3 e = none ∨ dz 0 4 f = none := by
  by_cases h1 : nI 0 ≤ e ∧ e ≤ nI 3
  · exact Or.inr (dz_bad (fun z => h ⟨h1, z⟩))
  · exact Or.inl (dz_bad h1)
theorem ok2_none {o q : Option Nat} (h : o = none ∨ q = none) : ok2 o q = false := by
  rcases h with rfl | rfl
  · cases q <;> rfl
  · cases o <;> rfl
theorem an_hand_bad {s : Nat → Nat} {e f : Int32} (h : ¬ ((nI 0 ≤ e ∧ e ≤ nI 3) ∧ (nI 0 ≤ f ∧ f ≤ nI 4))) : an_hand s (dz 0 3 e) (dz 0 4 f) = -1 := by
  rcases hbad h with q | q <;> rw [q]
  · cases dz 0 4 f <;> rfl
  · cases dz 0 3 e <;> rfl
theorem nx_hand_bad {s : Nat → Nat} {e f : Int32} (h : ¬ ((nI 0 ≤ e ∧ e ≤ nI 3) ∧ (nI 0 ≤ f ∧ f ≤ nI 4))) : nx_hand s (dz 0 3 e) (dz 0 4 f) = s := by
  rcases hbad h with q | q <;> rw [q]
  · cases dz 0 4 f <;> rfl
  · cases dz 0 3 e <;> rfl
theorem ok2_bad {e f : Int32} (h : ¬ ((nI 0 ≤ e ∧ e ≤ nI 3) ∧ (nI 0 ≤ f ∧ f ≤ nI 4))) : ok2 (dz 0 3 e) (dz 0 4 f) = false := ok2_none (hbad h)
theorem an_put_lt {s : Nat → Nat} {sd q : Nat} (h : s sd < q) : an_put s (some sd) (some q) = -2 := if_pos h
theorem an_put_full {s : Nat → Nat} {sd q : Nat} (h : ¬ s sd < q) (h2 : 10 < s (1 - sd) + q) : an_put s (some sd) (some q) = -3 := (if_neg h).trans (if_pos h2)
theorem an_put_ok {s : Nat → Nat} {sd q : Nat} (h : ¬ s sd < q) (h2 : ¬ 10 < s (1 - sd) + q) : an_put s (some sd) (some q) = nI (s sd - q) := (if_neg h).trans (if_neg h2)
theorem nx_put_lt {s : Nat → Nat} {sd q : Nat} (h : s sd < q) : nx_put s (some sd) (some q) = s ∧ ok_put s (some sd) (some q) = false := ⟨if_neg (by omega), decide_eq_false (by omega)⟩
theorem nx_put_full {s : Nat → Nat} {sd q : Nat} (_ : ¬ s sd < q) (h2 : 10 < s (1 - sd) + q) : nx_put s (some sd) (some q) = s ∧ ok_put s (some sd) (some q) = false := ⟨if_neg (by omega), decide_eq_false (by omega)⟩
theorem nx_put_ok {s : Nat → Nat} {sd q : Nat} (h : ¬ s sd < q) (h2 : ¬ 10 < s (1 - sd) + q) : nx_put s (some sd) (some q) = vup (vup s sd (s sd - q)) (1 - sd) (s (1 - sd) + q) ∧ ok_put s (some sd) (some q) = true := ⟨if_pos (by omega), decide_eq_true (by omega)⟩
theorem tout {e : Int32} {n : Nat} (h : ¬ (nI 0 ≤ e ∧ e ≤ nI n)) (hn : n < 2 ^ 31 := by decide) : e.toInt < 0 ∨ (n : Int) < e.toInt := by
  simp only [Int32.le_iff_toInt_le, nI_toInt hn, nI_toInt (show 0 < 2 ^ 31 by decide)] at h
  omega
abbrev rm_X4_write : Room := { frames := 2, cells := 0, slots := 0, locals := 43 }
set_option maxHeartbeats 4000000 in
set_option maxRecDepth 100000 in
theorem c_X4_write (lq : Launch) (D : va_G) (t : zT) (h hT hN hU hA hK hW hL hZ sg ev : Nat) (hB hD ty : Nat) (pl fi se tev : Int32) (tx : Nat → Nat) (e : Int32) (hty9 : ty ≤ 200) : Ct lq D t yX4_write cX4_write 2 (some .int) rm_X4_write [.ref h, .int e] [eX4 h hT hN hU hA hK hW hL hZ (nI sg) (nI ev), eX2 hT hB (nI ty) pl fi se hD tev, eC t hB 200 (nf tx)] 0 0 (fun rv rw_ => rv = some (.int (an_write ty (dz 32 126 e))) ∧ rw_ = [eX4 h hT hN hU hA hK hW hL hZ (nI sg) (nI ev), eX2 hT hB (nI (nx_ty ty (dz 32 126 e))) pl fi se hD tev, eC t hB 200 (nf (nx_tx tx ty (dz 32 126 e)))]) := by
  refine Ct.of (by decide) (Nat.le_of_ble_eq_true rfl) (fun k X hRet => ?_)
  have X : zX D t k cX4_write 2 RX4 "write" rm_X4_write lq := X
  refine z_eq (lv2 := [(0, .ref h), (1, .int e)]) rfl rfl rfl ?_
  refine z_iload_n X (pc := 0) 1 dX4_write_0 rfl ?_
  refine z_bipush X (pc := 1) (nI 32) dX4_write_1 (by decide) ?_
  refine z_bipush X (pc := 3) (nI 126) dX4_write_3 (by decide) ?_
  refine zc_S (as := [.int e, .int (nI 32), .int (nI 126)]) X (pc := 5) (c_X4_within lq D t e (nI 32) (nI 126) ) tw_180 tw_182 tw_1 tw_181 [] rfl rfl dX4_write_5 rfl zdX4_within ⟨rfl, rfl, Nat.le_of_ble_eq_true rfl, Nat.le_of_ble_eq_true rfl⟩ (Nat.le_of_ble_eq_true rfl) (Nat.zero_le _) (Nat.zero_le _) (fun v_1 w_2 hp_3 => ?_)
  obtain ⟨rfl, rfl⟩ := hp_3
  refine ⟨rfl, ?_⟩
  refine z_eq (ws2 := [eX4 h hT hN hU hA hK hW hL hZ (nI sg) (nI ev), eX2 hT hB (nI ty) pl fi se hD tev, eC t hB 200 (nf tx)]) (st2 := [.int (zb ((nI 32) ≤ e ∧ e ≤ (nI 126)))]) rfl rfl rfl ?_
  refine z_if_neB X (pc := 8) 13 dX4_write_8 (by decide) (fun c_8 => ?_) (fun c_8 => ?_)
  · skip
    obtain ⟨c, c_lo, c_hi, rfl⟩ := inR (by decide) (by decide) c_8
    by_cases hty : ty < 200
    · skip
      refine z_aload_n X (pc := 13) 0 dX4_write_13 rfl ?_
      refine z_get X (pc := 14) 0 0 (.ref hT) tu_4 tw_144 dX4_write_14 rfl rfl (by decide) rfl rfl ?_
      refine z_iload_n X (pc := 17) 1 dX4_write_17 rfl ?_
      refine z_i2c X (pc := 18) (v := (((nI c).toUInt32 % 65536).toInt32)) dX4_write_18 rfl ?_
      refine z_topi (nI c) (i2c_nI (by omega)) ?_
      refine zc_V (as := [.int (nI c)]) X (pc := 19) (c_X2_appendy lq D t hT hB hD ty c pl fi se tev tx (by omega) (by omega) hty) tw_183 tw_186 tw_2 tw_184 tw_185 0 2 rfl rfl [1, 2] rfl rfl dX4_write_19 rfl zdX2_append ⟨rfl, rfl, Nat.le_of_ble_eq_true rfl, Nat.le_of_ble_eq_true rfl⟩ (Nat.le_of_ble_eq_true rfl) (Nat.zero_le _) (Nat.zero_le _) (fun v_4 w_5 hp_6 => ?_)
      obtain ⟨rfl, rfl⟩ := hp_6
      refine ⟨rfl, ?_⟩
      refine z_eq (ws2 := [eX4 h hT hN hU hA hK hW hL hZ (nI sg) (nI ev), eX2 hT hB (nI (ty + 1)) pl fi se hD tev, eC t hB 200 (nf (vup tx ty c))]) (st2 := [.int (nI 1)]) rfl rfl rfl ?_
      refine z_if_eqN X (pc := 22) 35 (by omega) dX4_write_22 (by decide) (fun c_22 => absurd c_22 (by decide)) (fun c_22 => ?_)
      refine z_aload_n X (pc := 25) 0 dX4_write_25 rfl ?_
      refine z_get X (pc := 26) 0 0 (.ref hT) tu_4 tw_144 dX4_write_26 rfl rfl (by decide) rfl rfl ?_
      refine zc_V (as := []) X (pc := 29) (c_X2_size lq D t hT hB hD (ty + 1) pl fi se tev ) tw_188 tw_191 tw_2 tw_189 tw_190 0 2 rfl rfl [1] rfl rfl dX4_write_29 rfl zdX2_size ⟨rfl, rfl, Nat.le_of_ble_eq_true rfl, Nat.le_of_ble_eq_true rfl⟩ (Nat.le_of_ble_eq_true rfl) (Nat.zero_le _) (Nat.zero_le _) (fun v_7 w_8 hp_9 => ?_)
      obtain ⟨rfl, rfl⟩ := hp_9
      refine ⟨rfl, ?_⟩
      refine z_eq (ws2 := [eX4 h hT hN hU hA hK hW hL hZ (nI sg) (nI ev), eX2 hT hB (nI (ty + 1)) pl fi se hD tev, eC t hB 200 (nf (vup tx ty c))]) (st2 := [.int (nI (ty + 1))]) rfl rfl rfl ?_
      refine z_goto X (pc := 32) 37 dX4_write_32 (by decide) ?_
      exact hRet.i dX4_write_37 ⟨by rw [dz_ok (by decide) c_lo c_hi]; simp only [an_write, if_pos hty], by rw [dz_ok (by decide) c_lo c_hi]; simp only [nx_ty, nx_tx, if_pos hty]⟩
    · skip
      refine z_aload_n X (pc := 13) 0 dX4_write_13 rfl ?_
      refine z_get X (pc := 14) 0 0 (.ref hT) tu_4 tw_144 dX4_write_14 rfl rfl (by decide) rfl rfl ?_
      refine z_iload_n X (pc := 17) 1 dX4_write_17 rfl ?_
      refine z_i2c X (pc := 18) (v := (((nI c).toUInt32 % 65536).toInt32)) dX4_write_18 rfl ?_
      refine z_topi (nI c) (i2c_nI (by omega)) ?_
      refine zc_V (as := [.int (nI c)]) X (pc := 19) (c_X2_appendn lq D t hT hB hD ty c pl fi se tev tx (by omega) (by omega) hty) tw_183 tw_186 tw_2 tw_184 tw_185 0 2 rfl rfl [1, 2] rfl rfl dX4_write_19 rfl zdX2_append ⟨rfl, rfl, Nat.le_of_ble_eq_true rfl, Nat.le_of_ble_eq_true rfl⟩ (Nat.le_of_ble_eq_true rfl) (Nat.zero_le _) (Nat.zero_le _) (fun v_10 w_11 hp_12 => ?_)
      obtain ⟨rfl, rfl⟩ := hp_12
      refine ⟨rfl, ?_⟩
      refine z_eq (ws2 := [eX4 h hT hN hU hA hK hW hL hZ (nI sg) (nI ev), eX2 hT hB (nI ty) pl fi se hD tev, eC t hB 200 (nf tx)]) (st2 := [.int (nI 0)]) rfl rfl rfl ?_
      refine z_if_eqN X (pc := 22) 35 (by omega) dX4_write_22 (by decide) (fun c_22 => ?_) (fun c_22 => absurd c_22 (by decide))
      refine z_bipush X (pc := 35) (-3) dX4_write_35 (by decide) ?_
      exact hRet.i dX4_write_37 ⟨by rw [dz_ok (by decide) c_lo c_hi]; simp only [an_write, if_neg hty], by rw [dz_ok (by decide) c_lo c_hi]; simp only [nx_ty, nx_tx, if_neg hty]⟩
  · skip
    refine z_iconst X (pc := 11) (-1) dX4_write_11 (by decide) ?_
    exact hRet.i dX4_write_12 ⟨by rw [dz_bad c_8]; rfl, by rw [dz_bad c_8]; rfl⟩

abbrev rm_X4_wipe : Room := { frames := 1, cells := 0, slots := 0, locals := 20 }
set_option maxHeartbeats 4000000 in
set_option maxRecDepth 100000 in
theorem c_X4_wipe (lq : Launch) (D : va_G) (t : zT) (h hT hN hU hA hK hW hL hZ sg ev : Nat) (hB hD ty : Nat) (pl fi se tev : Int32) (tx : Nat → Nat)  : Ct lq D t yX4_wipe cX4_wipe 2 (some .int) rm_X4_wipe [.ref h] [eX4 h hT hN hU hA hK hW hL hZ (nI sg) (nI ev), eX2 hT hB (nI ty) pl fi se hD tev] 0 0 (fun rv rw_ => rv = some (.int (nI ty)) ∧ rw_ = [eX4 h hT hN hU hA hK hW hL hZ (nI sg) (nI ev), eX2 hT hB (nI 0) pl fi se hD tev]) := by
  refine Ct.of (by decide) (Nat.le_of_ble_eq_true rfl) (fun k X hRet => ?_)
  have X : zX D t k cX4_wipe 2 RX4 "wipe" rm_X4_wipe lq := X
  refine z_eq (lv2 := [(0, .ref h)]) rfl rfl rfl ?_
  refine z_aload_n X (pc := 0) 0 dX4_wipe_0 rfl ?_
  refine z_get X (pc := 1) 0 0 (.ref hT) tu_4 tw_144 dX4_wipe_1 rfl rfl (by decide) rfl rfl ?_
  refine zc_V (as := []) X (pc := 4) (c_X2_size lq D t hT hB hD ty pl fi se tev ) tw_188 tw_191 tw_2 tw_189 tw_190 0 2 rfl rfl [1] rfl rfl dX4_wipe_4 rfl zdX2_size ⟨rfl, rfl, Nat.le_of_ble_eq_true rfl, Nat.le_of_ble_eq_true rfl⟩ (Nat.le_of_ble_eq_true rfl) (Nat.zero_le _) (Nat.zero_le _) (fun v_1 w_2 hp_3 => ?_)
  obtain ⟨rfl, rfl⟩ := hp_3
  refine ⟨rfl, ?_⟩
  refine z_eq (ws2 := [eX4 h hT hN hU hA hK hW hL hZ (nI sg) (nI ev), eX2 hT hB (nI ty) pl fi se hD tev]) (st2 := [.int (nI ty)]) rfl rfl rfl ?_
  refine z_istore_n X (pc := 7) (i := 1) [(1, .int (nI ty)), (0, .ref h)] dX4_wipe_7 rfl (by decide) rfl ?_
  refine z_aload_n X (pc := 8) 1 dX4_wipe_8 rfl ?_
  refine z_get X (pc := 9) 0 0 (.ref hT) tu_4 tw_144 dX4_wipe_9 rfl rfl (by decide) rfl rfl ?_
  refine zc_V (as := []) X (pc := 12) (c_X2_clear lq D t hT hB hD ty pl fi se tev ) tw_196 tw_199 tw_2 tw_197 tw_198 0 2 rfl rfl [1] rfl rfl dX4_wipe_12 rfl zdX2_clear ⟨rfl, rfl, Nat.le_of_ble_eq_true rfl, Nat.le_of_ble_eq_true rfl⟩ (Nat.le_of_ble_eq_true rfl) (Nat.zero_le _) (Nat.zero_le _) (fun v_4 w_5 hp_6 => ?_)
  obtain ⟨rfl, rfl⟩ := hp_6
  refine ⟨rfl, ?_⟩
  refine z_eq (ws2 := [eX4 h hT hN hU hA hK hW hL hZ (nI sg) (nI ev), eX2 hT hB (nI 0) pl fi se hD tev]) (st2 := []) rfl rfl rfl ?_
  refine z_iload_n X (pc := 15) 0 dX4_wipe_15 rfl ?_
  exact hRet.i dX4_wipe_16 ⟨rfl, rfl⟩

abbrev rm_X4_fault : Room := { frames := 6, cells := 0, slots := 0, locals := 126 }
set_option maxHeartbeats 4000000 in
set_option maxRecDepth 100000 in
theorem c_X4_fault (lq : Launch) (D : va_G) (t : zT) (h hT hN hU hA hK hW hL hZ sg ev : Nat) (hB hD ty : Nat) (pl fi se tev : Int32) (tx : Nat → Nat) (a0 a1 a2 a3 a4 : Int32) (hty9 : ty ≤ 200) (htx : ∀ j, tx j < 127) : Ct lq D t yX4_fault cX4_fault 1 (some .int) rm_X4_fault [.ref h] [eX4 h hT hN hU hA hK hW hL hZ (nI sg) (nI ev), eX2 hT hB (nI ty) pl fi se hD tev, eC t hB 200 (nf tx), eX0 hD a0 a1 a2 a3 a4] 0 0 (fun rv rw_ => ∃ (pl2 : Int32) (fi2 : Int32) (se2 : Int32) (d2 : Nat → Nat), rv = some (.int (flt (pr tx ty).1)) ∧ rw_ = [eX4 h hT hN hU hA hK hW hL hZ (nI sg) (nI ev), eX2 hT hB (nI ty) pl2 fi2 se2 hD (nI (d2 5)), eC t hB 200 (nf tx), eX0 hD (nI (d2 0)) (nI (d2 1)) (nI (d2 2)) (nI (d2 3)) (nI (d2 4))]) := by
  refine Ct.of (by decide) (Nat.le_of_ble_eq_true rfl) (fun k X hRet => ?_)
  have X : zX D t k cX4_fault 1 RX4 "fault" rm_X4_fault lq := X
  refine z_eq (lv2 := [(0, .ref h)]) rfl rfl rfl ?_
  refine z_aload_n X (pc := 0) 0 dX4_fault_0 rfl ?_
  refine z_get X (pc := 1) 0 0 (.ref hT) tu_4 tw_144 dX4_fault_1 rfl rfl (by decide) rfl rfl ?_
  refine zc_V (as := []) X (pc := 4) (c_X2_firstFault lq D t hT hB hD ty pl fi se tev a0 a1 a2 a3 a4 tx (by omega) htx) tw_204 tw_207 tw_2 tw_205 tw_206 0 2 rfl rfl [1, 2, 3] rfl rfl dX4_fault_4 rfl zdX2_firstFault ⟨rfl, rfl, Nat.le_of_ble_eq_true rfl, Nat.le_of_ble_eq_true rfl⟩ (Nat.le_of_ble_eq_true rfl) (Nat.zero_le _) (Nat.zero_le _) (fun v_1 w_2 hp_3 => ?_)
  obtain ⟨pl2_4, fi2_5, se2_6, d2_7, hf_8, rfl, rfl⟩ := hp_3
  refine ⟨rfl, ?_⟩
  refine z_eq (ws2 := [eX4 h hT hN hU hA hK hW hL hZ (nI sg) (nI ev), eX2 hT hB (nI ty) pl2_4 fi2_5 se2_6 hD (nI (d2_7 5)), eC t hB 200 (nf tx), eX0 hD (nI (d2_7 0)) (nI (d2_7 1)) (nI (d2_7 2)) (nI (d2_7 3)) (nI (d2_7 4))]) (st2 := [.int (flt (prs (chf tx ty) ty 200 0 d0).1)]) rfl rfl rfl ?_
  exact hRet.i dX4_fault_7 ⟨pl2_4, fi2_5, se2_6, d2_7, rfl, rfl⟩

abbrev rm_X4_lay : Room := { frames := 6, cells := 0, slots := 0, locals := 126 }
set_option maxHeartbeats 4000000 in
set_option maxRecDepth 100000 in
theorem c_X4_lay (lq : Launch) (D : va_G) (t : zT) (h hT hN hU hA hK hW hL hZ sg ev : Nat) (hB hD ty : Nat) (pl fi se tev : Int32) (tx : Nat → Nat) (a0 a1 a2 a3 a4 : Int32) (s : Nat → Nat) (hAA kn hKA kp : Nat) (hty9 : ty ≤ 200) (htx : ∀ j, tx j < 127) : Ct lq D t yX4_lay cX4_lay 1 (some .int) rm_X4_lay [.ref h] [eX4 h hT hN hU hA hK hW hL hZ (nI sg) (nI ev), eX2 hT hB (nI ty) pl fi se hD tev, eC t hB 200 (nf tx), eX0 hD a0 a1 a2 a3 a4, eX0 hN (nI (s 0)) (nI (s 1)) (nI (s 2)) (nI (s 3)) (nI (s 4)), eX1 hA hAA (nI kn), eX1 hK hKA (nI kp)] 0 0 (fun rv rw_ => ∃ (pl2 : Int32) (fi2 : Int32) (se2 : Int32) (d2 : Nat → Nat), rv = some (.int (an_lay (pr tx ty))) ∧ rw_ = [eX4 h hT hN hU hA hK hW hL hZ (nI (nx_n (pr tx ty) 0 sg)) (nI (nx_n (pr tx ty) ((pr tx ty).2 5) ev)), eX2 hT hB (nI ty) pl2 fi2 se2 hD (nI (d2 5)), eC t hB 200 (nf tx), eX0 hD (nI (d2 0)) (nI (d2 1)) (nI (d2 2)) (nI (d2 3)) (nI (d2 4)), eX0 hN (nI ((nx_if (pr tx ty) s) 0)) (nI ((nx_if (pr tx ty) s) 1)) (nI ((nx_if (pr tx ty) s) 2)) (nI ((nx_if (pr tx ty) s) 3)) (nI ((nx_if (pr tx ty) s) 4)), eX1 hA hAA (nI (nx_n (pr tx ty) 0 kn)), eX1 hK hKA (nI (nx_n (pr tx ty) 0 kp))]) := by
  refine Ct.of (by decide) (Nat.le_of_ble_eq_true rfl) (fun k X hRet => ?_)
  have X : zX D t k cX4_lay 1 RX4 "lay" rm_X4_lay lq := X
  refine z_eq (lv2 := [(0, .ref h)]) rfl rfl rfl ?_
  refine z_aload_n X (pc := 0) 0 dX4_lay_0 rfl ?_
  refine z_get X (pc := 1) 0 0 (.ref hT) tu_4 tw_144 dX4_lay_1 rfl rfl (by decide) rfl rfl ?_
  refine zc_V (as := []) X (pc := 4) (c_X2_firstFault lq D t hT hB hD ty pl fi se tev a0 a1 a2 a3 a4 tx (by omega) htx) tw_204 tw_207 tw_2 tw_205 tw_206 0 2 rfl rfl [1, 2, 3] rfl rfl dX4_lay_4 rfl zdX2_firstFault ⟨rfl, rfl, Nat.le_of_ble_eq_true rfl, Nat.le_of_ble_eq_true rfl⟩ (Nat.le_of_ble_eq_true rfl) (Nat.zero_le _) (Nat.zero_le _) (fun v_1 w_2 hp_3 => ?_)
  obtain ⟨pl2_4, fi2_5, se2_6, d2_7, hf_8, rfl, rfl⟩ := hp_3
  refine ⟨rfl, ?_⟩
  refine z_eq (ws2 := [eX4 h hT hN hU hA hK hW hL hZ (nI sg) (nI ev), eX2 hT hB (nI ty) pl2_4 fi2_5 se2_6 hD (nI (d2_7 5)), eC t hB 200 (nf tx), eX0 hD (nI (d2_7 0)) (nI (d2_7 1)) (nI (d2_7 2)) (nI (d2_7 3)) (nI (d2_7 4)), eX0 hN (nI (s 0)) (nI (s 1)) (nI (s 2)) (nI (s 3)) (nI (s 4)), eX1 hA hAA (nI kn), eX1 hK hKA (nI kp)]) (st2 := [.int (flt (prs (chf tx ty) ty 200 0 d0).1)]) rfl rfl rfl ?_
  refine z_bipush X (pc := 7) (-4) dX4_lay_7 (by decide) ?_
  refine z_icmp_eq X (pc := 9) 15 dX4_lay_9 (by decide) (fun c_9 => ?_) (fun c_9 => ?_)
  · skip
    have hno : (pr tx ty).1 = none := by
      show (prs (chf tx ty) ty 200 0 d0).1 = none
      cases hq : (prs (chf tx ty) ty 200 0 d0).1 with
      | none => rfl
      | some p =>
        rw [hq] at c_9
        exact absurd c_9 (flt_ne p (prs_lt hq) hty9)
    have hd9 : d2_7 = (pr tx ty).2 := hf_8 hno
    refine z_aload_n X (pc := 15) 0 dX4_lay_15 rfl ?_
    refine z_get X (pc := 16) 0 1 (.ref hN) tu_4 tw_145 dX4_lay_16 rfl rfl (by decide) rfl rfl ?_
    refine z_aload_n X (pc := 19) 0 dX4_lay_19 rfl ?_
    refine z_get X (pc := 20) 0 0 (.ref hT) tu_4 tw_144 dX4_lay_20 rfl rfl (by decide) rfl rfl ?_
    refine z_get X (pc := 23) 1 5 (.ref hD) tu_2 tw_62 dX4_lay_23 rfl rfl (by decide) rfl rfl ?_
    refine zc_V (as := [.ref hD]) X (pc := 26) (c_X0_copyFrom lq D t hN hD (nI (s 0)) (nI (s 1)) (nI (s 2)) (nI (s 3)) (nI (s 4)) (nI (d2_7 0)) (nI (d2_7 1)) (nI (d2_7 2)) (nI (d2_7 3)) (nI (d2_7 4)) ) tw_267 tw_270 tw_3 tw_268 tw_269 0 0 rfl rfl [4, 3] rfl rfl dX4_lay_26 rfl zdX0_copyFrom ⟨rfl, rfl, Nat.le_of_ble_eq_true rfl, Nat.le_of_ble_eq_true rfl⟩ (Nat.le_of_ble_eq_true rfl) (Nat.zero_le _) (Nat.zero_le _) (fun v_9 w_10 hp_11 => ?_)
    obtain ⟨rfl, rfl⟩ := hp_11
    refine ⟨rfl, ?_⟩
    refine z_eq (ws2 := [eX4 h hT hN hU hA hK hW hL hZ (nI sg) (nI ev), eX2 hT hB (nI ty) pl2_4 fi2_5 se2_6 hD (nI (d2_7 5)), eC t hB 200 (nf tx), eX0 hD (nI (d2_7 0)) (nI (d2_7 1)) (nI (d2_7 2)) (nI (d2_7 3)) (nI (d2_7 4)), eX0 hN (nI (d2_7 0)) (nI (d2_7 1)) (nI (d2_7 2)) (nI (d2_7 3)) (nI (d2_7 4)), eX1 hA hAA (nI kn), eX1 hK hKA (nI kp)]) (st2 := []) rfl rfl rfl ?_
    refine z_aload_n X (pc := 29) 0 dX4_lay_29 rfl ?_
    refine z_aload_n X (pc := 30) 0 dX4_lay_30 rfl ?_
    refine z_get X (pc := 31) 0 0 (.ref hT) tu_4 tw_144 dX4_lay_31 rfl rfl (by decide) rfl rfl ?_
    refine z_get X (pc := 34) 1 6 (.int (nI (d2_7 5))) tu_2 tw_64 dX4_lay_34 rfl rfl (by decide) rfl rfl ?_
    refine z_put X (pc := 37) 0 9 [eX4 h hT hN hU hA hK hW hL hZ (nI sg) (nI (d2_7 5)), eX2 hT hB (nI ty) pl2_4 fi2_5 se2_6 hD (nI (d2_7 5)), eC t hB 200 (nf tx), eX0 hD (nI (d2_7 0)) (nI (d2_7 1)) (nI (d2_7 2)) (nI (d2_7 3)) (nI (d2_7 4)), eX0 hN (nI (d2_7 0)) (nI (d2_7 1)) (nI (d2_7 2)) (nI (d2_7 3)) (nI (d2_7 4)), eX1 hA hAA (nI kn), eX1 hK hKA (nI kp)] tu_4 tyX4_ok nmX4 tw_153 dX4_lay_37 rfl rfl (by decide) rfl rfl rfl rfl (Nat.le_of_ble_eq_true rfl) rfl ?_
    refine z_aload_n X (pc := 40) 0 dX4_lay_40 rfl ?_
    refine z_iconst X (pc := 41) (nI 0) dX4_lay_41 (by decide) ?_
    refine z_put X (pc := 42) 0 8 [eX4 h hT hN hU hA hK hW hL hZ (nI 0) (nI (d2_7 5)), eX2 hT hB (nI ty) pl2_4 fi2_5 se2_6 hD (nI (d2_7 5)), eC t hB 200 (nf tx), eX0 hD (nI (d2_7 0)) (nI (d2_7 1)) (nI (d2_7 2)) (nI (d2_7 3)) (nI (d2_7 4)), eX0 hN (nI (d2_7 0)) (nI (d2_7 1)) (nI (d2_7 2)) (nI (d2_7 3)) (nI (d2_7 4)), eX1 hA hAA (nI kn), eX1 hK hKA (nI kp)] tu_4 tyX4_ok nmX4 tw_152 dX4_lay_42 rfl rfl (by decide) rfl rfl rfl rfl (Nat.le_of_ble_eq_true rfl) rfl ?_
    refine z_aload_n X (pc := 45) 0 dX4_lay_45 rfl ?_
    refine z_get X (pc := 46) 0 3 (.ref hA) tu_4 tw_147 dX4_lay_46 rfl rfl (by decide) rfl rfl ?_
    refine zc_V (as := []) X (pc := 49) (c_X1_clear lq D t hA hAA kn ) tw_271 tw_274 tw_4 tw_272 tw_273 0 1 rfl rfl [5] rfl rfl dX4_lay_49 rfl zdX1_clear ⟨rfl, rfl, Nat.le_of_ble_eq_true rfl, Nat.le_of_ble_eq_true rfl⟩ (Nat.le_of_ble_eq_true rfl) (Nat.zero_le _) (Nat.zero_le _) (fun v_12 w_13 hp_14 => ?_)
    obtain ⟨rfl, rfl⟩ := hp_14
    refine ⟨rfl, ?_⟩
    refine z_eq (ws2 := [eX4 h hT hN hU hA hK hW hL hZ (nI 0) (nI (d2_7 5)), eX2 hT hB (nI ty) pl2_4 fi2_5 se2_6 hD (nI (d2_7 5)), eC t hB 200 (nf tx), eX0 hD (nI (d2_7 0)) (nI (d2_7 1)) (nI (d2_7 2)) (nI (d2_7 3)) (nI (d2_7 4)), eX0 hN (nI (d2_7 0)) (nI (d2_7 1)) (nI (d2_7 2)) (nI (d2_7 3)) (nI (d2_7 4)), eX1 hA hAA (nI 0), eX1 hK hKA (nI kp)]) (st2 := []) rfl rfl rfl ?_
    refine z_aload_n X (pc := 52) 0 dX4_lay_52 rfl ?_
    refine z_get X (pc := 53) 0 4 (.ref hK) tu_4 tw_148 dX4_lay_53 rfl rfl (by decide) rfl rfl ?_
    refine zc_V (as := []) X (pc := 56) (c_X1_clear lq D t hK hKA kp ) tw_271 tw_274 tw_4 tw_272 tw_273 0 1 rfl rfl [6] rfl rfl dX4_lay_56 rfl zdX1_clear ⟨rfl, rfl, Nat.le_of_ble_eq_true rfl, Nat.le_of_ble_eq_true rfl⟩ (Nat.le_of_ble_eq_true rfl) (Nat.zero_le _) (Nat.zero_le _) (fun v_15 w_16 hp_17 => ?_)
    obtain ⟨rfl, rfl⟩ := hp_17
    refine ⟨rfl, ?_⟩
    refine z_eq (ws2 := [eX4 h hT hN hU hA hK hW hL hZ (nI 0) (nI (d2_7 5)), eX2 hT hB (nI ty) pl2_4 fi2_5 se2_6 hD (nI (d2_7 5)), eC t hB 200 (nf tx), eX0 hD (nI (d2_7 0)) (nI (d2_7 1)) (nI (d2_7 2)) (nI (d2_7 3)) (nI (d2_7 4)), eX0 hN (nI (d2_7 0)) (nI (d2_7 1)) (nI (d2_7 2)) (nI (d2_7 3)) (nI (d2_7 4)), eX1 hA hAA (nI 0), eX1 hK hKA (nI 0)]) (st2 := []) rfl rfl rfl ?_
    refine z_aload_n X (pc := 59) 0 dX4_lay_59 rfl ?_
    refine z_get X (pc := 60) 0 1 (.ref hN) tu_4 tw_145 dX4_lay_60 rfl rfl (by decide) rfl rfl ?_
    refine zc_V (as := []) X (pc := 63) (c_X0_matches lq D t hN (d2_7 0) (d2_7 1) (d2_7 2) (d2_7 3) (d2_7 4) ) tw_275 tw_278 tw_3 tw_276 tw_277 0 0 rfl rfl [4] rfl rfl dX4_lay_63 rfl zdX0_matches ⟨rfl, rfl, Nat.le_of_ble_eq_true rfl, Nat.le_of_ble_eq_true rfl⟩ (Nat.le_of_ble_eq_true rfl) (Nat.zero_le _) (Nat.zero_le _) (fun v_18 w_19 hp_20 => ?_)
    obtain ⟨rfl, rfl⟩ := hp_20
    refine ⟨rfl, ?_⟩
    refine z_eq (ws2 := [eX4 h hT hN hU hA hK hW hL hZ (nI 0) (nI (d2_7 5)), eX2 hT hB (nI ty) pl2_4 fi2_5 se2_6 hD (nI (d2_7 5)), eC t hB 200 (nf tx), eX0 hD (nI (d2_7 0)) (nI (d2_7 1)) (nI (d2_7 2)) (nI (d2_7 3)) (nI (d2_7 4)), eX0 hN (nI (d2_7 0)) (nI (d2_7 1)) (nI (d2_7 2)) (nI (d2_7 3)) (nI (d2_7 4)), eX1 hA hAA (nI 0), eX1 hK hKA (nI 0)]) (st2 := [.int (nI ((d2_7 0) + (d2_7 1)))]) rfl rfl rfl ?_
    exact hRet.i dX4_lay_66 ⟨pl2_4, fi2_5, se2_6, d2_7, by rw [an_lay, hno, hd9], by simp only [nx_if, nx_n, hno, hd9]⟩
  · skip
    obtain ⟨q9, hq9⟩ : ∃ q, (pr tx ty).1 = some q := by
      show ∃ q, (prs (chf tx ty) ty 200 0 d0).1 = some q
      cases hq : (prs (chf tx ty) ty 200 0 d0).1 with
      | none => rw [hq] at c_9; exact absurd rfl c_9
      | some p => exact ⟨p, rfl⟩
    refine z_bipush X (pc := 12) (-2) dX4_lay_12 (by decide) ?_
    exact hRet.i dX4_lay_14 ⟨pl2_4, fi2_5, se2_6, d2_7, by rw [an_lay, hq9], by simp only [nx_if, nx_n, hq9]⟩

abbrev rm_X4_box : Room := { frames := 2, cells := 0, slots := 0, locals := 42 }
set_option maxHeartbeats 4000000 in
set_option maxRecDepth 100000 in
theorem c_X4_box (lq : Launch) (D : va_G) (t : zT) (h hT hN hU hA hK hW hL hZ sg ev : Nat) (s : Nat → Nat) (e : Int32)  : Ct lq D t yX4_box cX4_box 2 (some .int) rm_X4_box [.ref h, .int e] [eX4 h hT hN hU hA hK hW hL hZ (nI sg) (nI ev), eX0 hN (nI (s 0)) (nI (s 1)) (nI (s 2)) (nI (s 3)) (nI (s 4))] 0 0 (fun rv rw_ => rv = some (.int (an_box s (dz 0 1 e))) ∧ rw_ = [eX4 h hT hN hU hA hK hW hL hZ (nI sg) (nI ev), eX0 hN (nI (s 0)) (nI (s 1)) (nI (s 2)) (nI (s 3)) (nI (s 4))]) := by
  refine Ct.of (by decide) (Nat.le_of_ble_eq_true rfl) (fun k X hRet => ?_)
  have X : zX D t k cX4_box 2 RX4 "box" rm_X4_box lq := X
  refine z_eq (lv2 := [(0, .ref h), (1, .int e)]) rfl rfl rfl ?_
  refine z_iload_n X (pc := 0) 1 dX4_box_0 rfl ?_
  refine zc_S (as := [.int e]) X (pc := 1) (c_X4_isSide lq D t e ) tw_283 tw_258 tw_1 tw_257 [] rfl rfl dX4_box_1 rfl zdX4_isSide ⟨rfl, rfl, Nat.le_of_ble_eq_true rfl, Nat.le_of_ble_eq_true rfl⟩ (Nat.le_of_ble_eq_true rfl) (Nat.zero_le _) (Nat.zero_le _) (fun v_1 w_2 hp_3 => ?_)
  obtain ⟨rfl, rfl⟩ := hp_3
  refine ⟨rfl, ?_⟩
  refine z_eq (ws2 := [eX4 h hT hN hU hA hK hW hL hZ (nI sg) (nI ev), eX0 hN (nI (s 0)) (nI (s 1)) (nI (s 2)) (nI (s 3)) (nI (s 4))]) (st2 := [.int (zb (nI 0 ≤ e ∧ e ≤ nI 1))]) rfl rfl rfl ?_
  refine z_if_eqB X (pc := 4) 18 dX4_box_4 (by decide) (fun c_4 => ?_) (fun c_4 => ?_)
  · skip
    refine z_iconst X (pc := 18) (-1) dX4_box_18 (by decide) ?_
    exact hRet.i dX4_box_19 ⟨by rw [dz_bad c_4]; rfl, rfl⟩
  · skip
    obtain ⟨sd, sd_lo, sd_hi, rfl⟩ := inR (by decide) (by decide) c_4
    rcases (show sd = 0 ∨ sd = 1 by omega) with rfl | rfl
    · skip
      refine z_aload_n X (pc := 7) 0 dX4_box_7 rfl ?_
      refine z_get X (pc := 8) 0 1 (.ref hN) tu_4 tw_145 dX4_box_8 rfl rfl (by decide) rfl rfl ?_
      refine z_iload_n X (pc := 11) 1 dX4_box_11 rfl ?_
      refine zc_V (as := [.int (nI 0)]) X (pc := 12) (c_X0_inBox lq D t hN (s 0) (s 1) (s 2) (s 3) (s 4) 0 (by omega)) tw_284 tw_287 tw_3 tw_285 tw_286 0 0 rfl rfl [1] rfl rfl dX4_box_12 rfl zdX0_inBox ⟨rfl, rfl, Nat.le_of_ble_eq_true rfl, Nat.le_of_ble_eq_true rfl⟩ (Nat.le_of_ble_eq_true rfl) (Nat.zero_le _) (Nat.zero_le _) (fun v_4 w_5 hp_6 => ?_)
      obtain ⟨rfl, rfl⟩ := hp_6
      refine ⟨rfl, ?_⟩
      refine z_eq (ws2 := [eX4 h hT hN hU hA hK hW hL hZ (nI sg) (nI ev), eX0 hN (nI (s 0)) (nI (s 1)) (nI (s 2)) (nI (s 3)) (nI (s 4))]) (st2 := [.int (nI (s 0))]) rfl rfl rfl ?_
      refine z_goto X (pc := 15) 19 dX4_box_15 (by decide) ?_
      exact hRet.i dX4_box_19 ⟨by rw [dz_ok (by decide) (by decide) (by decide)]; rfl, rfl⟩
    · skip
      refine z_aload_n X (pc := 7) 0 dX4_box_7 rfl ?_
      refine z_get X (pc := 8) 0 1 (.ref hN) tu_4 tw_145 dX4_box_8 rfl rfl (by decide) rfl rfl ?_
      refine z_iload_n X (pc := 11) 1 dX4_box_11 rfl ?_
      refine zc_V (as := [.int (nI 1)]) X (pc := 12) (c_X0_inBox lq D t hN (s 0) (s 1) (s 2) (s 3) (s 4) 1 (by omega)) tw_284 tw_287 tw_3 tw_285 tw_286 0 0 rfl rfl [1] rfl rfl dX4_box_12 rfl zdX0_inBox ⟨rfl, rfl, Nat.le_of_ble_eq_true rfl, Nat.le_of_ble_eq_true rfl⟩ (Nat.le_of_ble_eq_true rfl) (Nat.zero_le _) (Nat.zero_le _) (fun v_7 w_8 hp_9 => ?_)
      obtain ⟨rfl, rfl⟩ := hp_9
      refine ⟨rfl, ?_⟩
      refine z_eq (ws2 := [eX4 h hT hN hU hA hK hW hL hZ (nI sg) (nI ev), eX0 hN (nI (s 0)) (nI (s 1)) (nI (s 2)) (nI (s 3)) (nI (s 4))]) (st2 := [.int (nI (s 1))]) rfl rfl rfl ?_
      refine z_goto X (pc := 15) 19 dX4_box_15 (by decide) ?_
      exact hRet.i dX4_box_19 ⟨by rw [dz_ok (by decide) (by decide) (by decide)]; rfl, rfl⟩

abbrev rm_X4_quarters : Room := { frames := 3, cells := 0, slots := 0, locals := 66 }
set_option maxHeartbeats 4000000 in
set_option maxRecDepth 100000 in
theorem c_X4_quarters (lq : Launch) (D : va_G) (t : zT) (h hT hN hU hA hK hW hL hZ sg ev : Nat) (s : Nat → Nat) (e : Int32) (hs : sOk s) : Ct lq D t yX4_quarters cX4_quarters 3 (some .int) rm_X4_quarters [.ref h, .int e] [eX4 h hT hN hU hA hK hW hL hZ (nI sg) (nI ev), eX0 hN (nI (s 0)) (nI (s 1)) (nI (s 2)) (nI (s 3)) (nI (s 4))] 0 0 (fun rv rw_ => rv = some (.int (an_quarters s (dz 0 1 e))) ∧ rw_ = [eX4 h hT hN hU hA hK hW hL hZ (nI sg) (nI ev), eX0 hN (nI (s 0)) (nI (s 1)) (nI (s 2)) (nI (s 3)) (nI (s 4))]) := by
  refine Ct.of (by decide) (Nat.le_of_ble_eq_true rfl) (fun k X hRet => ?_)
  have X : zX D t k cX4_quarters 3 RX4 "quarters" rm_X4_quarters lq := X
  refine z_eq (lv2 := [(0, .ref h), (1, .int e)]) rfl rfl rfl ?_
  obtain ⟨hs0, hs1, hs2, hs3, hs4⟩ := hs
  refine z_iload_n X (pc := 0) 1 dX4_quarters_0 rfl ?_
  refine zc_S (as := [.int e]) X (pc := 1) (c_X4_isSide lq D t e ) tw_283 tw_258 tw_1 tw_257 [] rfl rfl dX4_quarters_1 rfl zdX4_isSide ⟨rfl, rfl, Nat.le_of_ble_eq_true rfl, Nat.le_of_ble_eq_true rfl⟩ (Nat.le_of_ble_eq_true rfl) (Nat.zero_le _) (Nat.zero_le _) (fun v_1 w_2 hp_3 => ?_)
  obtain ⟨rfl, rfl⟩ := hp_3
  refine ⟨rfl, ?_⟩
  refine z_eq (ws2 := [eX4 h hT hN hU hA hK hW hL hZ (nI sg) (nI ev), eX0 hN (nI (s 0)) (nI (s 1)) (nI (s 2)) (nI (s 3)) (nI (s 4))]) (st2 := [.int (zb (nI 0 ≤ e ∧ e ≤ nI 1))]) rfl rfl rfl ?_
  refine z_if_neB X (pc := 4) 9 dX4_quarters_4 (by decide) (fun c_4 => ?_) (fun c_4 => ?_)
  · skip
    obtain ⟨sd, sd_lo, sd_hi, rfl⟩ := inR (by decide) (by decide) c_4
    rcases (show sd = 0 ∨ sd = 1 by omega) with rfl | rfl
    · skip
      refine z_aload_n X (pc := 9) 0 dX4_quarters_9 rfl ?_
      refine z_get X (pc := 10) 0 1 (.ref hN) tu_4 tw_145 dX4_quarters_10 rfl rfl (by decide) rfl rfl ?_
      refine zc_V (as := []) X (pc := 13) (c_X0_quartersToLeft lq D t hN (s 0) (s 1) (s 2) (s 3) (s 4) (by omega) (by omega) (by omega) (by omega) (by omega)) tw_292 tw_295 tw_3 tw_293 tw_294 0 0 rfl rfl [1] rfl rfl dX4_quarters_13 rfl zdX0_quartersToLeft ⟨rfl, rfl, Nat.le_of_ble_eq_true rfl, Nat.le_of_ble_eq_true rfl⟩ (Nat.le_of_ble_eq_true rfl) (Nat.zero_le _) (Nat.zero_le _) (fun v_4 w_5 hp_6 => ?_)
      obtain ⟨rfl, rfl⟩ := hp_6
      refine ⟨rfl, ?_⟩
      refine z_eq (ws2 := [eX4 h hT hN hU hA hK hW hL hZ (nI sg) (nI ev), eX0 hN (nI (s 0)) (nI (s 1)) (nI (s 2)) (nI (s 3)) (nI (s 4))]) (st2 := [.int (nI (htl (s 3) (s 4) (s 0) (s 1) (s 2)))]) rfl rfl rfl ?_
      refine z_istore_n X (pc := 16) (i := 2) [(2, .int (nI (htl (s 3) (s 4) (s 0) (s 1) (s 2)))), (0, .ref h), (1, .int (nI 0))] dX4_quarters_16 rfl (by decide) rfl ?_
      refine z_iload_n X (pc := 17) 2 dX4_quarters_17 rfl ?_
      refine z_if_neN X (pc := 18) 25 (by omega) dX4_quarters_18 (by decide) (fun c_18 => absurd c_18 (by decide)) (fun c_18 => ?_)
      refine z_iload_n X (pc := 21) 0 dX4_quarters_21 rfl ?_
      refine z_goto X (pc := 22) 28 dX4_quarters_22 (by decide) ?_
      exact hRet.i dX4_quarters_28 ⟨by rw [dz_ok (by decide) (by decide) (by decide)]; rfl, rfl⟩
    · skip
      refine z_aload_n X (pc := 9) 0 dX4_quarters_9 rfl ?_
      refine z_get X (pc := 10) 0 1 (.ref hN) tu_4 tw_145 dX4_quarters_10 rfl rfl (by decide) rfl rfl ?_
      refine zc_V (as := []) X (pc := 13) (c_X0_quartersToLeft lq D t hN (s 0) (s 1) (s 2) (s 3) (s 4) (by omega) (by omega) (by omega) (by omega) (by omega)) tw_292 tw_295 tw_3 tw_293 tw_294 0 0 rfl rfl [1] rfl rfl dX4_quarters_13 rfl zdX0_quartersToLeft ⟨rfl, rfl, Nat.le_of_ble_eq_true rfl, Nat.le_of_ble_eq_true rfl⟩ (Nat.le_of_ble_eq_true rfl) (Nat.zero_le _) (Nat.zero_le _) (fun v_7 w_8 hp_9 => ?_)
      obtain ⟨rfl, rfl⟩ := hp_9
      refine ⟨rfl, ?_⟩
      refine z_eq (ws2 := [eX4 h hT hN hU hA hK hW hL hZ (nI sg) (nI ev), eX0 hN (nI (s 0)) (nI (s 1)) (nI (s 2)) (nI (s 3)) (nI (s 4))]) (st2 := [.int (nI (htl (s 3) (s 4) (s 0) (s 1) (s 2)))]) rfl rfl rfl ?_
      refine z_istore_n X (pc := 16) (i := 2) [(2, .int (nI (htl (s 3) (s 4) (s 0) (s 1) (s 2)))), (0, .ref h), (1, .int (nI 1))] dX4_quarters_16 rfl (by decide) rfl ?_
      refine z_iload_n X (pc := 17) 2 dX4_quarters_17 rfl ?_
      refine z_if_neN X (pc := 18) 25 (by omega) dX4_quarters_18 (by decide) (fun c_18 => ?_) (fun c_18 => absurd c_18 (by decide))
      refine z_iconst X (pc := 25) (nI 4) dX4_quarters_25 (by decide) ?_
      refine z_iload_n X (pc := 26) 0 dX4_quarters_26 rfl ?_
      refine z_isub X (pc := 27) (v := (nI (4 - (htl (s 3) (s 4) (s 0) (s 1) (s 2))))) dX4_quarters_27 (pk_sub (htl_le hs4)) ?_
      exact hRet.i dX4_quarters_28 ⟨by rw [dz_ok (by decide) (by decide) (by decide)]; rfl, rfl⟩
  · skip
    refine z_iconst X (pc := 7) (-1) dX4_quarters_7 (by decide) ?_
    exact hRet.i dX4_quarters_8 ⟨by rw [dz_bad c_4]; rfl, rfl⟩

abbrev rm_X4_reach : Room := { frames := 3, cells := 0, slots := 0, locals := 63 }
set_option maxHeartbeats 4000000 in
set_option maxRecDepth 100000 in
theorem c_X4_reach (lq : Launch) (D : va_G) (t : zT) (h hT hN hU hA hK hW hL hZ sg ev : Nat) (hAA : Nat) (ad past : Nat → Nat) (kn : Nat) (s : Nat → Nat) (e : Int32) (hs : sOk s) (hkn : kn ≤ 8) : Ct lq D t yX4_reach cX4_reach 2 (some .int) rm_X4_reach [.ref h, .int e] [eX4 h hT hN hU hA hK hW hL hZ (nI sg) (nI ev), eX0 hN (nI (s 0)) (nI (s 1)) (nI (s 2)) (nI (s 3)) (nI (s 4)), eX1 hA hAA (nI kn), eQ t hAA 8 (fun j => some (ad j)), eX0 (ad 0) (nI (past 0)) (nI (past 1)) (nI (past 2)) (nI (past 3)) (nI (past 4)), eX0 (ad 1) (nI (past 5)) (nI (past 6)) (nI (past 7)) (nI (past 8)) (nI (past 9)), eX0 (ad 2) (nI (past 10)) (nI (past 11)) (nI (past 12)) (nI (past 13)) (nI (past 14)), eX0 (ad 3) (nI (past 15)) (nI (past 16)) (nI (past 17)) (nI (past 18)) (nI (past 19)), eX0 (ad 4) (nI (past 20)) (nI (past 21)) (nI (past 22)) (nI (past 23)) (nI (past 24)), eX0 (ad 5) (nI (past 25)) (nI (past 26)) (nI (past 27)) (nI (past 28)) (nI (past 29)), eX0 (ad 6) (nI (past 30)) (nI (past 31)) (nI (past 32)) (nI (past 33)) (nI (past 34)), eX0 (ad 7) (nI (past 35)) (nI (past 36)) (nI (past 37)) (nI (past 38)) (nI (past 39))] 0 0 (fun rv rw_ => rv = some (.int (an_reach s (dz 0 1 e))) ∧ rw_ = [eX4 h hT hN hU hA hK hW hL hZ (nI sg) (nI ev), eX0 hN (nI ((nx_reach s (dz 0 1 e)) 0)) (nI ((nx_reach s (dz 0 1 e)) 1)) (nI ((nx_reach s (dz 0 1 e)) 2)) (nI ((nx_reach s (dz 0 1 e)) 3)) (nI ((nx_reach s (dz 0 1 e)) 4)), eX1 hA hAA (nI (nx_kn ((dz 0 1 e).isSome) kn)), eQ t hAA 8 (fun j => some (ad j)), eX0 (ad 0) (nI ((nx_past ((dz 0 1 e).isSome) past kn s) 0)) (nI ((nx_past ((dz 0 1 e).isSome) past kn s) 1)) (nI ((nx_past ((dz 0 1 e).isSome) past kn s) 2)) (nI ((nx_past ((dz 0 1 e).isSome) past kn s) 3)) (nI ((nx_past ((dz 0 1 e).isSome) past kn s) 4)), eX0 (ad 1) (nI ((nx_past ((dz 0 1 e).isSome) past kn s) 5)) (nI ((nx_past ((dz 0 1 e).isSome) past kn s) 6)) (nI ((nx_past ((dz 0 1 e).isSome) past kn s) 7)) (nI ((nx_past ((dz 0 1 e).isSome) past kn s) 8)) (nI ((nx_past ((dz 0 1 e).isSome) past kn s) 9)), eX0 (ad 2) (nI ((nx_past ((dz 0 1 e).isSome) past kn s) 10)) (nI ((nx_past ((dz 0 1 e).isSome) past kn s) 11)) (nI ((nx_past ((dz 0 1 e).isSome) past kn s) 12)) (nI ((nx_past ((dz 0 1 e).isSome) past kn s) 13)) (nI ((nx_past ((dz 0 1 e).isSome) past kn s) 14)), eX0 (ad 3) (nI ((nx_past ((dz 0 1 e).isSome) past kn s) 15)) (nI ((nx_past ((dz 0 1 e).isSome) past kn s) 16)) (nI ((nx_past ((dz 0 1 e).isSome) past kn s) 17)) (nI ((nx_past ((dz 0 1 e).isSome) past kn s) 18)) (nI ((nx_past ((dz 0 1 e).isSome) past kn s) 19)), eX0 (ad 4) (nI ((nx_past ((dz 0 1 e).isSome) past kn s) 20)) (nI ((nx_past ((dz 0 1 e).isSome) past kn s) 21)) (nI ((nx_past ((dz 0 1 e).isSome) past kn s) 22)) (nI ((nx_past ((dz 0 1 e).isSome) past kn s) 23)) (nI ((nx_past ((dz 0 1 e).isSome) past kn s) 24)), eX0 (ad 5) (nI ((nx_past ((dz 0 1 e).isSome) past kn s) 25)) (nI ((nx_past ((dz 0 1 e).isSome) past kn s) 26)) (nI ((nx_past ((dz 0 1 e).isSome) past kn s) 27)) (nI ((nx_past ((dz 0 1 e).isSome) past kn s) 28)) (nI ((nx_past ((dz 0 1 e).isSome) past kn s) 29)), eX0 (ad 6) (nI ((nx_past ((dz 0 1 e).isSome) past kn s) 30)) (nI ((nx_past ((dz 0 1 e).isSome) past kn s) 31)) (nI ((nx_past ((dz 0 1 e).isSome) past kn s) 32)) (nI ((nx_past ((dz 0 1 e).isSome) past kn s) 33)) (nI ((nx_past ((dz 0 1 e).isSome) past kn s) 34)), eX0 (ad 7) (nI ((nx_past ((dz 0 1 e).isSome) past kn s) 35)) (nI ((nx_past ((dz 0 1 e).isSome) past kn s) 36)) (nI ((nx_past ((dz 0 1 e).isSome) past kn s) 37)) (nI ((nx_past ((dz 0 1 e).isSome) past kn s) 38)) (nI ((nx_past ((dz 0 1 e).isSome) past kn s) 39))]) := by
  refine Ct.of (by decide) (Nat.le_of_ble_eq_true rfl) (fun k X hRet => ?_)
  have X : zX D t k cX4_reach 2 RX4 "reach" rm_X4_reach lq := X
  refine z_eq (lv2 := [(0, .ref h), (1, .int e)]) rfl rfl rfl ?_
  obtain ⟨hs0, hs1, hs2, hs3, hs4⟩ := hs
  refine z_iload_n X (pc := 0) 1 dX4_reach_0 rfl ?_
  refine zc_S (as := [.int e]) X (pc := 1) (c_X4_isSide lq D t e ) tw_283 tw_258 tw_1 tw_257 [] rfl rfl dX4_reach_1 rfl zdX4_isSide ⟨rfl, rfl, Nat.le_of_ble_eq_true rfl, Nat.le_of_ble_eq_true rfl⟩ (Nat.le_of_ble_eq_true rfl) (Nat.zero_le _) (Nat.zero_le _) (fun v_1 w_2 hp_3 => ?_)
  obtain ⟨rfl, rfl⟩ := hp_3
  refine ⟨rfl, ?_⟩
  refine z_eq (ws2 := [eX4 h hT hN hU hA hK hW hL hZ (nI sg) (nI ev), eX0 hN (nI (s 0)) (nI (s 1)) (nI (s 2)) (nI (s 3)) (nI (s 4)), eX1 hA hAA (nI kn), eQ t hAA 8 (fun j => some (ad j)), eX0 (ad 0) (nI (past 0)) (nI (past 1)) (nI (past 2)) (nI (past 3)) (nI (past 4)), eX0 (ad 1) (nI (past 5)) (nI (past 6)) (nI (past 7)) (nI (past 8)) (nI (past 9)), eX0 (ad 2) (nI (past 10)) (nI (past 11)) (nI (past 12)) (nI (past 13)) (nI (past 14)), eX0 (ad 3) (nI (past 15)) (nI (past 16)) (nI (past 17)) (nI (past 18)) (nI (past 19)), eX0 (ad 4) (nI (past 20)) (nI (past 21)) (nI (past 22)) (nI (past 23)) (nI (past 24)), eX0 (ad 5) (nI (past 25)) (nI (past 26)) (nI (past 27)) (nI (past 28)) (nI (past 29)), eX0 (ad 6) (nI (past 30)) (nI (past 31)) (nI (past 32)) (nI (past 33)) (nI (past 34)), eX0 (ad 7) (nI (past 35)) (nI (past 36)) (nI (past 37)) (nI (past 38)) (nI (past 39))]) (st2 := [.int (zb (nI 0 ≤ e ∧ e ≤ nI 1))]) rfl rfl rfl ?_
  refine z_if_neB X (pc := 4) 9 dX4_reach_4 (by decide) (fun c_4 => ?_) (fun c_4 => ?_)
  · skip
    obtain ⟨sd, sd_lo, sd_hi, rfl⟩ := inR (by decide) (by decide) c_4
    rcases (show sd = 0 ∨ sd = 1 by omega) with rfl | rfl
    · skip
      refine z_aload_n X (pc := 9) 0 dX4_reach_9 rfl ?_
      refine z_get X (pc := 10) 0 3 (.ref hA) tu_4 tw_147 dX4_reach_10 rfl rfl (by decide) rfl rfl ?_
      refine z_aload_n X (pc := 13) 0 dX4_reach_13 rfl ?_
      refine z_get X (pc := 14) 0 1 (.ref hN) tu_4 tw_145 dX4_reach_14 rfl rfl (by decide) rfl rfl ?_
      refine zc_V (as := [.ref hN]) X (pc := 17) (c_X1_put8 lq D t hA hAA ad past kn hN s (by omega)) tw_306 tw_309 tw_4 tw_307 tw_308 0 1 rfl rfl [2, 3, 4, 5, 6, 7, 8, 9, 10, 11, 1] rfl rfl dX4_reach_17 rfl zdX1_put ⟨rfl, rfl, Nat.le_of_ble_eq_true rfl, Nat.le_of_ble_eq_true rfl⟩ (Nat.le_of_ble_eq_true rfl) (Nat.zero_le _) (Nat.zero_le _) (fun v_4 w_5 hp_6 => ?_)
      obtain ⟨rfl, rfl⟩ := hp_6
      refine ⟨rfl, ?_⟩
      refine z_eq (ws2 := [eX4 h hT hN hU hA hK hW hL hZ (nI sg) (nI ev), eX0 hN (nI (s 0)) (nI (s 1)) (nI (s 2)) (nI (s 3)) (nI (s 4)), eX1 hA hAA (nI (if kn = 8 then 8 else kn + 1)), eQ t hAA 8 (fun j => some (ad j)), eX0 (ad 0) (nI (pput past kn s 0)) (nI (pput past kn s 1)) (nI (pput past kn s 2)) (nI (pput past kn s 3)) (nI (pput past kn s 4)), eX0 (ad 1) (nI (pput past kn s 5)) (nI (pput past kn s 6)) (nI (pput past kn s 7)) (nI (pput past kn s 8)) (nI (pput past kn s 9)), eX0 (ad 2) (nI (pput past kn s 10)) (nI (pput past kn s 11)) (nI (pput past kn s 12)) (nI (pput past kn s 13)) (nI (pput past kn s 14)), eX0 (ad 3) (nI (pput past kn s 15)) (nI (pput past kn s 16)) (nI (pput past kn s 17)) (nI (pput past kn s 18)) (nI (pput past kn s 19)), eX0 (ad 4) (nI (pput past kn s 20)) (nI (pput past kn s 21)) (nI (pput past kn s 22)) (nI (pput past kn s 23)) (nI (pput past kn s 24)), eX0 (ad 5) (nI (pput past kn s 25)) (nI (pput past kn s 26)) (nI (pput past kn s 27)) (nI (pput past kn s 28)) (nI (pput past kn s 29)), eX0 (ad 6) (nI (pput past kn s 30)) (nI (pput past kn s 31)) (nI (pput past kn s 32)) (nI (pput past kn s 33)) (nI (pput past kn s 34)), eX0 (ad 7) (nI (pput past kn s 35)) (nI (pput past kn s 36)) (nI (pput past kn s 37)) (nI (pput past kn s 38)) (nI (pput past kn s 39))]) (st2 := []) rfl rfl rfl ?_
      refine z_aload_n X (pc := 20) 0 dX4_reach_20 rfl ?_
      refine z_get X (pc := 21) 0 1 (.ref hN) tu_4 tw_145 dX4_reach_21 rfl rfl (by decide) rfl rfl ?_
      refine z_iload_n X (pc := 24) 1 dX4_reach_24 rfl ?_
      refine zc_V (as := [.int (nI 0)]) X (pc := 25) (c_X0_draw lq D t hN (s 0) (s 1) (s 2) (s 3) (s 4) 0 (by decide) (by omega) (by omega)) tw_320 tw_323 tw_3 tw_321 tw_322 0 0 rfl rfl [1] rfl rfl dX4_reach_25 rfl zdX0_draw ⟨rfl, rfl, Nat.le_of_ble_eq_true rfl, Nat.le_of_ble_eq_true rfl⟩ (Nat.le_of_ble_eq_true rfl) (Nat.zero_le _) (Nat.zero_le _) (fun v_7 w_8 hp_9 => ?_)
      obtain ⟨rfl, rfl⟩ := hp_9
      refine ⟨rfl, ?_⟩
      refine z_eq (ws2 := [eX4 h hT hN hU hA hK hW hL hZ (nI sg) (nI ev), eX0 hN (nI ((s 0) - 1)) (nI (s 1)) (nI 0) (nI (s 3)) (nI (s 4)), eX1 hA hAA (nI (if kn = 8 then 8 else kn + 1)), eQ t hAA 8 (fun j => some (ad j)), eX0 (ad 0) (nI (pput past kn s 0)) (nI (pput past kn s 1)) (nI (pput past kn s 2)) (nI (pput past kn s 3)) (nI (pput past kn s 4)), eX0 (ad 1) (nI (pput past kn s 5)) (nI (pput past kn s 6)) (nI (pput past kn s 7)) (nI (pput past kn s 8)) (nI (pput past kn s 9)), eX0 (ad 2) (nI (pput past kn s 10)) (nI (pput past kn s 11)) (nI (pput past kn s 12)) (nI (pput past kn s 13)) (nI (pput past kn s 14)), eX0 (ad 3) (nI (pput past kn s 15)) (nI (pput past kn s 16)) (nI (pput past kn s 17)) (nI (pput past kn s 18)) (nI (pput past kn s 19)), eX0 (ad 4) (nI (pput past kn s 20)) (nI (pput past kn s 21)) (nI (pput past kn s 22)) (nI (pput past kn s 23)) (nI (pput past kn s 24)), eX0 (ad 5) (nI (pput past kn s 25)) (nI (pput past kn s 26)) (nI (pput past kn s 27)) (nI (pput past kn s 28)) (nI (pput past kn s 29)), eX0 (ad 6) (nI (pput past kn s 30)) (nI (pput past kn s 31)) (nI (pput past kn s 32)) (nI (pput past kn s 33)) (nI (pput past kn s 34)), eX0 (ad 7) (nI (pput past kn s 35)) (nI (pput past kn s 36)) (nI (pput past kn s 37)) (nI (pput past kn s 38)) (nI (pput past kn s 39))]) (st2 := [.int (zb (¬ (s 0) = 0))]) rfl rfl rfl ?_
      refine z_if_eqB X (pc := 28) 42 dX4_reach_28 (by decide) (fun c_28 => ?_) (fun c_28 => ?_)
      · skip
        refine z_bipush X (pc := 42) (-5) dX4_reach_42 (by decide) ?_
        exact hRet.i dX4_reach_44 ⟨by rw [dz_ok (by decide) (by decide) (by decide)]; simp only [an_reach, if_pos (Decidable.not_not.mp c_28)], by rw [dz_ok (by decide) (by decide) (by decide)]; rfl⟩
      · skip
        refine z_aload_n X (pc := 31) 0 dX4_reach_31 rfl ?_
        refine z_get X (pc := 32) 0 1 (.ref hN) tu_4 tw_145 dX4_reach_32 rfl rfl (by decide) rfl rfl ?_
        refine z_iload_n X (pc := 35) 1 dX4_reach_35 rfl ?_
        refine zc_V (as := [.int (nI 0)]) X (pc := 36) (c_X0_inBox lq D t hN ((s 0) - 1) (s 1) 0 (s 3) (s 4) 0 (by decide)) tw_284 tw_287 tw_3 tw_285 tw_286 0 0 rfl rfl [1] rfl rfl dX4_reach_36 rfl zdX0_inBox ⟨rfl, rfl, Nat.le_of_ble_eq_true rfl, Nat.le_of_ble_eq_true rfl⟩ (Nat.le_of_ble_eq_true rfl) (Nat.zero_le _) (Nat.zero_le _) (fun v_10 w_11 hp_12 => ?_)
        obtain ⟨rfl, rfl⟩ := hp_12
        refine ⟨rfl, ?_⟩
        refine z_eq (ws2 := [eX4 h hT hN hU hA hK hW hL hZ (nI sg) (nI ev), eX0 hN (nI ((s 0) - 1)) (nI (s 1)) (nI 0) (nI (s 3)) (nI (s 4)), eX1 hA hAA (nI (if kn = 8 then 8 else kn + 1)), eQ t hAA 8 (fun j => some (ad j)), eX0 (ad 0) (nI (pput past kn s 0)) (nI (pput past kn s 1)) (nI (pput past kn s 2)) (nI (pput past kn s 3)) (nI (pput past kn s 4)), eX0 (ad 1) (nI (pput past kn s 5)) (nI (pput past kn s 6)) (nI (pput past kn s 7)) (nI (pput past kn s 8)) (nI (pput past kn s 9)), eX0 (ad 2) (nI (pput past kn s 10)) (nI (pput past kn s 11)) (nI (pput past kn s 12)) (nI (pput past kn s 13)) (nI (pput past kn s 14)), eX0 (ad 3) (nI (pput past kn s 15)) (nI (pput past kn s 16)) (nI (pput past kn s 17)) (nI (pput past kn s 18)) (nI (pput past kn s 19)), eX0 (ad 4) (nI (pput past kn s 20)) (nI (pput past kn s 21)) (nI (pput past kn s 22)) (nI (pput past kn s 23)) (nI (pput past kn s 24)), eX0 (ad 5) (nI (pput past kn s 25)) (nI (pput past kn s 26)) (nI (pput past kn s 27)) (nI (pput past kn s 28)) (nI (pput past kn s 29)), eX0 (ad 6) (nI (pput past kn s 30)) (nI (pput past kn s 31)) (nI (pput past kn s 32)) (nI (pput past kn s 33)) (nI (pput past kn s 34)), eX0 (ad 7) (nI (pput past kn s 35)) (nI (pput past kn s 36)) (nI (pput past kn s 37)) (nI (pput past kn s 38)) (nI (pput past kn s 39))]) (st2 := [.int (nI ((s 0) - 1))]) rfl rfl rfl ?_
        refine z_goto X (pc := 39) 44 dX4_reach_39 (by decide) ?_
        exact hRet.i dX4_reach_44 ⟨by rw [dz_ok (by decide) (by decide) (by decide)]; simp only [an_reach, if_neg c_28], by rw [dz_ok (by decide) (by decide) (by decide)]; rfl⟩
    · skip
      refine z_aload_n X (pc := 9) 0 dX4_reach_9 rfl ?_
      refine z_get X (pc := 10) 0 3 (.ref hA) tu_4 tw_147 dX4_reach_10 rfl rfl (by decide) rfl rfl ?_
      refine z_aload_n X (pc := 13) 0 dX4_reach_13 rfl ?_
      refine z_get X (pc := 14) 0 1 (.ref hN) tu_4 tw_145 dX4_reach_14 rfl rfl (by decide) rfl rfl ?_
      refine zc_V (as := [.ref hN]) X (pc := 17) (c_X1_put8 lq D t hA hAA ad past kn hN s (by omega)) tw_306 tw_309 tw_4 tw_307 tw_308 0 1 rfl rfl [2, 3, 4, 5, 6, 7, 8, 9, 10, 11, 1] rfl rfl dX4_reach_17 rfl zdX1_put ⟨rfl, rfl, Nat.le_of_ble_eq_true rfl, Nat.le_of_ble_eq_true rfl⟩ (Nat.le_of_ble_eq_true rfl) (Nat.zero_le _) (Nat.zero_le _) (fun v_13 w_14 hp_15 => ?_)
      obtain ⟨rfl, rfl⟩ := hp_15
      refine ⟨rfl, ?_⟩
      refine z_eq (ws2 := [eX4 h hT hN hU hA hK hW hL hZ (nI sg) (nI ev), eX0 hN (nI (s 0)) (nI (s 1)) (nI (s 2)) (nI (s 3)) (nI (s 4)), eX1 hA hAA (nI (if kn = 8 then 8 else kn + 1)), eQ t hAA 8 (fun j => some (ad j)), eX0 (ad 0) (nI (pput past kn s 0)) (nI (pput past kn s 1)) (nI (pput past kn s 2)) (nI (pput past kn s 3)) (nI (pput past kn s 4)), eX0 (ad 1) (nI (pput past kn s 5)) (nI (pput past kn s 6)) (nI (pput past kn s 7)) (nI (pput past kn s 8)) (nI (pput past kn s 9)), eX0 (ad 2) (nI (pput past kn s 10)) (nI (pput past kn s 11)) (nI (pput past kn s 12)) (nI (pput past kn s 13)) (nI (pput past kn s 14)), eX0 (ad 3) (nI (pput past kn s 15)) (nI (pput past kn s 16)) (nI (pput past kn s 17)) (nI (pput past kn s 18)) (nI (pput past kn s 19)), eX0 (ad 4) (nI (pput past kn s 20)) (nI (pput past kn s 21)) (nI (pput past kn s 22)) (nI (pput past kn s 23)) (nI (pput past kn s 24)), eX0 (ad 5) (nI (pput past kn s 25)) (nI (pput past kn s 26)) (nI (pput past kn s 27)) (nI (pput past kn s 28)) (nI (pput past kn s 29)), eX0 (ad 6) (nI (pput past kn s 30)) (nI (pput past kn s 31)) (nI (pput past kn s 32)) (nI (pput past kn s 33)) (nI (pput past kn s 34)), eX0 (ad 7) (nI (pput past kn s 35)) (nI (pput past kn s 36)) (nI (pput past kn s 37)) (nI (pput past kn s 38)) (nI (pput past kn s 39))]) (st2 := []) rfl rfl rfl ?_
      refine z_aload_n X (pc := 20) 0 dX4_reach_20 rfl ?_
      refine z_get X (pc := 21) 0 1 (.ref hN) tu_4 tw_145 dX4_reach_21 rfl rfl (by decide) rfl rfl ?_
      refine z_iload_n X (pc := 24) 1 dX4_reach_24 rfl ?_
      refine zc_V (as := [.int (nI 1)]) X (pc := 25) (c_X0_draw lq D t hN (s 0) (s 1) (s 2) (s 3) (s 4) 1 (by decide) (by omega) (by omega)) tw_320 tw_323 tw_3 tw_321 tw_322 0 0 rfl rfl [1] rfl rfl dX4_reach_25 rfl zdX0_draw ⟨rfl, rfl, Nat.le_of_ble_eq_true rfl, Nat.le_of_ble_eq_true rfl⟩ (Nat.le_of_ble_eq_true rfl) (Nat.zero_le _) (Nat.zero_le _) (fun v_16 w_17 hp_18 => ?_)
      obtain ⟨rfl, rfl⟩ := hp_18
      refine ⟨rfl, ?_⟩
      refine z_eq (ws2 := [eX4 h hT hN hU hA hK hW hL hZ (nI sg) (nI ev), eX0 hN (nI (s 0)) (nI ((s 1) - 1)) (nI 1) (nI (s 3)) (nI (s 4)), eX1 hA hAA (nI (if kn = 8 then 8 else kn + 1)), eQ t hAA 8 (fun j => some (ad j)), eX0 (ad 0) (nI (pput past kn s 0)) (nI (pput past kn s 1)) (nI (pput past kn s 2)) (nI (pput past kn s 3)) (nI (pput past kn s 4)), eX0 (ad 1) (nI (pput past kn s 5)) (nI (pput past kn s 6)) (nI (pput past kn s 7)) (nI (pput past kn s 8)) (nI (pput past kn s 9)), eX0 (ad 2) (nI (pput past kn s 10)) (nI (pput past kn s 11)) (nI (pput past kn s 12)) (nI (pput past kn s 13)) (nI (pput past kn s 14)), eX0 (ad 3) (nI (pput past kn s 15)) (nI (pput past kn s 16)) (nI (pput past kn s 17)) (nI (pput past kn s 18)) (nI (pput past kn s 19)), eX0 (ad 4) (nI (pput past kn s 20)) (nI (pput past kn s 21)) (nI (pput past kn s 22)) (nI (pput past kn s 23)) (nI (pput past kn s 24)), eX0 (ad 5) (nI (pput past kn s 25)) (nI (pput past kn s 26)) (nI (pput past kn s 27)) (nI (pput past kn s 28)) (nI (pput past kn s 29)), eX0 (ad 6) (nI (pput past kn s 30)) (nI (pput past kn s 31)) (nI (pput past kn s 32)) (nI (pput past kn s 33)) (nI (pput past kn s 34)), eX0 (ad 7) (nI (pput past kn s 35)) (nI (pput past kn s 36)) (nI (pput past kn s 37)) (nI (pput past kn s 38)) (nI (pput past kn s 39))]) (st2 := [.int (zb (¬ (s 1) = 0))]) rfl rfl rfl ?_
      refine z_if_eqB X (pc := 28) 42 dX4_reach_28 (by decide) (fun c_28 => ?_) (fun c_28 => ?_)
      · skip
        refine z_bipush X (pc := 42) (-5) dX4_reach_42 (by decide) ?_
        exact hRet.i dX4_reach_44 ⟨by rw [dz_ok (by decide) (by decide) (by decide)]; simp only [an_reach, if_pos (Decidable.not_not.mp c_28)], by rw [dz_ok (by decide) (by decide) (by decide)]; rfl⟩
      · skip
        refine z_aload_n X (pc := 31) 0 dX4_reach_31 rfl ?_
        refine z_get X (pc := 32) 0 1 (.ref hN) tu_4 tw_145 dX4_reach_32 rfl rfl (by decide) rfl rfl ?_
        refine z_iload_n X (pc := 35) 1 dX4_reach_35 rfl ?_
        refine zc_V (as := [.int (nI 1)]) X (pc := 36) (c_X0_inBox lq D t hN (s 0) ((s 1) - 1) 1 (s 3) (s 4) 1 (by decide)) tw_284 tw_287 tw_3 tw_285 tw_286 0 0 rfl rfl [1] rfl rfl dX4_reach_36 rfl zdX0_inBox ⟨rfl, rfl, Nat.le_of_ble_eq_true rfl, Nat.le_of_ble_eq_true rfl⟩ (Nat.le_of_ble_eq_true rfl) (Nat.zero_le _) (Nat.zero_le _) (fun v_19 w_20 hp_21 => ?_)
        obtain ⟨rfl, rfl⟩ := hp_21
        refine ⟨rfl, ?_⟩
        refine z_eq (ws2 := [eX4 h hT hN hU hA hK hW hL hZ (nI sg) (nI ev), eX0 hN (nI (s 0)) (nI ((s 1) - 1)) (nI 1) (nI (s 3)) (nI (s 4)), eX1 hA hAA (nI (if kn = 8 then 8 else kn + 1)), eQ t hAA 8 (fun j => some (ad j)), eX0 (ad 0) (nI (pput past kn s 0)) (nI (pput past kn s 1)) (nI (pput past kn s 2)) (nI (pput past kn s 3)) (nI (pput past kn s 4)), eX0 (ad 1) (nI (pput past kn s 5)) (nI (pput past kn s 6)) (nI (pput past kn s 7)) (nI (pput past kn s 8)) (nI (pput past kn s 9)), eX0 (ad 2) (nI (pput past kn s 10)) (nI (pput past kn s 11)) (nI (pput past kn s 12)) (nI (pput past kn s 13)) (nI (pput past kn s 14)), eX0 (ad 3) (nI (pput past kn s 15)) (nI (pput past kn s 16)) (nI (pput past kn s 17)) (nI (pput past kn s 18)) (nI (pput past kn s 19)), eX0 (ad 4) (nI (pput past kn s 20)) (nI (pput past kn s 21)) (nI (pput past kn s 22)) (nI (pput past kn s 23)) (nI (pput past kn s 24)), eX0 (ad 5) (nI (pput past kn s 25)) (nI (pput past kn s 26)) (nI (pput past kn s 27)) (nI (pput past kn s 28)) (nI (pput past kn s 29)), eX0 (ad 6) (nI (pput past kn s 30)) (nI (pput past kn s 31)) (nI (pput past kn s 32)) (nI (pput past kn s 33)) (nI (pput past kn s 34)), eX0 (ad 7) (nI (pput past kn s 35)) (nI (pput past kn s 36)) (nI (pput past kn s 37)) (nI (pput past kn s 38)) (nI (pput past kn s 39))]) (st2 := [.int (nI ((s 1) - 1))]) rfl rfl rfl ?_
        refine z_goto X (pc := 39) 44 dX4_reach_39 (by decide) ?_
        exact hRet.i dX4_reach_44 ⟨by rw [dz_ok (by decide) (by decide) (by decide)]; simp only [an_reach, if_neg c_28], by rw [dz_ok (by decide) (by decide) (by decide)]; rfl⟩
  · skip
    refine z_iconst X (pc := 7) (-1) dX4_reach_7 (by decide) ?_
    exact hRet.i dX4_reach_8 ⟨by rw [dz_bad c_4]; rfl, by rw [dz_bad c_4]; rfl⟩

abbrev rm_X4_buy : Room := { frames := 3, cells := 0, slots := 0, locals := 63 }
set_option maxHeartbeats 4000000 in
set_option maxRecDepth 100000 in
theorem c_X4_buy (lq : Launch) (D : va_G) (t : zT) (h hT hN hU hA hK hW hL hZ sg ev : Nat) (hAA : Nat) (ad past : Nat → Nat) (kn : Nat) (s : Nat → Nat) (e : Int32) (hs : sOk s) (hkn : kn ≤ 8) : Ct lq D t yX4_buy cX4_buy 3 (some .int) rm_X4_buy [.ref h, .int e] [eX4 h hT hN hU hA hK hW hL hZ (nI sg) (nI ev), eX0 hN (nI (s 0)) (nI (s 1)) (nI (s 2)) (nI (s 3)) (nI (s 4)), eX1 hA hAA (nI kn), eQ t hAA 8 (fun j => some (ad j)), eX0 (ad 0) (nI (past 0)) (nI (past 1)) (nI (past 2)) (nI (past 3)) (nI (past 4)), eX0 (ad 1) (nI (past 5)) (nI (past 6)) (nI (past 7)) (nI (past 8)) (nI (past 9)), eX0 (ad 2) (nI (past 10)) (nI (past 11)) (nI (past 12)) (nI (past 13)) (nI (past 14)), eX0 (ad 3) (nI (past 15)) (nI (past 16)) (nI (past 17)) (nI (past 18)) (nI (past 19)), eX0 (ad 4) (nI (past 20)) (nI (past 21)) (nI (past 22)) (nI (past 23)) (nI (past 24)), eX0 (ad 5) (nI (past 25)) (nI (past 26)) (nI (past 27)) (nI (past 28)) (nI (past 29)), eX0 (ad 6) (nI (past 30)) (nI (past 31)) (nI (past 32)) (nI (past 33)) (nI (past 34)), eX0 (ad 7) (nI (past 35)) (nI (past 36)) (nI (past 37)) (nI (past 38)) (nI (past 39))] 0 0 (fun rv rw_ => rv = some (.int (an_box s (dz 0 1 e))) ∧ rw_ = [eX4 h hT hN hU hA hK hW hL hZ (nI sg) (nI ev), eX0 hN (nI ((nx_buy s (dz 0 1 e)) 0)) (nI ((nx_buy s (dz 0 1 e)) 1)) (nI ((nx_buy s (dz 0 1 e)) 2)) (nI ((nx_buy s (dz 0 1 e)) 3)) (nI ((nx_buy s (dz 0 1 e)) 4)), eX1 hA hAA (nI (nx_kn ((dz 0 1 e).isSome) kn)), eQ t hAA 8 (fun j => some (ad j)), eX0 (ad 0) (nI ((nx_past ((dz 0 1 e).isSome) past kn s) 0)) (nI ((nx_past ((dz 0 1 e).isSome) past kn s) 1)) (nI ((nx_past ((dz 0 1 e).isSome) past kn s) 2)) (nI ((nx_past ((dz 0 1 e).isSome) past kn s) 3)) (nI ((nx_past ((dz 0 1 e).isSome) past kn s) 4)), eX0 (ad 1) (nI ((nx_past ((dz 0 1 e).isSome) past kn s) 5)) (nI ((nx_past ((dz 0 1 e).isSome) past kn s) 6)) (nI ((nx_past ((dz 0 1 e).isSome) past kn s) 7)) (nI ((nx_past ((dz 0 1 e).isSome) past kn s) 8)) (nI ((nx_past ((dz 0 1 e).isSome) past kn s) 9)), eX0 (ad 2) (nI ((nx_past ((dz 0 1 e).isSome) past kn s) 10)) (nI ((nx_past ((dz 0 1 e).isSome) past kn s) 11)) (nI ((nx_past ((dz 0 1 e).isSome) past kn s) 12)) (nI ((nx_past ((dz 0 1 e).isSome) past kn s) 13)) (nI ((nx_past ((dz 0 1 e).isSome) past kn s) 14)), eX0 (ad 3) (nI ((nx_past ((dz 0 1 e).isSome) past kn s) 15)) (nI ((nx_past ((dz 0 1 e).isSome) past kn s) 16)) (nI ((nx_past ((dz 0 1 e).isSome) past kn s) 17)) (nI ((nx_past ((dz 0 1 e).isSome) past kn s) 18)) (nI ((nx_past ((dz 0 1 e).isSome) past kn s) 19)), eX0 (ad 4) (nI ((nx_past ((dz 0 1 e).isSome) past kn s) 20)) (nI ((nx_past ((dz 0 1 e).isSome) past kn s) 21)) (nI ((nx_past ((dz 0 1 e).isSome) past kn s) 22)) (nI ((nx_past ((dz 0 1 e).isSome) past kn s) 23)) (nI ((nx_past ((dz 0 1 e).isSome) past kn s) 24)), eX0 (ad 5) (nI ((nx_past ((dz 0 1 e).isSome) past kn s) 25)) (nI ((nx_past ((dz 0 1 e).isSome) past kn s) 26)) (nI ((nx_past ((dz 0 1 e).isSome) past kn s) 27)) (nI ((nx_past ((dz 0 1 e).isSome) past kn s) 28)) (nI ((nx_past ((dz 0 1 e).isSome) past kn s) 29)), eX0 (ad 6) (nI ((nx_past ((dz 0 1 e).isSome) past kn s) 30)) (nI ((nx_past ((dz 0 1 e).isSome) past kn s) 31)) (nI ((nx_past ((dz 0 1 e).isSome) past kn s) 32)) (nI ((nx_past ((dz 0 1 e).isSome) past kn s) 33)) (nI ((nx_past ((dz 0 1 e).isSome) past kn s) 34)), eX0 (ad 7) (nI ((nx_past ((dz 0 1 e).isSome) past kn s) 35)) (nI ((nx_past ((dz 0 1 e).isSome) past kn s) 36)) (nI ((nx_past ((dz 0 1 e).isSome) past kn s) 37)) (nI ((nx_past ((dz 0 1 e).isSome) past kn s) 38)) (nI ((nx_past ((dz 0 1 e).isSome) past kn s) 39))]) := by
  refine Ct.of (by decide) (Nat.le_of_ble_eq_true rfl) (fun k X hRet => ?_)
  have X : zX D t k cX4_buy 3 RX4 "buy" rm_X4_buy lq := X
  refine z_eq (lv2 := [(0, .ref h), (1, .int e)]) rfl rfl rfl ?_
  obtain ⟨hs0, hs1, hs2, hs3, hs4⟩ := hs
  refine z_iload_n X (pc := 0) 1 dX4_buy_0 rfl ?_
  refine zc_S (as := [.int e]) X (pc := 1) (c_X4_isSide lq D t e ) tw_283 tw_258 tw_1 tw_257 [] rfl rfl dX4_buy_1 rfl zdX4_isSide ⟨rfl, rfl, Nat.le_of_ble_eq_true rfl, Nat.le_of_ble_eq_true rfl⟩ (Nat.le_of_ble_eq_true rfl) (Nat.zero_le _) (Nat.zero_le _) (fun v_1 w_2 hp_3 => ?_)
  obtain ⟨rfl, rfl⟩ := hp_3
  refine ⟨rfl, ?_⟩
  refine z_eq (ws2 := [eX4 h hT hN hU hA hK hW hL hZ (nI sg) (nI ev), eX0 hN (nI (s 0)) (nI (s 1)) (nI (s 2)) (nI (s 3)) (nI (s 4)), eX1 hA hAA (nI kn), eQ t hAA 8 (fun j => some (ad j)), eX0 (ad 0) (nI (past 0)) (nI (past 1)) (nI (past 2)) (nI (past 3)) (nI (past 4)), eX0 (ad 1) (nI (past 5)) (nI (past 6)) (nI (past 7)) (nI (past 8)) (nI (past 9)), eX0 (ad 2) (nI (past 10)) (nI (past 11)) (nI (past 12)) (nI (past 13)) (nI (past 14)), eX0 (ad 3) (nI (past 15)) (nI (past 16)) (nI (past 17)) (nI (past 18)) (nI (past 19)), eX0 (ad 4) (nI (past 20)) (nI (past 21)) (nI (past 22)) (nI (past 23)) (nI (past 24)), eX0 (ad 5) (nI (past 25)) (nI (past 26)) (nI (past 27)) (nI (past 28)) (nI (past 29)), eX0 (ad 6) (nI (past 30)) (nI (past 31)) (nI (past 32)) (nI (past 33)) (nI (past 34)), eX0 (ad 7) (nI (past 35)) (nI (past 36)) (nI (past 37)) (nI (past 38)) (nI (past 39))]) (st2 := [.int (zb (nI 0 ≤ e ∧ e ≤ nI 1))]) rfl rfl rfl ?_
  refine z_if_neB X (pc := 4) 9 dX4_buy_4 (by decide) (fun c_4 => ?_) (fun c_4 => ?_)
  · skip
    obtain ⟨sd, sd_lo, sd_hi, rfl⟩ := inR (by decide) (by decide) c_4
    rcases (show sd = 0 ∨ sd = 1 by omega) with rfl | rfl
    · skip
      refine z_aload_n X (pc := 9) 0 dX4_buy_9 rfl ?_
      refine z_get X (pc := 10) 0 1 (.ref hN) tu_4 tw_145 dX4_buy_10 rfl rfl (by decide) rfl rfl ?_
      refine z_iload_n X (pc := 13) 1 dX4_buy_13 rfl ?_
      refine zc_V (as := [.int (nI 0)]) X (pc := 14) (c_X0_inBox lq D t hN (s 0) (s 1) (s 2) (s 3) (s 4) 0 (by decide)) tw_284 tw_287 tw_3 tw_285 tw_286 0 0 rfl rfl [1] rfl rfl dX4_buy_14 rfl zdX0_inBox ⟨rfl, rfl, Nat.le_of_ble_eq_true rfl, Nat.le_of_ble_eq_true rfl⟩ (Nat.le_of_ble_eq_true rfl) (Nat.zero_le _) (Nat.zero_le _) (fun v_4 w_5 hp_6 => ?_)
      obtain ⟨rfl, rfl⟩ := hp_6
      refine ⟨rfl, ?_⟩
      refine z_eq (ws2 := [eX4 h hT hN hU hA hK hW hL hZ (nI sg) (nI ev), eX0 hN (nI (s 0)) (nI (s 1)) (nI (s 2)) (nI (s 3)) (nI (s 4)), eX1 hA hAA (nI kn), eQ t hAA 8 (fun j => some (ad j)), eX0 (ad 0) (nI (past 0)) (nI (past 1)) (nI (past 2)) (nI (past 3)) (nI (past 4)), eX0 (ad 1) (nI (past 5)) (nI (past 6)) (nI (past 7)) (nI (past 8)) (nI (past 9)), eX0 (ad 2) (nI (past 10)) (nI (past 11)) (nI (past 12)) (nI (past 13)) (nI (past 14)), eX0 (ad 3) (nI (past 15)) (nI (past 16)) (nI (past 17)) (nI (past 18)) (nI (past 19)), eX0 (ad 4) (nI (past 20)) (nI (past 21)) (nI (past 22)) (nI (past 23)) (nI (past 24)), eX0 (ad 5) (nI (past 25)) (nI (past 26)) (nI (past 27)) (nI (past 28)) (nI (past 29)), eX0 (ad 6) (nI (past 30)) (nI (past 31)) (nI (past 32)) (nI (past 33)) (nI (past 34)), eX0 (ad 7) (nI (past 35)) (nI (past 36)) (nI (past 37)) (nI (past 38)) (nI (past 39))]) (st2 := [.int (nI (s 0))]) rfl rfl rfl ?_
      refine z_istore_n X (pc := 17) (i := 2) [(2, .int (nI (s 0))), (0, .ref h), (1, .int (nI 0))] dX4_buy_17 rfl (by decide) rfl ?_
      refine z_aload_n X (pc := 18) 1 dX4_buy_18 rfl ?_
      refine z_get X (pc := 19) 0 3 (.ref hA) tu_4 tw_147 dX4_buy_19 rfl rfl (by decide) rfl rfl ?_
      refine z_aload_n X (pc := 22) 1 dX4_buy_22 rfl ?_
      refine z_get X (pc := 23) 0 1 (.ref hN) tu_4 tw_145 dX4_buy_23 rfl rfl (by decide) rfl rfl ?_
      refine zc_V (as := [.ref hN]) X (pc := 26) (c_X1_put8 lq D t hA hAA ad past kn hN s (by omega)) tw_306 tw_309 tw_4 tw_307 tw_308 0 1 rfl rfl [2, 3, 4, 5, 6, 7, 8, 9, 10, 11, 1] rfl rfl dX4_buy_26 rfl zdX1_put ⟨rfl, rfl, Nat.le_of_ble_eq_true rfl, Nat.le_of_ble_eq_true rfl⟩ (Nat.le_of_ble_eq_true rfl) (Nat.zero_le _) (Nat.zero_le _) (fun v_7 w_8 hp_9 => ?_)
      obtain ⟨rfl, rfl⟩ := hp_9
      refine ⟨rfl, ?_⟩
      refine z_eq (ws2 := [eX4 h hT hN hU hA hK hW hL hZ (nI sg) (nI ev), eX0 hN (nI (s 0)) (nI (s 1)) (nI (s 2)) (nI (s 3)) (nI (s 4)), eX1 hA hAA (nI (if kn = 8 then 8 else kn + 1)), eQ t hAA 8 (fun j => some (ad j)), eX0 (ad 0) (nI (pput past kn s 0)) (nI (pput past kn s 1)) (nI (pput past kn s 2)) (nI (pput past kn s 3)) (nI (pput past kn s 4)), eX0 (ad 1) (nI (pput past kn s 5)) (nI (pput past kn s 6)) (nI (pput past kn s 7)) (nI (pput past kn s 8)) (nI (pput past kn s 9)), eX0 (ad 2) (nI (pput past kn s 10)) (nI (pput past kn s 11)) (nI (pput past kn s 12)) (nI (pput past kn s 13)) (nI (pput past kn s 14)), eX0 (ad 3) (nI (pput past kn s 15)) (nI (pput past kn s 16)) (nI (pput past kn s 17)) (nI (pput past kn s 18)) (nI (pput past kn s 19)), eX0 (ad 4) (nI (pput past kn s 20)) (nI (pput past kn s 21)) (nI (pput past kn s 22)) (nI (pput past kn s 23)) (nI (pput past kn s 24)), eX0 (ad 5) (nI (pput past kn s 25)) (nI (pput past kn s 26)) (nI (pput past kn s 27)) (nI (pput past kn s 28)) (nI (pput past kn s 29)), eX0 (ad 6) (nI (pput past kn s 30)) (nI (pput past kn s 31)) (nI (pput past kn s 32)) (nI (pput past kn s 33)) (nI (pput past kn s 34)), eX0 (ad 7) (nI (pput past kn s 35)) (nI (pput past kn s 36)) (nI (pput past kn s 37)) (nI (pput past kn s 38)) (nI (pput past kn s 39))]) (st2 := []) rfl rfl rfl ?_
      refine z_aload_n X (pc := 29) 1 dX4_buy_29 rfl ?_
      refine z_get X (pc := 30) 0 1 (.ref hN) tu_4 tw_145 dX4_buy_30 rfl rfl (by decide) rfl rfl ?_
      refine z_iload_n X (pc := 33) 2 dX4_buy_33 rfl ?_
      refine z_bipush X (pc := 34) (nI 10) dX4_buy_34 (by decide) ?_
      refine zc_V (as := [.int (nI 0), .int (nI 10)]) X (pc := 36) (c_X0_setBox lq D t hN (s 0) (s 1) (s 2) (s 3) (s 4) 0 10 (by decide)) tw_336 tw_328 tw_3 tw_326 tw_327 0 0 rfl rfl [1] rfl rfl dX4_buy_36 rfl zdX0_setBox ⟨rfl, rfl, Nat.le_of_ble_eq_true rfl, Nat.le_of_ble_eq_true rfl⟩ (Nat.le_of_ble_eq_true rfl) (Nat.zero_le _) (Nat.zero_le _) (fun v_10 w_11 hp_12 => ?_)
      obtain ⟨rfl, rfl⟩ := hp_12
      refine ⟨rfl, ?_⟩
      refine z_eq (ws2 := [eX4 h hT hN hU hA hK hW hL hZ (nI sg) (nI ev), eX0 hN (nI 10) (nI (s 1)) (nI (s 2)) (nI (s 3)) (nI (s 4)), eX1 hA hAA (nI (if kn = 8 then 8 else kn + 1)), eQ t hAA 8 (fun j => some (ad j)), eX0 (ad 0) (nI (pput past kn s 0)) (nI (pput past kn s 1)) (nI (pput past kn s 2)) (nI (pput past kn s 3)) (nI (pput past kn s 4)), eX0 (ad 1) (nI (pput past kn s 5)) (nI (pput past kn s 6)) (nI (pput past kn s 7)) (nI (pput past kn s 8)) (nI (pput past kn s 9)), eX0 (ad 2) (nI (pput past kn s 10)) (nI (pput past kn s 11)) (nI (pput past kn s 12)) (nI (pput past kn s 13)) (nI (pput past kn s 14)), eX0 (ad 3) (nI (pput past kn s 15)) (nI (pput past kn s 16)) (nI (pput past kn s 17)) (nI (pput past kn s 18)) (nI (pput past kn s 19)), eX0 (ad 4) (nI (pput past kn s 20)) (nI (pput past kn s 21)) (nI (pput past kn s 22)) (nI (pput past kn s 23)) (nI (pput past kn s 24)), eX0 (ad 5) (nI (pput past kn s 25)) (nI (pput past kn s 26)) (nI (pput past kn s 27)) (nI (pput past kn s 28)) (nI (pput past kn s 29)), eX0 (ad 6) (nI (pput past kn s 30)) (nI (pput past kn s 31)) (nI (pput past kn s 32)) (nI (pput past kn s 33)) (nI (pput past kn s 34)), eX0 (ad 7) (nI (pput past kn s 35)) (nI (pput past kn s 36)) (nI (pput past kn s 37)) (nI (pput past kn s 38)) (nI (pput past kn s 39))]) (st2 := []) rfl rfl rfl ?_
      refine z_iload_n X (pc := 39) 0 dX4_buy_39 rfl ?_
      exact hRet.i dX4_buy_40 ⟨by rw [dz_ok (by decide) (by decide) (by decide)]; rfl, by rw [dz_ok (by decide) (by decide) (by decide)]; rfl⟩
    · skip
      refine z_aload_n X (pc := 9) 0 dX4_buy_9 rfl ?_
      refine z_get X (pc := 10) 0 1 (.ref hN) tu_4 tw_145 dX4_buy_10 rfl rfl (by decide) rfl rfl ?_
      refine z_iload_n X (pc := 13) 1 dX4_buy_13 rfl ?_
      refine zc_V (as := [.int (nI 1)]) X (pc := 14) (c_X0_inBox lq D t hN (s 0) (s 1) (s 2) (s 3) (s 4) 1 (by decide)) tw_284 tw_287 tw_3 tw_285 tw_286 0 0 rfl rfl [1] rfl rfl dX4_buy_14 rfl zdX0_inBox ⟨rfl, rfl, Nat.le_of_ble_eq_true rfl, Nat.le_of_ble_eq_true rfl⟩ (Nat.le_of_ble_eq_true rfl) (Nat.zero_le _) (Nat.zero_le _) (fun v_13 w_14 hp_15 => ?_)
      obtain ⟨rfl, rfl⟩ := hp_15
      refine ⟨rfl, ?_⟩
      refine z_eq (ws2 := [eX4 h hT hN hU hA hK hW hL hZ (nI sg) (nI ev), eX0 hN (nI (s 0)) (nI (s 1)) (nI (s 2)) (nI (s 3)) (nI (s 4)), eX1 hA hAA (nI kn), eQ t hAA 8 (fun j => some (ad j)), eX0 (ad 0) (nI (past 0)) (nI (past 1)) (nI (past 2)) (nI (past 3)) (nI (past 4)), eX0 (ad 1) (nI (past 5)) (nI (past 6)) (nI (past 7)) (nI (past 8)) (nI (past 9)), eX0 (ad 2) (nI (past 10)) (nI (past 11)) (nI (past 12)) (nI (past 13)) (nI (past 14)), eX0 (ad 3) (nI (past 15)) (nI (past 16)) (nI (past 17)) (nI (past 18)) (nI (past 19)), eX0 (ad 4) (nI (past 20)) (nI (past 21)) (nI (past 22)) (nI (past 23)) (nI (past 24)), eX0 (ad 5) (nI (past 25)) (nI (past 26)) (nI (past 27)) (nI (past 28)) (nI (past 29)), eX0 (ad 6) (nI (past 30)) (nI (past 31)) (nI (past 32)) (nI (past 33)) (nI (past 34)), eX0 (ad 7) (nI (past 35)) (nI (past 36)) (nI (past 37)) (nI (past 38)) (nI (past 39))]) (st2 := [.int (nI (s 1))]) rfl rfl rfl ?_
      refine z_istore_n X (pc := 17) (i := 2) [(2, .int (nI (s 1))), (0, .ref h), (1, .int (nI 1))] dX4_buy_17 rfl (by decide) rfl ?_
      refine z_aload_n X (pc := 18) 1 dX4_buy_18 rfl ?_
      refine z_get X (pc := 19) 0 3 (.ref hA) tu_4 tw_147 dX4_buy_19 rfl rfl (by decide) rfl rfl ?_
      refine z_aload_n X (pc := 22) 1 dX4_buy_22 rfl ?_
      refine z_get X (pc := 23) 0 1 (.ref hN) tu_4 tw_145 dX4_buy_23 rfl rfl (by decide) rfl rfl ?_
      refine zc_V (as := [.ref hN]) X (pc := 26) (c_X1_put8 lq D t hA hAA ad past kn hN s (by omega)) tw_306 tw_309 tw_4 tw_307 tw_308 0 1 rfl rfl [2, 3, 4, 5, 6, 7, 8, 9, 10, 11, 1] rfl rfl dX4_buy_26 rfl zdX1_put ⟨rfl, rfl, Nat.le_of_ble_eq_true rfl, Nat.le_of_ble_eq_true rfl⟩ (Nat.le_of_ble_eq_true rfl) (Nat.zero_le _) (Nat.zero_le _) (fun v_16 w_17 hp_18 => ?_)
      obtain ⟨rfl, rfl⟩ := hp_18
      refine ⟨rfl, ?_⟩
      refine z_eq (ws2 := [eX4 h hT hN hU hA hK hW hL hZ (nI sg) (nI ev), eX0 hN (nI (s 0)) (nI (s 1)) (nI (s 2)) (nI (s 3)) (nI (s 4)), eX1 hA hAA (nI (if kn = 8 then 8 else kn + 1)), eQ t hAA 8 (fun j => some (ad j)), eX0 (ad 0) (nI (pput past kn s 0)) (nI (pput past kn s 1)) (nI (pput past kn s 2)) (nI (pput past kn s 3)) (nI (pput past kn s 4)), eX0 (ad 1) (nI (pput past kn s 5)) (nI (pput past kn s 6)) (nI (pput past kn s 7)) (nI (pput past kn s 8)) (nI (pput past kn s 9)), eX0 (ad 2) (nI (pput past kn s 10)) (nI (pput past kn s 11)) (nI (pput past kn s 12)) (nI (pput past kn s 13)) (nI (pput past kn s 14)), eX0 (ad 3) (nI (pput past kn s 15)) (nI (pput past kn s 16)) (nI (pput past kn s 17)) (nI (pput past kn s 18)) (nI (pput past kn s 19)), eX0 (ad 4) (nI (pput past kn s 20)) (nI (pput past kn s 21)) (nI (pput past kn s 22)) (nI (pput past kn s 23)) (nI (pput past kn s 24)), eX0 (ad 5) (nI (pput past kn s 25)) (nI (pput past kn s 26)) (nI (pput past kn s 27)) (nI (pput past kn s 28)) (nI (pput past kn s 29)), eX0 (ad 6) (nI (pput past kn s 30)) (nI (pput past kn s 31)) (nI (pput past kn s 32)) (nI (pput past kn s 33)) (nI (pput past kn s 34)), eX0 (ad 7) (nI (pput past kn s 35)) (nI (pput past kn s 36)) (nI (pput past kn s 37)) (nI (pput past kn s 38)) (nI (pput past kn s 39))]) (st2 := []) rfl rfl rfl ?_
      refine z_aload_n X (pc := 29) 1 dX4_buy_29 rfl ?_
      refine z_get X (pc := 30) 0 1 (.ref hN) tu_4 tw_145 dX4_buy_30 rfl rfl (by decide) rfl rfl ?_
      refine z_iload_n X (pc := 33) 2 dX4_buy_33 rfl ?_
      refine z_bipush X (pc := 34) (nI 10) dX4_buy_34 (by decide) ?_
      refine zc_V (as := [.int (nI 1), .int (nI 10)]) X (pc := 36) (c_X0_setBox lq D t hN (s 0) (s 1) (s 2) (s 3) (s 4) 1 10 (by decide)) tw_336 tw_328 tw_3 tw_326 tw_327 0 0 rfl rfl [1] rfl rfl dX4_buy_36 rfl zdX0_setBox ⟨rfl, rfl, Nat.le_of_ble_eq_true rfl, Nat.le_of_ble_eq_true rfl⟩ (Nat.le_of_ble_eq_true rfl) (Nat.zero_le _) (Nat.zero_le _) (fun v_19 w_20 hp_21 => ?_)
      obtain ⟨rfl, rfl⟩ := hp_21
      refine ⟨rfl, ?_⟩
      refine z_eq (ws2 := [eX4 h hT hN hU hA hK hW hL hZ (nI sg) (nI ev), eX0 hN (nI (s 0)) (nI 10) (nI (s 2)) (nI (s 3)) (nI (s 4)), eX1 hA hAA (nI (if kn = 8 then 8 else kn + 1)), eQ t hAA 8 (fun j => some (ad j)), eX0 (ad 0) (nI (pput past kn s 0)) (nI (pput past kn s 1)) (nI (pput past kn s 2)) (nI (pput past kn s 3)) (nI (pput past kn s 4)), eX0 (ad 1) (nI (pput past kn s 5)) (nI (pput past kn s 6)) (nI (pput past kn s 7)) (nI (pput past kn s 8)) (nI (pput past kn s 9)), eX0 (ad 2) (nI (pput past kn s 10)) (nI (pput past kn s 11)) (nI (pput past kn s 12)) (nI (pput past kn s 13)) (nI (pput past kn s 14)), eX0 (ad 3) (nI (pput past kn s 15)) (nI (pput past kn s 16)) (nI (pput past kn s 17)) (nI (pput past kn s 18)) (nI (pput past kn s 19)), eX0 (ad 4) (nI (pput past kn s 20)) (nI (pput past kn s 21)) (nI (pput past kn s 22)) (nI (pput past kn s 23)) (nI (pput past kn s 24)), eX0 (ad 5) (nI (pput past kn s 25)) (nI (pput past kn s 26)) (nI (pput past kn s 27)) (nI (pput past kn s 28)) (nI (pput past kn s 29)), eX0 (ad 6) (nI (pput past kn s 30)) (nI (pput past kn s 31)) (nI (pput past kn s 32)) (nI (pput past kn s 33)) (nI (pput past kn s 34)), eX0 (ad 7) (nI (pput past kn s 35)) (nI (pput past kn s 36)) (nI (pput past kn s 37)) (nI (pput past kn s 38)) (nI (pput past kn s 39))]) (st2 := []) rfl rfl rfl ?_
      refine z_iload_n X (pc := 39) 0 dX4_buy_39 rfl ?_
      exact hRet.i dX4_buy_40 ⟨by rw [dz_ok (by decide) (by decide) (by decide)]; rfl, by rw [dz_ok (by decide) (by decide) (by decide)]; rfl⟩
  · skip
    refine z_iconst X (pc := 7) (-1) dX4_buy_7 (by decide) ?_
    exact hRet.i dX4_buy_8 ⟨by rw [dz_bad c_4]; rfl, by rw [dz_bad c_4]; rfl⟩

abbrev rm_X4_hand : Room := { frames := 3, cells := 0, slots := 0, locals := 63 }
set_option maxHeartbeats 4000000 in
set_option maxRecDepth 100000 in
theorem c_X4_hand (lq : Launch) (D : va_G) (t : zT) (h hT hN hU hA hK hW hL hZ sg ev : Nat) (hAA : Nat) (ad past : Nat → Nat) (kn : Nat) (s : Nat → Nat) (e f : Int32) (hs : sOk s) (hkn : kn ≤ 8) : Ct lq D t yX4_hand cX4_hand 4 (some .int) rm_X4_hand [.ref h, .int e, .int f] [eX4 h hT hN hU hA hK hW hL hZ (nI sg) (nI ev), eX0 hN (nI (s 0)) (nI (s 1)) (nI (s 2)) (nI (s 3)) (nI (s 4)), eX1 hA hAA (nI kn), eQ t hAA 8 (fun j => some (ad j)), eX0 (ad 0) (nI (past 0)) (nI (past 1)) (nI (past 2)) (nI (past 3)) (nI (past 4)), eX0 (ad 1) (nI (past 5)) (nI (past 6)) (nI (past 7)) (nI (past 8)) (nI (past 9)), eX0 (ad 2) (nI (past 10)) (nI (past 11)) (nI (past 12)) (nI (past 13)) (nI (past 14)), eX0 (ad 3) (nI (past 15)) (nI (past 16)) (nI (past 17)) (nI (past 18)) (nI (past 19)), eX0 (ad 4) (nI (past 20)) (nI (past 21)) (nI (past 22)) (nI (past 23)) (nI (past 24)), eX0 (ad 5) (nI (past 25)) (nI (past 26)) (nI (past 27)) (nI (past 28)) (nI (past 29)), eX0 (ad 6) (nI (past 30)) (nI (past 31)) (nI (past 32)) (nI (past 33)) (nI (past 34)), eX0 (ad 7) (nI (past 35)) (nI (past 36)) (nI (past 37)) (nI (past 38)) (nI (past 39))] 0 0 (fun rv rw_ => rv = some (.int (an_hand s (dz 0 3 e) (dz 0 4 f))) ∧ rw_ = [eX4 h hT hN hU hA hK hW hL hZ (nI sg) (nI ev), eX0 hN (nI ((nx_hand s (dz 0 3 e) (dz 0 4 f)) 0)) (nI ((nx_hand s (dz 0 3 e) (dz 0 4 f)) 1)) (nI ((nx_hand s (dz 0 3 e) (dz 0 4 f)) 2)) (nI ((nx_hand s (dz 0 3 e) (dz 0 4 f)) 3)) (nI ((nx_hand s (dz 0 3 e) (dz 0 4 f)) 4)), eX1 hA hAA (nI (nx_kn (ok2 (dz 0 3 e) (dz 0 4 f)) kn)), eQ t hAA 8 (fun j => some (ad j)), eX0 (ad 0) (nI ((nx_past (ok2 (dz 0 3 e) (dz 0 4 f)) past kn s) 0)) (nI ((nx_past (ok2 (dz 0 3 e) (dz 0 4 f)) past kn s) 1)) (nI ((nx_past (ok2 (dz 0 3 e) (dz 0 4 f)) past kn s) 2)) (nI ((nx_past (ok2 (dz 0 3 e) (dz 0 4 f)) past kn s) 3)) (nI ((nx_past (ok2 (dz 0 3 e) (dz 0 4 f)) past kn s) 4)), eX0 (ad 1) (nI ((nx_past (ok2 (dz 0 3 e) (dz 0 4 f)) past kn s) 5)) (nI ((nx_past (ok2 (dz 0 3 e) (dz 0 4 f)) past kn s) 6)) (nI ((nx_past (ok2 (dz 0 3 e) (dz 0 4 f)) past kn s) 7)) (nI ((nx_past (ok2 (dz 0 3 e) (dz 0 4 f)) past kn s) 8)) (nI ((nx_past (ok2 (dz 0 3 e) (dz 0 4 f)) past kn s) 9)), eX0 (ad 2) (nI ((nx_past (ok2 (dz 0 3 e) (dz 0 4 f)) past kn s) 10)) (nI ((nx_past (ok2 (dz 0 3 e) (dz 0 4 f)) past kn s) 11)) (nI ((nx_past (ok2 (dz 0 3 e) (dz 0 4 f)) past kn s) 12)) (nI ((nx_past (ok2 (dz 0 3 e) (dz 0 4 f)) past kn s) 13)) (nI ((nx_past (ok2 (dz 0 3 e) (dz 0 4 f)) past kn s) 14)), eX0 (ad 3) (nI ((nx_past (ok2 (dz 0 3 e) (dz 0 4 f)) past kn s) 15)) (nI ((nx_past (ok2 (dz 0 3 e) (dz 0 4 f)) past kn s) 16)) (nI ((nx_past (ok2 (dz 0 3 e) (dz 0 4 f)) past kn s) 17)) (nI ((nx_past (ok2 (dz 0 3 e) (dz 0 4 f)) past kn s) 18)) (nI ((nx_past (ok2 (dz 0 3 e) (dz 0 4 f)) past kn s) 19)), eX0 (ad 4) (nI ((nx_past (ok2 (dz 0 3 e) (dz 0 4 f)) past kn s) 20)) (nI ((nx_past (ok2 (dz 0 3 e) (dz 0 4 f)) past kn s) 21)) (nI ((nx_past (ok2 (dz 0 3 e) (dz 0 4 f)) past kn s) 22)) (nI ((nx_past (ok2 (dz 0 3 e) (dz 0 4 f)) past kn s) 23)) (nI ((nx_past (ok2 (dz 0 3 e) (dz 0 4 f)) past kn s) 24)), eX0 (ad 5) (nI ((nx_past (ok2 (dz 0 3 e) (dz 0 4 f)) past kn s) 25)) (nI ((nx_past (ok2 (dz 0 3 e) (dz 0 4 f)) past kn s) 26)) (nI ((nx_past (ok2 (dz 0 3 e) (dz 0 4 f)) past kn s) 27)) (nI ((nx_past (ok2 (dz 0 3 e) (dz 0 4 f)) past kn s) 28)) (nI ((nx_past (ok2 (dz 0 3 e) (dz 0 4 f)) past kn s) 29)), eX0 (ad 6) (nI ((nx_past (ok2 (dz 0 3 e) (dz 0 4 f)) past kn s) 30)) (nI ((nx_past (ok2 (dz 0 3 e) (dz 0 4 f)) past kn s) 31)) (nI ((nx_past (ok2 (dz 0 3 e) (dz 0 4 f)) past kn s) 32)) (nI ((nx_past (ok2 (dz 0 3 e) (dz 0 4 f)) past kn s) 33)) (nI ((nx_past (ok2 (dz 0 3 e) (dz 0 4 f)) past kn s) 34)), eX0 (ad 7) (nI ((nx_past (ok2 (dz 0 3 e) (dz 0 4 f)) past kn s) 35)) (nI ((nx_past (ok2 (dz 0 3 e) (dz 0 4 f)) past kn s) 36)) (nI ((nx_past (ok2 (dz 0 3 e) (dz 0 4 f)) past kn s) 37)) (nI ((nx_past (ok2 (dz 0 3 e) (dz 0 4 f)) past kn s) 38)) (nI ((nx_past (ok2 (dz 0 3 e) (dz 0 4 f)) past kn s) 39))]) := by
  refine Ct.of (by decide) (Nat.le_of_ble_eq_true rfl) (fun k X hRet => ?_)
  have X : zX D t k cX4_hand 4 RX4 "hand" rm_X4_hand lq := X
  refine z_eq (lv2 := [(0, .ref h), (1, .int e), (2, .int f)]) rfl rfl rfl ?_
  obtain ⟨hs0, hs1, hs2, hs3, hs4⟩ := hs
  refine z_iload_n X (pc := 0) 1 dX4_hand_0 rfl ?_
  refine z_iload_n X (pc := 1) 2 dX4_hand_1 rfl ?_
  refine zc_S (as := [.int e, .int f]) X (pc := 2) (c_X4_isHand lq D t e f ) tw_345 tw_244 tw_1 tw_243 [] rfl rfl dX4_hand_2 rfl zdX4_isHand ⟨rfl, rfl, Nat.le_of_ble_eq_true rfl, Nat.le_of_ble_eq_true rfl⟩ (Nat.le_of_ble_eq_true rfl) (Nat.zero_le _) (Nat.zero_le _) (fun v_1 w_2 hp_3 => ?_)
  obtain ⟨rfl, rfl⟩ := hp_3
  refine ⟨rfl, ?_⟩
  refine z_eq (ws2 := [eX4 h hT hN hU hA hK hW hL hZ (nI sg) (nI ev), eX0 hN (nI (s 0)) (nI (s 1)) (nI (s 2)) (nI (s 3)) (nI (s 4)), eX1 hA hAA (nI kn), eQ t hAA 8 (fun j => some (ad j)), eX0 (ad 0) (nI (past 0)) (nI (past 1)) (nI (past 2)) (nI (past 3)) (nI (past 4)), eX0 (ad 1) (nI (past 5)) (nI (past 6)) (nI (past 7)) (nI (past 8)) (nI (past 9)), eX0 (ad 2) (nI (past 10)) (nI (past 11)) (nI (past 12)) (nI (past 13)) (nI (past 14)), eX0 (ad 3) (nI (past 15)) (nI (past 16)) (nI (past 17)) (nI (past 18)) (nI (past 19)), eX0 (ad 4) (nI (past 20)) (nI (past 21)) (nI (past 22)) (nI (past 23)) (nI (past 24)), eX0 (ad 5) (nI (past 25)) (nI (past 26)) (nI (past 27)) (nI (past 28)) (nI (past 29)), eX0 (ad 6) (nI (past 30)) (nI (past 31)) (nI (past 32)) (nI (past 33)) (nI (past 34)), eX0 (ad 7) (nI (past 35)) (nI (past 36)) (nI (past 37)) (nI (past 38)) (nI (past 39))]) (st2 := [.int (zb ((nI 0 ≤ e ∧ e ≤ nI 3) ∧ (nI 0 ≤ f ∧ f ≤ nI 4)))]) rfl rfl rfl ?_
  refine z_if_neB X (pc := 5) 10 dX4_hand_5 (by decide) (fun c_5 => ?_) (fun c_5 => ?_)
  · skip
    obtain ⟨ck, cx⟩ := c_5
    obtain ⟨kd, kd_lo, kd_hi, rfl⟩ := inR (by decide) (by decide) ck
    obtain ⟨x, x_lo, x_hi, rfl⟩ := inR (by decide) (by decide) cx
    refine z_bipush X (pc := 10) (nI 10) dX4_hand_10 (by decide) ?_
    refine z_aload_n X (pc := 12) 0 dX4_hand_12 rfl ?_
    refine z_get X (pc := 13) 0 1 (.ref hN) tu_4 tw_145 dX4_hand_13 rfl rfl (by decide) rfl rfl ?_
    refine z_get X (pc := 16) 1 3 (.int (nI (s 3))) tu_0 tw_40 dX4_hand_16 rfl rfl (by decide) rfl rfl ?_
    refine z_imul X (pc := 19) (v := (nI (10 * (s 3)))) dX4_hand_19 (pk_mul _ _) ?_
    refine z_aload_n X (pc := 20) 0 dX4_hand_20 rfl ?_
    refine z_get X (pc := 21) 0 1 (.ref hN) tu_4 tw_145 dX4_hand_21 rfl rfl (by decide) rfl rfl ?_
    refine z_get X (pc := 24) 1 4 (.int (nI (s 4))) tu_0 tw_43 dX4_hand_24 rfl rfl (by decide) rfl rfl ?_
    refine z_iadd X (pc := 27) (v := (nI (10 * (s 3) + (s 4)))) dX4_hand_27 (nI_add (10 * (s 3)) (s 4)) ?_
    refine z_istore_n X (pc := 28) (i := 3) [(3, .int (nI (10 * (s 3) + (s 4)))), (0, .ref h), (1, .int (nI kd)), (2, .int (nI x))] dX4_hand_28 rfl (by decide) rfl ?_
    refine z_aload_n X (pc := 29) 1 dX4_hand_29 rfl ?_
    refine z_get X (pc := 30) 0 3 (.ref hA) tu_4 tw_147 dX4_hand_30 rfl rfl (by decide) rfl rfl ?_
    refine z_aload_n X (pc := 33) 1 dX4_hand_33 rfl ?_
    refine z_get X (pc := 34) 0 1 (.ref hN) tu_4 tw_145 dX4_hand_34 rfl rfl (by decide) rfl rfl ?_
    refine zc_V (as := [.ref hN]) X (pc := 37) (c_X1_put8 lq D t hA hAA ad past kn hN s (by omega)) tw_306 tw_309 tw_4 tw_307 tw_308 0 1 rfl rfl [2, 3, 4, 5, 6, 7, 8, 9, 10, 11, 1] rfl rfl dX4_hand_37 rfl zdX1_put ⟨rfl, rfl, Nat.le_of_ble_eq_true rfl, Nat.le_of_ble_eq_true rfl⟩ (Nat.le_of_ble_eq_true rfl) (Nat.zero_le _) (Nat.zero_le _) (fun v_4 w_5 hp_6 => ?_)
    obtain ⟨rfl, rfl⟩ := hp_6
    refine ⟨rfl, ?_⟩
    refine z_eq (ws2 := [eX4 h hT hN hU hA hK hW hL hZ (nI sg) (nI ev), eX0 hN (nI (s 0)) (nI (s 1)) (nI (s 2)) (nI (s 3)) (nI (s 4)), eX1 hA hAA (nI (if kn = 8 then 8 else kn + 1)), eQ t hAA 8 (fun j => some (ad j)), eX0 (ad 0) (nI (pput past kn s 0)) (nI (pput past kn s 1)) (nI (pput past kn s 2)) (nI (pput past kn s 3)) (nI (pput past kn s 4)), eX0 (ad 1) (nI (pput past kn s 5)) (nI (pput past kn s 6)) (nI (pput past kn s 7)) (nI (pput past kn s 8)) (nI (pput past kn s 9)), eX0 (ad 2) (nI (pput past kn s 10)) (nI (pput past kn s 11)) (nI (pput past kn s 12)) (nI (pput past kn s 13)) (nI (pput past kn s 14)), eX0 (ad 3) (nI (pput past kn s 15)) (nI (pput past kn s 16)) (nI (pput past kn s 17)) (nI (pput past kn s 18)) (nI (pput past kn s 19)), eX0 (ad 4) (nI (pput past kn s 20)) (nI (pput past kn s 21)) (nI (pput past kn s 22)) (nI (pput past kn s 23)) (nI (pput past kn s 24)), eX0 (ad 5) (nI (pput past kn s 25)) (nI (pput past kn s 26)) (nI (pput past kn s 27)) (nI (pput past kn s 28)) (nI (pput past kn s 29)), eX0 (ad 6) (nI (pput past kn s 30)) (nI (pput past kn s 31)) (nI (pput past kn s 32)) (nI (pput past kn s 33)) (nI (pput past kn s 34)), eX0 (ad 7) (nI (pput past kn s 35)) (nI (pput past kn s 36)) (nI (pput past kn s 37)) (nI (pput past kn s 38)) (nI (pput past kn s 39))]) (st2 := []) rfl rfl rfl ?_
    refine z_aload_n X (pc := 40) 1 dX4_hand_40 rfl ?_
    refine z_get X (pc := 41) 0 1 (.ref hN) tu_4 tw_145 dX4_hand_41 rfl rfl (by decide) rfl rfl ?_
    refine z_iload_n X (pc := 44) 2 dX4_hand_44 rfl ?_
    refine z_iload_n X (pc := 45) 3 dX4_hand_45 rfl ?_
    refine zc_V (as := [.int (nI kd), .int (nI x)]) X (pc := 46) (c_X0_setHand lq D t hN (nI (s 0)) (nI (s 1)) (nI (s 2)) (nI (s 3)) (nI (s 4)) (nI kd) (nI x) ) tw_140 tw_143 tw_3 tw_141 tw_142 0 0 rfl rfl [1] rfl rfl dX4_hand_46 rfl zdX0_setHand ⟨rfl, rfl, Nat.le_of_ble_eq_true rfl, Nat.le_of_ble_eq_true rfl⟩ (Nat.le_of_ble_eq_true rfl) (Nat.zero_le _) (Nat.zero_le _) (fun v_7 w_8 hp_9 => ?_)
    obtain ⟨rfl, rfl⟩ := hp_9
    refine ⟨rfl, ?_⟩
    refine z_eq (ws2 := [eX4 h hT hN hU hA hK hW hL hZ (nI sg) (nI ev), eX0 hN (nI (s 0)) (nI (s 1)) (nI (s 2)) (nI kd) (nI x), eX1 hA hAA (nI (if kn = 8 then 8 else kn + 1)), eQ t hAA 8 (fun j => some (ad j)), eX0 (ad 0) (nI (pput past kn s 0)) (nI (pput past kn s 1)) (nI (pput past kn s 2)) (nI (pput past kn s 3)) (nI (pput past kn s 4)), eX0 (ad 1) (nI (pput past kn s 5)) (nI (pput past kn s 6)) (nI (pput past kn s 7)) (nI (pput past kn s 8)) (nI (pput past kn s 9)), eX0 (ad 2) (nI (pput past kn s 10)) (nI (pput past kn s 11)) (nI (pput past kn s 12)) (nI (pput past kn s 13)) (nI (pput past kn s 14)), eX0 (ad 3) (nI (pput past kn s 15)) (nI (pput past kn s 16)) (nI (pput past kn s 17)) (nI (pput past kn s 18)) (nI (pput past kn s 19)), eX0 (ad 4) (nI (pput past kn s 20)) (nI (pput past kn s 21)) (nI (pput past kn s 22)) (nI (pput past kn s 23)) (nI (pput past kn s 24)), eX0 (ad 5) (nI (pput past kn s 25)) (nI (pput past kn s 26)) (nI (pput past kn s 27)) (nI (pput past kn s 28)) (nI (pput past kn s 29)), eX0 (ad 6) (nI (pput past kn s 30)) (nI (pput past kn s 31)) (nI (pput past kn s 32)) (nI (pput past kn s 33)) (nI (pput past kn s 34)), eX0 (ad 7) (nI (pput past kn s 35)) (nI (pput past kn s 36)) (nI (pput past kn s 37)) (nI (pput past kn s 38)) (nI (pput past kn s 39))]) (st2 := []) rfl rfl rfl ?_
    refine z_iload_n X (pc := 49) 0 dX4_hand_49 rfl ?_
    exact hRet.i dX4_hand_50 ⟨by rw [dz_ok (a := 0) (b := 3) (by decide) kd_lo kd_hi, dz_ok (a := 0) (b := 4) (by decide) x_lo x_hi]; rfl, by rw [dz_ok (a := 0) (b := 3) (by decide) kd_lo kd_hi, dz_ok (a := 0) (b := 4) (by decide) x_lo x_hi]; rfl⟩
  · skip
    refine z_iconst X (pc := 8) (-1) dX4_hand_8 (by decide) ?_
    exact hRet.i dX4_hand_9 ⟨by rw [an_hand_bad c_5], by rw [nx_hand_bad c_5, ok2_bad c_5]; rfl⟩

abbrev rm_X4_putOver : Room := { frames := 3, cells := 0, slots := 0, locals := 63 }
set_option maxHeartbeats 4000000 in
set_option maxRecDepth 100000 in
theorem c_X4_putOver (lq : Launch) (D : va_G) (t : zT) (h hT hN hU hA hK hW hL hZ sg ev : Nat) (hAA : Nat) (ad past : Nat → Nat) (kn : Nat) (s : Nat → Nat) (e f : Int32) (hs : sOk s) (hkn : kn ≤ 8) : Ct lq D t yX4_putOver cX4_putOver 5 (some .int) rm_X4_putOver [.ref h, .int e, .int f] [eX4 h hT hN hU hA hK hW hL hZ (nI sg) (nI ev), eX0 hN (nI (s 0)) (nI (s 1)) (nI (s 2)) (nI (s 3)) (nI (s 4)), eX1 hA hAA (nI kn), eQ t hAA 8 (fun j => some (ad j)), eX0 (ad 0) (nI (past 0)) (nI (past 1)) (nI (past 2)) (nI (past 3)) (nI (past 4)), eX0 (ad 1) (nI (past 5)) (nI (past 6)) (nI (past 7)) (nI (past 8)) (nI (past 9)), eX0 (ad 2) (nI (past 10)) (nI (past 11)) (nI (past 12)) (nI (past 13)) (nI (past 14)), eX0 (ad 3) (nI (past 15)) (nI (past 16)) (nI (past 17)) (nI (past 18)) (nI (past 19)), eX0 (ad 4) (nI (past 20)) (nI (past 21)) (nI (past 22)) (nI (past 23)) (nI (past 24)), eX0 (ad 5) (nI (past 25)) (nI (past 26)) (nI (past 27)) (nI (past 28)) (nI (past 29)), eX0 (ad 6) (nI (past 30)) (nI (past 31)) (nI (past 32)) (nI (past 33)) (nI (past 34)), eX0 (ad 7) (nI (past 35)) (nI (past 36)) (nI (past 37)) (nI (past 38)) (nI (past 39))] 0 0 (fun rv rw_ => rv = some (.int (an_put s (dz 0 1 e) (dz 1 10 f))) ∧ rw_ = [eX4 h hT hN hU hA hK hW hL hZ (nI sg) (nI ev), eX0 hN (nI ((nx_put s (dz 0 1 e) (dz 1 10 f)) 0)) (nI ((nx_put s (dz 0 1 e) (dz 1 10 f)) 1)) (nI ((nx_put s (dz 0 1 e) (dz 1 10 f)) 2)) (nI ((nx_put s (dz 0 1 e) (dz 1 10 f)) 3)) (nI ((nx_put s (dz 0 1 e) (dz 1 10 f)) 4)), eX1 hA hAA (nI (nx_kn (ok_put s (dz 0 1 e) (dz 1 10 f)) kn)), eQ t hAA 8 (fun j => some (ad j)), eX0 (ad 0) (nI ((nx_past (ok_put s (dz 0 1 e) (dz 1 10 f)) past kn s) 0)) (nI ((nx_past (ok_put s (dz 0 1 e) (dz 1 10 f)) past kn s) 1)) (nI ((nx_past (ok_put s (dz 0 1 e) (dz 1 10 f)) past kn s) 2)) (nI ((nx_past (ok_put s (dz 0 1 e) (dz 1 10 f)) past kn s) 3)) (nI ((nx_past (ok_put s (dz 0 1 e) (dz 1 10 f)) past kn s) 4)), eX0 (ad 1) (nI ((nx_past (ok_put s (dz 0 1 e) (dz 1 10 f)) past kn s) 5)) (nI ((nx_past (ok_put s (dz 0 1 e) (dz 1 10 f)) past kn s) 6)) (nI ((nx_past (ok_put s (dz 0 1 e) (dz 1 10 f)) past kn s) 7)) (nI ((nx_past (ok_put s (dz 0 1 e) (dz 1 10 f)) past kn s) 8)) (nI ((nx_past (ok_put s (dz 0 1 e) (dz 1 10 f)) past kn s) 9)), eX0 (ad 2) (nI ((nx_past (ok_put s (dz 0 1 e) (dz 1 10 f)) past kn s) 10)) (nI ((nx_past (ok_put s (dz 0 1 e) (dz 1 10 f)) past kn s) 11)) (nI ((nx_past (ok_put s (dz 0 1 e) (dz 1 10 f)) past kn s) 12)) (nI ((nx_past (ok_put s (dz 0 1 e) (dz 1 10 f)) past kn s) 13)) (nI ((nx_past (ok_put s (dz 0 1 e) (dz 1 10 f)) past kn s) 14)), eX0 (ad 3) (nI ((nx_past (ok_put s (dz 0 1 e) (dz 1 10 f)) past kn s) 15)) (nI ((nx_past (ok_put s (dz 0 1 e) (dz 1 10 f)) past kn s) 16)) (nI ((nx_past (ok_put s (dz 0 1 e) (dz 1 10 f)) past kn s) 17)) (nI ((nx_past (ok_put s (dz 0 1 e) (dz 1 10 f)) past kn s) 18)) (nI ((nx_past (ok_put s (dz 0 1 e) (dz 1 10 f)) past kn s) 19)), eX0 (ad 4) (nI ((nx_past (ok_put s (dz 0 1 e) (dz 1 10 f)) past kn s) 20)) (nI ((nx_past (ok_put s (dz 0 1 e) (dz 1 10 f)) past kn s) 21)) (nI ((nx_past (ok_put s (dz 0 1 e) (dz 1 10 f)) past kn s) 22)) (nI ((nx_past (ok_put s (dz 0 1 e) (dz 1 10 f)) past kn s) 23)) (nI ((nx_past (ok_put s (dz 0 1 e) (dz 1 10 f)) past kn s) 24)), eX0 (ad 5) (nI ((nx_past (ok_put s (dz 0 1 e) (dz 1 10 f)) past kn s) 25)) (nI ((nx_past (ok_put s (dz 0 1 e) (dz 1 10 f)) past kn s) 26)) (nI ((nx_past (ok_put s (dz 0 1 e) (dz 1 10 f)) past kn s) 27)) (nI ((nx_past (ok_put s (dz 0 1 e) (dz 1 10 f)) past kn s) 28)) (nI ((nx_past (ok_put s (dz 0 1 e) (dz 1 10 f)) past kn s) 29)), eX0 (ad 6) (nI ((nx_past (ok_put s (dz 0 1 e) (dz 1 10 f)) past kn s) 30)) (nI ((nx_past (ok_put s (dz 0 1 e) (dz 1 10 f)) past kn s) 31)) (nI ((nx_past (ok_put s (dz 0 1 e) (dz 1 10 f)) past kn s) 32)) (nI ((nx_past (ok_put s (dz 0 1 e) (dz 1 10 f)) past kn s) 33)) (nI ((nx_past (ok_put s (dz 0 1 e) (dz 1 10 f)) past kn s) 34)), eX0 (ad 7) (nI ((nx_past (ok_put s (dz 0 1 e) (dz 1 10 f)) past kn s) 35)) (nI ((nx_past (ok_put s (dz 0 1 e) (dz 1 10 f)) past kn s) 36)) (nI ((nx_past (ok_put s (dz 0 1 e) (dz 1 10 f)) past kn s) 37)) (nI ((nx_past (ok_put s (dz 0 1 e) (dz 1 10 f)) past kn s) 38)) (nI ((nx_past (ok_put s (dz 0 1 e) (dz 1 10 f)) past kn s) 39))]) := by
  refine Ct.of (by decide) (Nat.le_of_ble_eq_true rfl) (fun k X hRet => ?_)
  have X : zX D t k cX4_putOver 5 RX4 "putOver" rm_X4_putOver lq := X
  refine z_eq (lv2 := [(0, .ref h), (1, .int e), (2, .int f)]) rfl rfl rfl ?_
  obtain ⟨hs0, hs1, hs2, hs3, hs4⟩ := hs
  refine z_iload_n X (pc := 0) 1 dX4_putOver_0 rfl ?_
  refine zc_S (as := [.int e]) X (pc := 1) (c_X4_isSide lq D t e ) tw_283 tw_258 tw_1 tw_257 [] rfl rfl dX4_putOver_1 rfl zdX4_isSide ⟨rfl, rfl, Nat.le_of_ble_eq_true rfl, Nat.le_of_ble_eq_true rfl⟩ (Nat.le_of_ble_eq_true rfl) (Nat.zero_le _) (Nat.zero_le _) (fun v_1 w_2 hp_3 => ?_)
  obtain ⟨rfl, rfl⟩ := hp_3
  refine ⟨rfl, ?_⟩
  refine z_eq (ws2 := [eX4 h hT hN hU hA hK hW hL hZ (nI sg) (nI ev), eX0 hN (nI (s 0)) (nI (s 1)) (nI (s 2)) (nI (s 3)) (nI (s 4)), eX1 hA hAA (nI kn), eQ t hAA 8 (fun j => some (ad j)), eX0 (ad 0) (nI (past 0)) (nI (past 1)) (nI (past 2)) (nI (past 3)) (nI (past 4)), eX0 (ad 1) (nI (past 5)) (nI (past 6)) (nI (past 7)) (nI (past 8)) (nI (past 9)), eX0 (ad 2) (nI (past 10)) (nI (past 11)) (nI (past 12)) (nI (past 13)) (nI (past 14)), eX0 (ad 3) (nI (past 15)) (nI (past 16)) (nI (past 17)) (nI (past 18)) (nI (past 19)), eX0 (ad 4) (nI (past 20)) (nI (past 21)) (nI (past 22)) (nI (past 23)) (nI (past 24)), eX0 (ad 5) (nI (past 25)) (nI (past 26)) (nI (past 27)) (nI (past 28)) (nI (past 29)), eX0 (ad 6) (nI (past 30)) (nI (past 31)) (nI (past 32)) (nI (past 33)) (nI (past 34)), eX0 (ad 7) (nI (past 35)) (nI (past 36)) (nI (past 37)) (nI (past 38)) (nI (past 39))]) (st2 := [.int (zb (nI 0 ≤ e ∧ e ≤ nI 1))]) rfl rfl rfl ?_
  refine z_if_eqB X (pc := 4) 17 dX4_putOver_4 (by decide) (fun c_4 => ?_) (fun c_4 => ?_)
  · skip
    refine z_iconst X (pc := 17) (-1) dX4_putOver_17 (by decide) ?_
    exact hRet.i dX4_putOver_18 ⟨by rw [dz_bad (a := 0) (b := 1) c_4]; rfl, by rw [dz_bad (a := 0) (b := 1) c_4]; rfl⟩
  · skip
    refine z_iload_n X (pc := 7) 2 dX4_putOver_7 rfl ?_
    refine z_iconst X (pc := 8) (nI 1) dX4_putOver_8 (by decide) ?_
    refine z_bipush X (pc := 9) (nI 10) dX4_putOver_9 (by decide) ?_
    refine zc_S (as := [.int f, .int (nI 1), .int (nI 10)]) X (pc := 11) (c_X4_within lq D t f (nI 1) (nI 10) ) tw_180 tw_182 tw_1 tw_181 [] rfl rfl dX4_putOver_11 rfl zdX4_within ⟨rfl, rfl, Nat.le_of_ble_eq_true rfl, Nat.le_of_ble_eq_true rfl⟩ (Nat.le_of_ble_eq_true rfl) (Nat.zero_le _) (Nat.zero_le _) (fun v_4 w_5 hp_6 => ?_)
    obtain ⟨rfl, rfl⟩ := hp_6
    refine ⟨rfl, ?_⟩
    refine z_eq (ws2 := [eX4 h hT hN hU hA hK hW hL hZ (nI sg) (nI ev), eX0 hN (nI (s 0)) (nI (s 1)) (nI (s 2)) (nI (s 3)) (nI (s 4)), eX1 hA hAA (nI kn), eQ t hAA 8 (fun j => some (ad j)), eX0 (ad 0) (nI (past 0)) (nI (past 1)) (nI (past 2)) (nI (past 3)) (nI (past 4)), eX0 (ad 1) (nI (past 5)) (nI (past 6)) (nI (past 7)) (nI (past 8)) (nI (past 9)), eX0 (ad 2) (nI (past 10)) (nI (past 11)) (nI (past 12)) (nI (past 13)) (nI (past 14)), eX0 (ad 3) (nI (past 15)) (nI (past 16)) (nI (past 17)) (nI (past 18)) (nI (past 19)), eX0 (ad 4) (nI (past 20)) (nI (past 21)) (nI (past 22)) (nI (past 23)) (nI (past 24)), eX0 (ad 5) (nI (past 25)) (nI (past 26)) (nI (past 27)) (nI (past 28)) (nI (past 29)), eX0 (ad 6) (nI (past 30)) (nI (past 31)) (nI (past 32)) (nI (past 33)) (nI (past 34)), eX0 (ad 7) (nI (past 35)) (nI (past 36)) (nI (past 37)) (nI (past 38)) (nI (past 39))]) (st2 := [.int (zb ((nI 1) ≤ f ∧ f ≤ (nI 10)))]) rfl rfl rfl ?_
    refine z_if_neB X (pc := 14) 19 dX4_putOver_14 (by decide) (fun c_14 => ?_) (fun c_14 => ?_)
    · skip
      obtain ⟨q, q_lo, q_hi, rfl⟩ := inR (by decide) (by decide) c_14
      obtain ⟨sd, sd_lo, sd_hi, rfl⟩ := inR (by decide) (by decide) c_4
      rcases (show sd = 0 ∨ sd = 1 by omega) with rfl | rfl
      · skip
        refine z_aload_n X (pc := 19) 0 dX4_putOver_19 rfl ?_
        refine z_get X (pc := 20) 0 1 (.ref hN) tu_4 tw_145 dX4_putOver_20 rfl rfl (by decide) rfl rfl ?_
        refine z_iload_n X (pc := 23) 1 dX4_putOver_23 rfl ?_
        refine zc_V (as := [.int (nI 0)]) X (pc := 24) (c_X0_inBox lq D t hN (s 0) (s 1) (s 2) (s 3) (s 4) 0 (by decide)) tw_284 tw_287 tw_3 tw_285 tw_286 0 0 rfl rfl [1] rfl rfl dX4_putOver_24 rfl zdX0_inBox ⟨rfl, rfl, Nat.le_of_ble_eq_true rfl, Nat.le_of_ble_eq_true rfl⟩ (Nat.le_of_ble_eq_true rfl) (Nat.zero_le _) (Nat.zero_le _) (fun v_7 w_8 hp_9 => ?_)
        obtain ⟨rfl, rfl⟩ := hp_9
        refine ⟨rfl, ?_⟩
        refine z_eq (ws2 := [eX4 h hT hN hU hA hK hW hL hZ (nI sg) (nI ev), eX0 hN (nI (s 0)) (nI (s 1)) (nI (s 2)) (nI (s 3)) (nI (s 4)), eX1 hA hAA (nI kn), eQ t hAA 8 (fun j => some (ad j)), eX0 (ad 0) (nI (past 0)) (nI (past 1)) (nI (past 2)) (nI (past 3)) (nI (past 4)), eX0 (ad 1) (nI (past 5)) (nI (past 6)) (nI (past 7)) (nI (past 8)) (nI (past 9)), eX0 (ad 2) (nI (past 10)) (nI (past 11)) (nI (past 12)) (nI (past 13)) (nI (past 14)), eX0 (ad 3) (nI (past 15)) (nI (past 16)) (nI (past 17)) (nI (past 18)) (nI (past 19)), eX0 (ad 4) (nI (past 20)) (nI (past 21)) (nI (past 22)) (nI (past 23)) (nI (past 24)), eX0 (ad 5) (nI (past 25)) (nI (past 26)) (nI (past 27)) (nI (past 28)) (nI (past 29)), eX0 (ad 6) (nI (past 30)) (nI (past 31)) (nI (past 32)) (nI (past 33)) (nI (past 34)), eX0 (ad 7) (nI (past 35)) (nI (past 36)) (nI (past 37)) (nI (past 38)) (nI (past 39))]) (st2 := [.int (nI (s 0))]) rfl rfl rfl ?_
        refine z_istore_n X (pc := 27) (i := 3) [(3, .int (nI (s 0))), (0, .ref h), (1, .int (nI 0)), (2, .int (nI q))] dX4_putOver_27 rfl (by decide) rfl ?_
        refine z_aload_n X (pc := 28) 1 dX4_putOver_28 rfl ?_
        refine z_get X (pc := 29) 0 1 (.ref hN) tu_4 tw_145 dX4_putOver_29 rfl rfl (by decide) rfl rfl ?_
        refine z_iload_n X (pc := 32) 2 dX4_putOver_32 rfl ?_
        refine zc_S (as := [.int (nI 0)]) X (pc := 33) (c_X4_otherSide lq D t 0 (by decide)) tw_333 tw_335 tw_1 tw_334 [] rfl rfl dX4_putOver_33 rfl zdX4_otherSide ⟨rfl, rfl, Nat.le_of_ble_eq_true rfl, Nat.le_of_ble_eq_true rfl⟩ (Nat.le_of_ble_eq_true rfl) (Nat.zero_le _) (Nat.zero_le _) (fun v_10 w_11 hp_12 => ?_)
        obtain ⟨rfl, rfl⟩ := hp_12
        refine ⟨rfl, ?_⟩
        refine z_eq (ws2 := [eX4 h hT hN hU hA hK hW hL hZ (nI sg) (nI ev), eX0 hN (nI (s 0)) (nI (s 1)) (nI (s 2)) (nI (s 3)) (nI (s 4)), eX1 hA hAA (nI kn), eQ t hAA 8 (fun j => some (ad j)), eX0 (ad 0) (nI (past 0)) (nI (past 1)) (nI (past 2)) (nI (past 3)) (nI (past 4)), eX0 (ad 1) (nI (past 5)) (nI (past 6)) (nI (past 7)) (nI (past 8)) (nI (past 9)), eX0 (ad 2) (nI (past 10)) (nI (past 11)) (nI (past 12)) (nI (past 13)) (nI (past 14)), eX0 (ad 3) (nI (past 15)) (nI (past 16)) (nI (past 17)) (nI (past 18)) (nI (past 19)), eX0 (ad 4) (nI (past 20)) (nI (past 21)) (nI (past 22)) (nI (past 23)) (nI (past 24)), eX0 (ad 5) (nI (past 25)) (nI (past 26)) (nI (past 27)) (nI (past 28)) (nI (past 29)), eX0 (ad 6) (nI (past 30)) (nI (past 31)) (nI (past 32)) (nI (past 33)) (nI (past 34)), eX0 (ad 7) (nI (past 35)) (nI (past 36)) (nI (past 37)) (nI (past 38)) (nI (past 39))]) (st2 := [.int (nI 1), .ref hN]) rfl rfl rfl ?_
        refine zc_V (as := [.int (nI 1)]) X (pc := 36) (c_X0_inBox lq D t hN (s 0) (s 1) (s 2) (s 3) (s 4) 1 (by decide)) tw_284 tw_287 tw_3 tw_285 tw_286 0 0 rfl rfl [1] rfl rfl dX4_putOver_36 rfl zdX0_inBox ⟨rfl, rfl, Nat.le_of_ble_eq_true rfl, Nat.le_of_ble_eq_true rfl⟩ (Nat.le_of_ble_eq_true rfl) (Nat.zero_le _) (Nat.zero_le _) (fun v_13 w_14 hp_15 => ?_)
        obtain ⟨rfl, rfl⟩ := hp_15
        refine ⟨rfl, ?_⟩
        refine z_eq (ws2 := [eX4 h hT hN hU hA hK hW hL hZ (nI sg) (nI ev), eX0 hN (nI (s 0)) (nI (s 1)) (nI (s 2)) (nI (s 3)) (nI (s 4)), eX1 hA hAA (nI kn), eQ t hAA 8 (fun j => some (ad j)), eX0 (ad 0) (nI (past 0)) (nI (past 1)) (nI (past 2)) (nI (past 3)) (nI (past 4)), eX0 (ad 1) (nI (past 5)) (nI (past 6)) (nI (past 7)) (nI (past 8)) (nI (past 9)), eX0 (ad 2) (nI (past 10)) (nI (past 11)) (nI (past 12)) (nI (past 13)) (nI (past 14)), eX0 (ad 3) (nI (past 15)) (nI (past 16)) (nI (past 17)) (nI (past 18)) (nI (past 19)), eX0 (ad 4) (nI (past 20)) (nI (past 21)) (nI (past 22)) (nI (past 23)) (nI (past 24)), eX0 (ad 5) (nI (past 25)) (nI (past 26)) (nI (past 27)) (nI (past 28)) (nI (past 29)), eX0 (ad 6) (nI (past 30)) (nI (past 31)) (nI (past 32)) (nI (past 33)) (nI (past 34)), eX0 (ad 7) (nI (past 35)) (nI (past 36)) (nI (past 37)) (nI (past 38)) (nI (past 39))]) (st2 := [.int (nI (s 1))]) rfl rfl rfl ?_
        refine z_istore X (pc := 39) (i := 4) [(4, .int (nI (s 1))), (3, .int (nI (s 0))), (0, .ref h), (1, .int (nI 0)), (2, .int (nI q))] dX4_putOver_39 trivial (by decide) rfl ?_
        refine z_iload_n X (pc := 41) 1 dX4_putOver_41 rfl ?_
        refine z_iload_n X (pc := 42) 4 dX4_putOver_42 rfl ?_
        refine z_icmp_geN X (pc := 43) 49 (by omega) (by omega) dX4_putOver_43 (by decide) (fun c_43 => ?_) (fun c_43 => ?_)
        · skip
          refine z_iload X (pc := 49) 0 dX4_putOver_49 rfl ?_
          refine z_iload_n X (pc := 51) 4 dX4_putOver_51 rfl ?_
          refine z_iadd X (pc := 52) (v := (nI (s 1 + q))) dX4_putOver_52 (nI_add (s 1) q) ?_
          refine z_bipush X (pc := 53) (nI 10) dX4_putOver_53 (by decide) ?_
          refine z_icmp_leN X (pc := 55) 61 (by omega) (by omega) dX4_putOver_55 (by decide) (fun c_55 => ?_) (fun c_55 => ?_)
          · skip
            refine z_aload_n X (pc := 61) 2 dX4_putOver_61 rfl ?_
            refine z_get X (pc := 62) 0 3 (.ref hA) tu_4 tw_147 dX4_putOver_62 rfl rfl (by decide) rfl rfl ?_
            refine z_aload_n X (pc := 65) 2 dX4_putOver_65 rfl ?_
            refine z_get X (pc := 66) 0 1 (.ref hN) tu_4 tw_145 dX4_putOver_66 rfl rfl (by decide) rfl rfl ?_
            refine zc_V (as := [.ref hN]) X (pc := 69) (c_X1_put8 lq D t hA hAA ad past kn hN s (by omega)) tw_306 tw_309 tw_4 tw_307 tw_308 0 1 rfl rfl [2, 3, 4, 5, 6, 7, 8, 9, 10, 11, 1] rfl rfl dX4_putOver_69 rfl zdX1_put ⟨rfl, rfl, Nat.le_of_ble_eq_true rfl, Nat.le_of_ble_eq_true rfl⟩ (Nat.le_of_ble_eq_true rfl) (Nat.zero_le _) (Nat.zero_le _) (fun v_16 w_17 hp_18 => ?_)
            obtain ⟨rfl, rfl⟩ := hp_18
            refine ⟨rfl, ?_⟩
            refine z_eq (ws2 := [eX4 h hT hN hU hA hK hW hL hZ (nI sg) (nI ev), eX0 hN (nI (s 0)) (nI (s 1)) (nI (s 2)) (nI (s 3)) (nI (s 4)), eX1 hA hAA (nI (if kn = 8 then 8 else kn + 1)), eQ t hAA 8 (fun j => some (ad j)), eX0 (ad 0) (nI (pput past kn s 0)) (nI (pput past kn s 1)) (nI (pput past kn s 2)) (nI (pput past kn s 3)) (nI (pput past kn s 4)), eX0 (ad 1) (nI (pput past kn s 5)) (nI (pput past kn s 6)) (nI (pput past kn s 7)) (nI (pput past kn s 8)) (nI (pput past kn s 9)), eX0 (ad 2) (nI (pput past kn s 10)) (nI (pput past kn s 11)) (nI (pput past kn s 12)) (nI (pput past kn s 13)) (nI (pput past kn s 14)), eX0 (ad 3) (nI (pput past kn s 15)) (nI (pput past kn s 16)) (nI (pput past kn s 17)) (nI (pput past kn s 18)) (nI (pput past kn s 19)), eX0 (ad 4) (nI (pput past kn s 20)) (nI (pput past kn s 21)) (nI (pput past kn s 22)) (nI (pput past kn s 23)) (nI (pput past kn s 24)), eX0 (ad 5) (nI (pput past kn s 25)) (nI (pput past kn s 26)) (nI (pput past kn s 27)) (nI (pput past kn s 28)) (nI (pput past kn s 29)), eX0 (ad 6) (nI (pput past kn s 30)) (nI (pput past kn s 31)) (nI (pput past kn s 32)) (nI (pput past kn s 33)) (nI (pput past kn s 34)), eX0 (ad 7) (nI (pput past kn s 35)) (nI (pput past kn s 36)) (nI (pput past kn s 37)) (nI (pput past kn s 38)) (nI (pput past kn s 39))]) (st2 := []) rfl rfl rfl ?_
            refine z_aload_n X (pc := 72) 2 dX4_putOver_72 rfl ?_
            refine z_get X (pc := 73) 0 1 (.ref hN) tu_4 tw_145 dX4_putOver_73 rfl rfl (by decide) rfl rfl ?_
            refine z_iload_n X (pc := 76) 3 dX4_putOver_76 rfl ?_
            refine z_iload_n X (pc := 77) 1 dX4_putOver_77 rfl ?_
            refine z_iload_n X (pc := 78) 4 dX4_putOver_78 rfl ?_
            refine z_isub X (pc := 79) (v := (nI ((s 0) - q))) dX4_putOver_79 (pk_sub (by omega)) ?_
            refine zc_V (as := [.int (nI 0), .int (nI ((s 0) - q))]) X (pc := 80) (c_X0_setBox lq D t hN (s 0) (s 1) (s 2) (s 3) (s 4) 0 ((s 0) - q) (by decide)) tw_336 tw_328 tw_3 tw_326 tw_327 0 0 rfl rfl [1] rfl rfl dX4_putOver_80 rfl zdX0_setBox ⟨rfl, rfl, Nat.le_of_ble_eq_true rfl, Nat.le_of_ble_eq_true rfl⟩ (Nat.le_of_ble_eq_true rfl) (Nat.zero_le _) (Nat.zero_le _) (fun v_19 w_20 hp_21 => ?_)
            obtain ⟨rfl, rfl⟩ := hp_21
            refine ⟨rfl, ?_⟩
            refine z_eq (ws2 := [eX4 h hT hN hU hA hK hW hL hZ (nI sg) (nI ev), eX0 hN (nI ((s 0) - q)) (nI (s 1)) (nI (s 2)) (nI (s 3)) (nI (s 4)), eX1 hA hAA (nI (if kn = 8 then 8 else kn + 1)), eQ t hAA 8 (fun j => some (ad j)), eX0 (ad 0) (nI (pput past kn s 0)) (nI (pput past kn s 1)) (nI (pput past kn s 2)) (nI (pput past kn s 3)) (nI (pput past kn s 4)), eX0 (ad 1) (nI (pput past kn s 5)) (nI (pput past kn s 6)) (nI (pput past kn s 7)) (nI (pput past kn s 8)) (nI (pput past kn s 9)), eX0 (ad 2) (nI (pput past kn s 10)) (nI (pput past kn s 11)) (nI (pput past kn s 12)) (nI (pput past kn s 13)) (nI (pput past kn s 14)), eX0 (ad 3) (nI (pput past kn s 15)) (nI (pput past kn s 16)) (nI (pput past kn s 17)) (nI (pput past kn s 18)) (nI (pput past kn s 19)), eX0 (ad 4) (nI (pput past kn s 20)) (nI (pput past kn s 21)) (nI (pput past kn s 22)) (nI (pput past kn s 23)) (nI (pput past kn s 24)), eX0 (ad 5) (nI (pput past kn s 25)) (nI (pput past kn s 26)) (nI (pput past kn s 27)) (nI (pput past kn s 28)) (nI (pput past kn s 29)), eX0 (ad 6) (nI (pput past kn s 30)) (nI (pput past kn s 31)) (nI (pput past kn s 32)) (nI (pput past kn s 33)) (nI (pput past kn s 34)), eX0 (ad 7) (nI (pput past kn s 35)) (nI (pput past kn s 36)) (nI (pput past kn s 37)) (nI (pput past kn s 38)) (nI (pput past kn s 39))]) (st2 := []) rfl rfl rfl ?_
            refine z_aload_n X (pc := 83) 2 dX4_putOver_83 rfl ?_
            refine z_get X (pc := 84) 0 1 (.ref hN) tu_4 tw_145 dX4_putOver_84 rfl rfl (by decide) rfl rfl ?_
            refine z_iload_n X (pc := 87) 3 dX4_putOver_87 rfl ?_
            refine zc_S (as := [.int (nI 0)]) X (pc := 88) (c_X4_otherSide lq D t 0 (by decide)) tw_333 tw_335 tw_1 tw_334 [] rfl rfl dX4_putOver_88 rfl zdX4_otherSide ⟨rfl, rfl, Nat.le_of_ble_eq_true rfl, Nat.le_of_ble_eq_true rfl⟩ (Nat.le_of_ble_eq_true rfl) (Nat.zero_le _) (Nat.zero_le _) (fun v_22 w_23 hp_24 => ?_)
            obtain ⟨rfl, rfl⟩ := hp_24
            refine ⟨rfl, ?_⟩
            refine z_eq (ws2 := [eX4 h hT hN hU hA hK hW hL hZ (nI sg) (nI ev), eX0 hN (nI ((s 0) - q)) (nI (s 1)) (nI (s 2)) (nI (s 3)) (nI (s 4)), eX1 hA hAA (nI (if kn = 8 then 8 else kn + 1)), eQ t hAA 8 (fun j => some (ad j)), eX0 (ad 0) (nI (pput past kn s 0)) (nI (pput past kn s 1)) (nI (pput past kn s 2)) (nI (pput past kn s 3)) (nI (pput past kn s 4)), eX0 (ad 1) (nI (pput past kn s 5)) (nI (pput past kn s 6)) (nI (pput past kn s 7)) (nI (pput past kn s 8)) (nI (pput past kn s 9)), eX0 (ad 2) (nI (pput past kn s 10)) (nI (pput past kn s 11)) (nI (pput past kn s 12)) (nI (pput past kn s 13)) (nI (pput past kn s 14)), eX0 (ad 3) (nI (pput past kn s 15)) (nI (pput past kn s 16)) (nI (pput past kn s 17)) (nI (pput past kn s 18)) (nI (pput past kn s 19)), eX0 (ad 4) (nI (pput past kn s 20)) (nI (pput past kn s 21)) (nI (pput past kn s 22)) (nI (pput past kn s 23)) (nI (pput past kn s 24)), eX0 (ad 5) (nI (pput past kn s 25)) (nI (pput past kn s 26)) (nI (pput past kn s 27)) (nI (pput past kn s 28)) (nI (pput past kn s 29)), eX0 (ad 6) (nI (pput past kn s 30)) (nI (pput past kn s 31)) (nI (pput past kn s 32)) (nI (pput past kn s 33)) (nI (pput past kn s 34)), eX0 (ad 7) (nI (pput past kn s 35)) (nI (pput past kn s 36)) (nI (pput past kn s 37)) (nI (pput past kn s 38)) (nI (pput past kn s 39))]) (st2 := [.int (nI 1), .ref hN]) rfl rfl rfl ?_
            refine z_iload X (pc := 91) 0 dX4_putOver_91 rfl ?_
            refine z_iload_n X (pc := 93) 4 dX4_putOver_93 rfl ?_
            refine z_iadd X (pc := 94) (v := (nI (s 1 + q))) dX4_putOver_94 (nI_add (s 1) q) ?_
            refine zc_V (as := [.int (nI 1), .int (nI (s 1 + q))]) X (pc := 95) (c_X0_setBox lq D t hN ((s 0) - q) (s 1) (s 2) (s 3) (s 4) 1 (s 1 + q) (by decide)) tw_336 tw_328 tw_3 tw_326 tw_327 0 0 rfl rfl [1] rfl rfl dX4_putOver_95 rfl zdX0_setBox ⟨rfl, rfl, Nat.le_of_ble_eq_true rfl, Nat.le_of_ble_eq_true rfl⟩ (Nat.le_of_ble_eq_true rfl) (Nat.zero_le _) (Nat.zero_le _) (fun v_25 w_26 hp_27 => ?_)
            obtain ⟨rfl, rfl⟩ := hp_27
            refine ⟨rfl, ?_⟩
            refine z_eq (ws2 := [eX4 h hT hN hU hA hK hW hL hZ (nI sg) (nI ev), eX0 hN (nI ((s 0) - q)) (nI (s 1 + q)) (nI (s 2)) (nI (s 3)) (nI (s 4)), eX1 hA hAA (nI (if kn = 8 then 8 else kn + 1)), eQ t hAA 8 (fun j => some (ad j)), eX0 (ad 0) (nI (pput past kn s 0)) (nI (pput past kn s 1)) (nI (pput past kn s 2)) (nI (pput past kn s 3)) (nI (pput past kn s 4)), eX0 (ad 1) (nI (pput past kn s 5)) (nI (pput past kn s 6)) (nI (pput past kn s 7)) (nI (pput past kn s 8)) (nI (pput past kn s 9)), eX0 (ad 2) (nI (pput past kn s 10)) (nI (pput past kn s 11)) (nI (pput past kn s 12)) (nI (pput past kn s 13)) (nI (pput past kn s 14)), eX0 (ad 3) (nI (pput past kn s 15)) (nI (pput past kn s 16)) (nI (pput past kn s 17)) (nI (pput past kn s 18)) (nI (pput past kn s 19)), eX0 (ad 4) (nI (pput past kn s 20)) (nI (pput past kn s 21)) (nI (pput past kn s 22)) (nI (pput past kn s 23)) (nI (pput past kn s 24)), eX0 (ad 5) (nI (pput past kn s 25)) (nI (pput past kn s 26)) (nI (pput past kn s 27)) (nI (pput past kn s 28)) (nI (pput past kn s 29)), eX0 (ad 6) (nI (pput past kn s 30)) (nI (pput past kn s 31)) (nI (pput past kn s 32)) (nI (pput past kn s 33)) (nI (pput past kn s 34)), eX0 (ad 7) (nI (pput past kn s 35)) (nI (pput past kn s 36)) (nI (pput past kn s 37)) (nI (pput past kn s 38)) (nI (pput past kn s 39))]) (st2 := []) rfl rfl rfl ?_
            refine z_iload_n X (pc := 98) 1 dX4_putOver_98 rfl ?_
            refine z_iload_n X (pc := 99) 4 dX4_putOver_99 rfl ?_
            refine z_isub X (pc := 100) (v := (nI ((s 0) - q))) dX4_putOver_100 (pk_sub (by omega)) ?_
            exact hRet.i dX4_putOver_101 ⟨by rw [dz_ok (a := 0) (b := 1) (by decide) (by decide) (by decide), dz_ok (a := 1) (b := 10) (by decide) q_lo q_hi]; exact congrArg (fun z => some (Value.int z)) (an_put_ok (sd := 0) (show ¬ s 0 < q by omega) (show ¬ 10 < s 1 + q by omega)).symm, by rw [dz_ok (a := 0) (b := 1) (by decide) (by decide) (by decide), dz_ok (a := 1) (b := 10) (by decide) q_lo q_hi, (nx_put_ok (sd := 0) (show ¬ s 0 < q by omega) (show ¬ 10 < s 1 + q by omega)).1, (nx_put_ok (sd := 0) (show ¬ s 0 < q by omega) (show ¬ 10 < s 1 + q by omega)).2]; rfl⟩
          · skip
            refine z_bipush X (pc := 58) (-3) dX4_putOver_58 (by decide) ?_
            exact hRet.i dX4_putOver_60 ⟨by rw [dz_ok (a := 0) (b := 1) (by decide) (by decide) (by decide), dz_ok (a := 1) (b := 10) (by decide) q_lo q_hi]; exact congrArg (fun z => some (Value.int z)) (an_put_full (sd := 0) (show ¬ s 0 < q by omega) (show 10 < s 1 + q by omega)).symm, by rw [dz_ok (a := 0) (b := 1) (by decide) (by decide) (by decide), dz_ok (a := 1) (b := 10) (by decide) q_lo q_hi, (nx_put_full (sd := 0) (show ¬ s 0 < q by omega) (show 10 < s 1 + q by omega)).1, (nx_put_full (sd := 0) (show ¬ s 0 < q by omega) (show 10 < s 1 + q by omega)).2]; rfl⟩
        · skip
          refine z_bipush X (pc := 46) (-2) dX4_putOver_46 (by decide) ?_
          exact hRet.i dX4_putOver_48 ⟨by rw [dz_ok (a := 0) (b := 1) (by decide) (by decide) (by decide), dz_ok (a := 1) (b := 10) (by decide) q_lo q_hi]; exact congrArg (fun z => some (Value.int z)) (an_put_lt (sd := 0) (show s 0 < q by omega)).symm, by rw [dz_ok (a := 0) (b := 1) (by decide) (by decide) (by decide), dz_ok (a := 1) (b := 10) (by decide) q_lo q_hi, (nx_put_lt (sd := 0) (show s 0 < q by omega)).1, (nx_put_lt (sd := 0) (show s 0 < q by omega)).2]; rfl⟩
      · skip
        refine z_aload_n X (pc := 19) 0 dX4_putOver_19 rfl ?_
        refine z_get X (pc := 20) 0 1 (.ref hN) tu_4 tw_145 dX4_putOver_20 rfl rfl (by decide) rfl rfl ?_
        refine z_iload_n X (pc := 23) 1 dX4_putOver_23 rfl ?_
        refine zc_V (as := [.int (nI 1)]) X (pc := 24) (c_X0_inBox lq D t hN (s 0) (s 1) (s 2) (s 3) (s 4) 1 (by decide)) tw_284 tw_287 tw_3 tw_285 tw_286 0 0 rfl rfl [1] rfl rfl dX4_putOver_24 rfl zdX0_inBox ⟨rfl, rfl, Nat.le_of_ble_eq_true rfl, Nat.le_of_ble_eq_true rfl⟩ (Nat.le_of_ble_eq_true rfl) (Nat.zero_le _) (Nat.zero_le _) (fun v_28 w_29 hp_30 => ?_)
        obtain ⟨rfl, rfl⟩ := hp_30
        refine ⟨rfl, ?_⟩
        refine z_eq (ws2 := [eX4 h hT hN hU hA hK hW hL hZ (nI sg) (nI ev), eX0 hN (nI (s 0)) (nI (s 1)) (nI (s 2)) (nI (s 3)) (nI (s 4)), eX1 hA hAA (nI kn), eQ t hAA 8 (fun j => some (ad j)), eX0 (ad 0) (nI (past 0)) (nI (past 1)) (nI (past 2)) (nI (past 3)) (nI (past 4)), eX0 (ad 1) (nI (past 5)) (nI (past 6)) (nI (past 7)) (nI (past 8)) (nI (past 9)), eX0 (ad 2) (nI (past 10)) (nI (past 11)) (nI (past 12)) (nI (past 13)) (nI (past 14)), eX0 (ad 3) (nI (past 15)) (nI (past 16)) (nI (past 17)) (nI (past 18)) (nI (past 19)), eX0 (ad 4) (nI (past 20)) (nI (past 21)) (nI (past 22)) (nI (past 23)) (nI (past 24)), eX0 (ad 5) (nI (past 25)) (nI (past 26)) (nI (past 27)) (nI (past 28)) (nI (past 29)), eX0 (ad 6) (nI (past 30)) (nI (past 31)) (nI (past 32)) (nI (past 33)) (nI (past 34)), eX0 (ad 7) (nI (past 35)) (nI (past 36)) (nI (past 37)) (nI (past 38)) (nI (past 39))]) (st2 := [.int (nI (s 1))]) rfl rfl rfl ?_
        refine z_istore_n X (pc := 27) (i := 3) [(3, .int (nI (s 1))), (0, .ref h), (1, .int (nI 1)), (2, .int (nI q))] dX4_putOver_27 rfl (by decide) rfl ?_
        refine z_aload_n X (pc := 28) 1 dX4_putOver_28 rfl ?_
        refine z_get X (pc := 29) 0 1 (.ref hN) tu_4 tw_145 dX4_putOver_29 rfl rfl (by decide) rfl rfl ?_
        refine z_iload_n X (pc := 32) 2 dX4_putOver_32 rfl ?_
        refine zc_S (as := [.int (nI 1)]) X (pc := 33) (c_X4_otherSide lq D t 1 (by decide)) tw_333 tw_335 tw_1 tw_334 [] rfl rfl dX4_putOver_33 rfl zdX4_otherSide ⟨rfl, rfl, Nat.le_of_ble_eq_true rfl, Nat.le_of_ble_eq_true rfl⟩ (Nat.le_of_ble_eq_true rfl) (Nat.zero_le _) (Nat.zero_le _) (fun v_31 w_32 hp_33 => ?_)
        obtain ⟨rfl, rfl⟩ := hp_33
        refine ⟨rfl, ?_⟩
        refine z_eq (ws2 := [eX4 h hT hN hU hA hK hW hL hZ (nI sg) (nI ev), eX0 hN (nI (s 0)) (nI (s 1)) (nI (s 2)) (nI (s 3)) (nI (s 4)), eX1 hA hAA (nI kn), eQ t hAA 8 (fun j => some (ad j)), eX0 (ad 0) (nI (past 0)) (nI (past 1)) (nI (past 2)) (nI (past 3)) (nI (past 4)), eX0 (ad 1) (nI (past 5)) (nI (past 6)) (nI (past 7)) (nI (past 8)) (nI (past 9)), eX0 (ad 2) (nI (past 10)) (nI (past 11)) (nI (past 12)) (nI (past 13)) (nI (past 14)), eX0 (ad 3) (nI (past 15)) (nI (past 16)) (nI (past 17)) (nI (past 18)) (nI (past 19)), eX0 (ad 4) (nI (past 20)) (nI (past 21)) (nI (past 22)) (nI (past 23)) (nI (past 24)), eX0 (ad 5) (nI (past 25)) (nI (past 26)) (nI (past 27)) (nI (past 28)) (nI (past 29)), eX0 (ad 6) (nI (past 30)) (nI (past 31)) (nI (past 32)) (nI (past 33)) (nI (past 34)), eX0 (ad 7) (nI (past 35)) (nI (past 36)) (nI (past 37)) (nI (past 38)) (nI (past 39))]) (st2 := [.int (nI 0), .ref hN]) rfl rfl rfl ?_
        refine zc_V (as := [.int (nI 0)]) X (pc := 36) (c_X0_inBox lq D t hN (s 0) (s 1) (s 2) (s 3) (s 4) 0 (by decide)) tw_284 tw_287 tw_3 tw_285 tw_286 0 0 rfl rfl [1] rfl rfl dX4_putOver_36 rfl zdX0_inBox ⟨rfl, rfl, Nat.le_of_ble_eq_true rfl, Nat.le_of_ble_eq_true rfl⟩ (Nat.le_of_ble_eq_true rfl) (Nat.zero_le _) (Nat.zero_le _) (fun v_34 w_35 hp_36 => ?_)
        obtain ⟨rfl, rfl⟩ := hp_36
        refine ⟨rfl, ?_⟩
        refine z_eq (ws2 := [eX4 h hT hN hU hA hK hW hL hZ (nI sg) (nI ev), eX0 hN (nI (s 0)) (nI (s 1)) (nI (s 2)) (nI (s 3)) (nI (s 4)), eX1 hA hAA (nI kn), eQ t hAA 8 (fun j => some (ad j)), eX0 (ad 0) (nI (past 0)) (nI (past 1)) (nI (past 2)) (nI (past 3)) (nI (past 4)), eX0 (ad 1) (nI (past 5)) (nI (past 6)) (nI (past 7)) (nI (past 8)) (nI (past 9)), eX0 (ad 2) (nI (past 10)) (nI (past 11)) (nI (past 12)) (nI (past 13)) (nI (past 14)), eX0 (ad 3) (nI (past 15)) (nI (past 16)) (nI (past 17)) (nI (past 18)) (nI (past 19)), eX0 (ad 4) (nI (past 20)) (nI (past 21)) (nI (past 22)) (nI (past 23)) (nI (past 24)), eX0 (ad 5) (nI (past 25)) (nI (past 26)) (nI (past 27)) (nI (past 28)) (nI (past 29)), eX0 (ad 6) (nI (past 30)) (nI (past 31)) (nI (past 32)) (nI (past 33)) (nI (past 34)), eX0 (ad 7) (nI (past 35)) (nI (past 36)) (nI (past 37)) (nI (past 38)) (nI (past 39))]) (st2 := [.int (nI (s 0))]) rfl rfl rfl ?_
        refine z_istore X (pc := 39) (i := 4) [(4, .int (nI (s 0))), (3, .int (nI (s 1))), (0, .ref h), (1, .int (nI 1)), (2, .int (nI q))] dX4_putOver_39 trivial (by decide) rfl ?_
        refine z_iload_n X (pc := 41) 1 dX4_putOver_41 rfl ?_
        refine z_iload_n X (pc := 42) 4 dX4_putOver_42 rfl ?_
        refine z_icmp_geN X (pc := 43) 49 (by omega) (by omega) dX4_putOver_43 (by decide) (fun c_43 => ?_) (fun c_43 => ?_)
        · skip
          refine z_iload X (pc := 49) 0 dX4_putOver_49 rfl ?_
          refine z_iload_n X (pc := 51) 4 dX4_putOver_51 rfl ?_
          refine z_iadd X (pc := 52) (v := (nI (s 0 + q))) dX4_putOver_52 (nI_add (s 0) q) ?_
          refine z_bipush X (pc := 53) (nI 10) dX4_putOver_53 (by decide) ?_
          refine z_icmp_leN X (pc := 55) 61 (by omega) (by omega) dX4_putOver_55 (by decide) (fun c_55 => ?_) (fun c_55 => ?_)
          · skip
            refine z_aload_n X (pc := 61) 2 dX4_putOver_61 rfl ?_
            refine z_get X (pc := 62) 0 3 (.ref hA) tu_4 tw_147 dX4_putOver_62 rfl rfl (by decide) rfl rfl ?_
            refine z_aload_n X (pc := 65) 2 dX4_putOver_65 rfl ?_
            refine z_get X (pc := 66) 0 1 (.ref hN) tu_4 tw_145 dX4_putOver_66 rfl rfl (by decide) rfl rfl ?_
            refine zc_V (as := [.ref hN]) X (pc := 69) (c_X1_put8 lq D t hA hAA ad past kn hN s (by omega)) tw_306 tw_309 tw_4 tw_307 tw_308 0 1 rfl rfl [2, 3, 4, 5, 6, 7, 8, 9, 10, 11, 1] rfl rfl dX4_putOver_69 rfl zdX1_put ⟨rfl, rfl, Nat.le_of_ble_eq_true rfl, Nat.le_of_ble_eq_true rfl⟩ (Nat.le_of_ble_eq_true rfl) (Nat.zero_le _) (Nat.zero_le _) (fun v_37 w_38 hp_39 => ?_)
            obtain ⟨rfl, rfl⟩ := hp_39
            refine ⟨rfl, ?_⟩
            refine z_eq (ws2 := [eX4 h hT hN hU hA hK hW hL hZ (nI sg) (nI ev), eX0 hN (nI (s 0)) (nI (s 1)) (nI (s 2)) (nI (s 3)) (nI (s 4)), eX1 hA hAA (nI (if kn = 8 then 8 else kn + 1)), eQ t hAA 8 (fun j => some (ad j)), eX0 (ad 0) (nI (pput past kn s 0)) (nI (pput past kn s 1)) (nI (pput past kn s 2)) (nI (pput past kn s 3)) (nI (pput past kn s 4)), eX0 (ad 1) (nI (pput past kn s 5)) (nI (pput past kn s 6)) (nI (pput past kn s 7)) (nI (pput past kn s 8)) (nI (pput past kn s 9)), eX0 (ad 2) (nI (pput past kn s 10)) (nI (pput past kn s 11)) (nI (pput past kn s 12)) (nI (pput past kn s 13)) (nI (pput past kn s 14)), eX0 (ad 3) (nI (pput past kn s 15)) (nI (pput past kn s 16)) (nI (pput past kn s 17)) (nI (pput past kn s 18)) (nI (pput past kn s 19)), eX0 (ad 4) (nI (pput past kn s 20)) (nI (pput past kn s 21)) (nI (pput past kn s 22)) (nI (pput past kn s 23)) (nI (pput past kn s 24)), eX0 (ad 5) (nI (pput past kn s 25)) (nI (pput past kn s 26)) (nI (pput past kn s 27)) (nI (pput past kn s 28)) (nI (pput past kn s 29)), eX0 (ad 6) (nI (pput past kn s 30)) (nI (pput past kn s 31)) (nI (pput past kn s 32)) (nI (pput past kn s 33)) (nI (pput past kn s 34)), eX0 (ad 7) (nI (pput past kn s 35)) (nI (pput past kn s 36)) (nI (pput past kn s 37)) (nI (pput past kn s 38)) (nI (pput past kn s 39))]) (st2 := []) rfl rfl rfl ?_
            refine z_aload_n X (pc := 72) 2 dX4_putOver_72 rfl ?_
            refine z_get X (pc := 73) 0 1 (.ref hN) tu_4 tw_145 dX4_putOver_73 rfl rfl (by decide) rfl rfl ?_
            refine z_iload_n X (pc := 76) 3 dX4_putOver_76 rfl ?_
            refine z_iload_n X (pc := 77) 1 dX4_putOver_77 rfl ?_
            refine z_iload_n X (pc := 78) 4 dX4_putOver_78 rfl ?_
            refine z_isub X (pc := 79) (v := (nI ((s 1) - q))) dX4_putOver_79 (pk_sub (by omega)) ?_
            refine zc_V (as := [.int (nI 1), .int (nI ((s 1) - q))]) X (pc := 80) (c_X0_setBox lq D t hN (s 0) (s 1) (s 2) (s 3) (s 4) 1 ((s 1) - q) (by decide)) tw_336 tw_328 tw_3 tw_326 tw_327 0 0 rfl rfl [1] rfl rfl dX4_putOver_80 rfl zdX0_setBox ⟨rfl, rfl, Nat.le_of_ble_eq_true rfl, Nat.le_of_ble_eq_true rfl⟩ (Nat.le_of_ble_eq_true rfl) (Nat.zero_le _) (Nat.zero_le _) (fun v_40 w_41 hp_42 => ?_)
            obtain ⟨rfl, rfl⟩ := hp_42
            refine ⟨rfl, ?_⟩
            refine z_eq (ws2 := [eX4 h hT hN hU hA hK hW hL hZ (nI sg) (nI ev), eX0 hN (nI (s 0)) (nI ((s 1) - q)) (nI (s 2)) (nI (s 3)) (nI (s 4)), eX1 hA hAA (nI (if kn = 8 then 8 else kn + 1)), eQ t hAA 8 (fun j => some (ad j)), eX0 (ad 0) (nI (pput past kn s 0)) (nI (pput past kn s 1)) (nI (pput past kn s 2)) (nI (pput past kn s 3)) (nI (pput past kn s 4)), eX0 (ad 1) (nI (pput past kn s 5)) (nI (pput past kn s 6)) (nI (pput past kn s 7)) (nI (pput past kn s 8)) (nI (pput past kn s 9)), eX0 (ad 2) (nI (pput past kn s 10)) (nI (pput past kn s 11)) (nI (pput past kn s 12)) (nI (pput past kn s 13)) (nI (pput past kn s 14)), eX0 (ad 3) (nI (pput past kn s 15)) (nI (pput past kn s 16)) (nI (pput past kn s 17)) (nI (pput past kn s 18)) (nI (pput past kn s 19)), eX0 (ad 4) (nI (pput past kn s 20)) (nI (pput past kn s 21)) (nI (pput past kn s 22)) (nI (pput past kn s 23)) (nI (pput past kn s 24)), eX0 (ad 5) (nI (pput past kn s 25)) (nI (pput past kn s 26)) (nI (pput past kn s 27)) (nI (pput past kn s 28)) (nI (pput past kn s 29)), eX0 (ad 6) (nI (pput past kn s 30)) (nI (pput past kn s 31)) (nI (pput past kn s 32)) (nI (pput past kn s 33)) (nI (pput past kn s 34)), eX0 (ad 7) (nI (pput past kn s 35)) (nI (pput past kn s 36)) (nI (pput past kn s 37)) (nI (pput past kn s 38)) (nI (pput past kn s 39))]) (st2 := []) rfl rfl rfl ?_
            refine z_aload_n X (pc := 83) 2 dX4_putOver_83 rfl ?_
            refine z_get X (pc := 84) 0 1 (.ref hN) tu_4 tw_145 dX4_putOver_84 rfl rfl (by decide) rfl rfl ?_
            refine z_iload_n X (pc := 87) 3 dX4_putOver_87 rfl ?_
            refine zc_S (as := [.int (nI 1)]) X (pc := 88) (c_X4_otherSide lq D t 1 (by decide)) tw_333 tw_335 tw_1 tw_334 [] rfl rfl dX4_putOver_88 rfl zdX4_otherSide ⟨rfl, rfl, Nat.le_of_ble_eq_true rfl, Nat.le_of_ble_eq_true rfl⟩ (Nat.le_of_ble_eq_true rfl) (Nat.zero_le _) (Nat.zero_le _) (fun v_43 w_44 hp_45 => ?_)
            obtain ⟨rfl, rfl⟩ := hp_45
            refine ⟨rfl, ?_⟩
            refine z_eq (ws2 := [eX4 h hT hN hU hA hK hW hL hZ (nI sg) (nI ev), eX0 hN (nI (s 0)) (nI ((s 1) - q)) (nI (s 2)) (nI (s 3)) (nI (s 4)), eX1 hA hAA (nI (if kn = 8 then 8 else kn + 1)), eQ t hAA 8 (fun j => some (ad j)), eX0 (ad 0) (nI (pput past kn s 0)) (nI (pput past kn s 1)) (nI (pput past kn s 2)) (nI (pput past kn s 3)) (nI (pput past kn s 4)), eX0 (ad 1) (nI (pput past kn s 5)) (nI (pput past kn s 6)) (nI (pput past kn s 7)) (nI (pput past kn s 8)) (nI (pput past kn s 9)), eX0 (ad 2) (nI (pput past kn s 10)) (nI (pput past kn s 11)) (nI (pput past kn s 12)) (nI (pput past kn s 13)) (nI (pput past kn s 14)), eX0 (ad 3) (nI (pput past kn s 15)) (nI (pput past kn s 16)) (nI (pput past kn s 17)) (nI (pput past kn s 18)) (nI (pput past kn s 19)), eX0 (ad 4) (nI (pput past kn s 20)) (nI (pput past kn s 21)) (nI (pput past kn s 22)) (nI (pput past kn s 23)) (nI (pput past kn s 24)), eX0 (ad 5) (nI (pput past kn s 25)) (nI (pput past kn s 26)) (nI (pput past kn s 27)) (nI (pput past kn s 28)) (nI (pput past kn s 29)), eX0 (ad 6) (nI (pput past kn s 30)) (nI (pput past kn s 31)) (nI (pput past kn s 32)) (nI (pput past kn s 33)) (nI (pput past kn s 34)), eX0 (ad 7) (nI (pput past kn s 35)) (nI (pput past kn s 36)) (nI (pput past kn s 37)) (nI (pput past kn s 38)) (nI (pput past kn s 39))]) (st2 := [.int (nI 0), .ref hN]) rfl rfl rfl ?_
            refine z_iload X (pc := 91) 0 dX4_putOver_91 rfl ?_
            refine z_iload_n X (pc := 93) 4 dX4_putOver_93 rfl ?_
            refine z_iadd X (pc := 94) (v := (nI (s 0 + q))) dX4_putOver_94 (nI_add (s 0) q) ?_
            refine zc_V (as := [.int (nI 0), .int (nI (s 0 + q))]) X (pc := 95) (c_X0_setBox lq D t hN (s 0) ((s 1) - q) (s 2) (s 3) (s 4) 0 (s 0 + q) (by decide)) tw_336 tw_328 tw_3 tw_326 tw_327 0 0 rfl rfl [1] rfl rfl dX4_putOver_95 rfl zdX0_setBox ⟨rfl, rfl, Nat.le_of_ble_eq_true rfl, Nat.le_of_ble_eq_true rfl⟩ (Nat.le_of_ble_eq_true rfl) (Nat.zero_le _) (Nat.zero_le _) (fun v_46 w_47 hp_48 => ?_)
            obtain ⟨rfl, rfl⟩ := hp_48
            refine ⟨rfl, ?_⟩
            refine z_eq (ws2 := [eX4 h hT hN hU hA hK hW hL hZ (nI sg) (nI ev), eX0 hN (nI (s 0 + q)) (nI ((s 1) - q)) (nI (s 2)) (nI (s 3)) (nI (s 4)), eX1 hA hAA (nI (if kn = 8 then 8 else kn + 1)), eQ t hAA 8 (fun j => some (ad j)), eX0 (ad 0) (nI (pput past kn s 0)) (nI (pput past kn s 1)) (nI (pput past kn s 2)) (nI (pput past kn s 3)) (nI (pput past kn s 4)), eX0 (ad 1) (nI (pput past kn s 5)) (nI (pput past kn s 6)) (nI (pput past kn s 7)) (nI (pput past kn s 8)) (nI (pput past kn s 9)), eX0 (ad 2) (nI (pput past kn s 10)) (nI (pput past kn s 11)) (nI (pput past kn s 12)) (nI (pput past kn s 13)) (nI (pput past kn s 14)), eX0 (ad 3) (nI (pput past kn s 15)) (nI (pput past kn s 16)) (nI (pput past kn s 17)) (nI (pput past kn s 18)) (nI (pput past kn s 19)), eX0 (ad 4) (nI (pput past kn s 20)) (nI (pput past kn s 21)) (nI (pput past kn s 22)) (nI (pput past kn s 23)) (nI (pput past kn s 24)), eX0 (ad 5) (nI (pput past kn s 25)) (nI (pput past kn s 26)) (nI (pput past kn s 27)) (nI (pput past kn s 28)) (nI (pput past kn s 29)), eX0 (ad 6) (nI (pput past kn s 30)) (nI (pput past kn s 31)) (nI (pput past kn s 32)) (nI (pput past kn s 33)) (nI (pput past kn s 34)), eX0 (ad 7) (nI (pput past kn s 35)) (nI (pput past kn s 36)) (nI (pput past kn s 37)) (nI (pput past kn s 38)) (nI (pput past kn s 39))]) (st2 := []) rfl rfl rfl ?_
            refine z_iload_n X (pc := 98) 1 dX4_putOver_98 rfl ?_
            refine z_iload_n X (pc := 99) 4 dX4_putOver_99 rfl ?_
            refine z_isub X (pc := 100) (v := (nI ((s 1) - q))) dX4_putOver_100 (pk_sub (by omega)) ?_
            exact hRet.i dX4_putOver_101 ⟨by rw [dz_ok (a := 0) (b := 1) (by decide) (by decide) (by decide), dz_ok (a := 1) (b := 10) (by decide) q_lo q_hi]; exact congrArg (fun z => some (Value.int z)) (an_put_ok (sd := 1) (show ¬ s 1 < q by omega) (show ¬ 10 < s 0 + q by omega)).symm, by rw [dz_ok (a := 0) (b := 1) (by decide) (by decide) (by decide), dz_ok (a := 1) (b := 10) (by decide) q_lo q_hi, (nx_put_ok (sd := 1) (show ¬ s 1 < q by omega) (show ¬ 10 < s 0 + q by omega)).1, (nx_put_ok (sd := 1) (show ¬ s 1 < q by omega) (show ¬ 10 < s 0 + q by omega)).2]; rfl⟩
          · skip
            refine z_bipush X (pc := 58) (-3) dX4_putOver_58 (by decide) ?_
            exact hRet.i dX4_putOver_60 ⟨by rw [dz_ok (a := 0) (b := 1) (by decide) (by decide) (by decide), dz_ok (a := 1) (b := 10) (by decide) q_lo q_hi]; exact congrArg (fun z => some (Value.int z)) (an_put_full (sd := 1) (show ¬ s 1 < q by omega) (show 10 < s 0 + q by omega)).symm, by rw [dz_ok (a := 0) (b := 1) (by decide) (by decide) (by decide), dz_ok (a := 1) (b := 10) (by decide) q_lo q_hi, (nx_put_full (sd := 1) (show ¬ s 1 < q by omega) (show 10 < s 0 + q by omega)).1, (nx_put_full (sd := 1) (show ¬ s 1 < q by omega) (show 10 < s 0 + q by omega)).2]; rfl⟩
        · skip
          refine z_bipush X (pc := 46) (-2) dX4_putOver_46 (by decide) ?_
          exact hRet.i dX4_putOver_48 ⟨by rw [dz_ok (a := 0) (b := 1) (by decide) (by decide) (by decide), dz_ok (a := 1) (b := 10) (by decide) q_lo q_hi]; exact congrArg (fun z => some (Value.int z)) (an_put_lt (sd := 1) (show s 1 < q by omega)).symm, by rw [dz_ok (a := 0) (b := 1) (by decide) (by decide) (by decide), dz_ok (a := 1) (b := 10) (by decide) q_lo q_hi, (nx_put_lt (sd := 1) (show s 1 < q by omega)).1, (nx_put_lt (sd := 1) (show s 1 < q by omega)).2]; rfl⟩
    · skip
      refine z_iconst X (pc := 17) (-1) dX4_putOver_17 (by decide) ?_
      exact hRet.i dX4_putOver_18 ⟨by rw [dz_bad (a := 1) (b := 10) c_14]; cases dz 0 1 e <;> rfl, by rw [dz_bad (a := 1) (b := 10) c_14]; cases dz 0 1 e <;> rfl⟩

abbrev rm_X4_undo : Room := { frames := 2, cells := 0, slots := 0, locals := 43 }
set_option maxHeartbeats 4000000 in
set_option maxRecDepth 100000 in
theorem c_X4_undo (lq : Launch) (D : va_G) (t : zT) (h hT hN hU hA hK hW hL hZ sg ev : Nat) (hAA : Nat) (ad past : Nat → Nat) (kn : Nat) (s : Nat → Nat) (hkn : kn ≤ 8) : Ct lq D t yX4_undo cX4_undo 1 (some .int) rm_X4_undo [.ref h] [eX4 h hT hN hU hA hK hW hL hZ (nI sg) (nI ev), eX0 hN (nI (s 0)) (nI (s 1)) (nI (s 2)) (nI (s 3)) (nI (s 4)), eX1 hA hAA (nI kn), eQ t hAA 8 (fun j => some (ad j)), eX0 (ad 0) (nI (past 0)) (nI (past 1)) (nI (past 2)) (nI (past 3)) (nI (past 4)), eX0 (ad 1) (nI (past 5)) (nI (past 6)) (nI (past 7)) (nI (past 8)) (nI (past 9)), eX0 (ad 2) (nI (past 10)) (nI (past 11)) (nI (past 12)) (nI (past 13)) (nI (past 14)), eX0 (ad 3) (nI (past 15)) (nI (past 16)) (nI (past 17)) (nI (past 18)) (nI (past 19)), eX0 (ad 4) (nI (past 20)) (nI (past 21)) (nI (past 22)) (nI (past 23)) (nI (past 24)), eX0 (ad 5) (nI (past 25)) (nI (past 26)) (nI (past 27)) (nI (past 28)) (nI (past 29)), eX0 (ad 6) (nI (past 30)) (nI (past 31)) (nI (past 32)) (nI (past 33)) (nI (past 34)), eX0 (ad 7) (nI (past 35)) (nI (past 36)) (nI (past 37)) (nI (past 38)) (nI (past 39))] 0 0 (fun rv rw_ => rv = some (.int (an_undo kn)) ∧ rw_ = [eX4 h hT hN hU hA hK hW hL hZ (nI sg) (nI ev), eX0 hN (nI ((nx_undo past kn s) 0)) (nI ((nx_undo past kn s) 1)) (nI ((nx_undo past kn s) 2)) (nI ((nx_undo past kn s) 3)) (nI ((nx_undo past kn s) 4)), eX1 hA hAA (nI (kn - 1)), eQ t hAA 8 (fun j => some (ad j)), eX0 (ad 0) (nI (past 0)) (nI (past 1)) (nI (past 2)) (nI (past 3)) (nI (past 4)), eX0 (ad 1) (nI (past 5)) (nI (past 6)) (nI (past 7)) (nI (past 8)) (nI (past 9)), eX0 (ad 2) (nI (past 10)) (nI (past 11)) (nI (past 12)) (nI (past 13)) (nI (past 14)), eX0 (ad 3) (nI (past 15)) (nI (past 16)) (nI (past 17)) (nI (past 18)) (nI (past 19)), eX0 (ad 4) (nI (past 20)) (nI (past 21)) (nI (past 22)) (nI (past 23)) (nI (past 24)), eX0 (ad 5) (nI (past 25)) (nI (past 26)) (nI (past 27)) (nI (past 28)) (nI (past 29)), eX0 (ad 6) (nI (past 30)) (nI (past 31)) (nI (past 32)) (nI (past 33)) (nI (past 34)), eX0 (ad 7) (nI (past 35)) (nI (past 36)) (nI (past 37)) (nI (past 38)) (nI (past 39))]) := by
  refine Ct.of (by decide) (Nat.le_of_ble_eq_true rfl) (fun k X hRet => ?_)
  have X : zX D t k cX4_undo 1 RX4 "undo" rm_X4_undo lq := X
  refine z_eq (lv2 := [(0, .ref h)]) rfl rfl rfl ?_
  refine z_aload_n X (pc := 0) 0 dX4_undo_0 rfl ?_
  refine z_get X (pc := 1) 0 3 (.ref hA) tu_4 tw_147 dX4_undo_1 rfl rfl (by decide) rfl rfl ?_
  refine z_aload_n X (pc := 4) 0 dX4_undo_4 rfl ?_
  refine z_get X (pc := 5) 0 1 (.ref hN) tu_4 tw_145 dX4_undo_5 rfl rfl (by decide) rfl rfl ?_
  refine zc_V (as := [.ref hN]) X (pc := 8) (c_X1_takeLast8 lq D t hA hAA ad past kn hN s (by omega)) tw_350 tw_353 tw_4 tw_351 tw_352 0 1 rfl rfl [2, 3, 4, 5, 6, 7, 8, 9, 10, 11, 1] rfl rfl dX4_undo_8 rfl zdX1_takeLast ⟨rfl, rfl, Nat.le_of_ble_eq_true rfl, Nat.le_of_ble_eq_true rfl⟩ (Nat.le_of_ble_eq_true rfl) (Nat.zero_le _) (Nat.zero_le _) (fun v_1 w_2 hp_3 => ?_)
  obtain ⟨rfl, rfl⟩ := hp_3
  refine ⟨rfl, ?_⟩
  refine z_eq (ws2 := [eX4 h hT hN hU hA hK hW hL hZ (nI sg) (nI ev), eX0 hN (nI (if kn = 0 then s 0 else past (5 * (kn - 1) + 0))) (nI (if kn = 0 then s 1 else past (5 * (kn - 1) + 1))) (nI (if kn = 0 then s 2 else past (5 * (kn - 1) + 2))) (nI (if kn = 0 then s 3 else past (5 * (kn - 1) + 3))) (nI (if kn = 0 then s 4 else past (5 * (kn - 1) + 4))), eX1 hA hAA (nI (kn - 1)), eQ t hAA 8 (fun j => some (ad j)), eX0 (ad 0) (nI (past 0)) (nI (past 1)) (nI (past 2)) (nI (past 3)) (nI (past 4)), eX0 (ad 1) (nI (past 5)) (nI (past 6)) (nI (past 7)) (nI (past 8)) (nI (past 9)), eX0 (ad 2) (nI (past 10)) (nI (past 11)) (nI (past 12)) (nI (past 13)) (nI (past 14)), eX0 (ad 3) (nI (past 15)) (nI (past 16)) (nI (past 17)) (nI (past 18)) (nI (past 19)), eX0 (ad 4) (nI (past 20)) (nI (past 21)) (nI (past 22)) (nI (past 23)) (nI (past 24)), eX0 (ad 5) (nI (past 25)) (nI (past 26)) (nI (past 27)) (nI (past 28)) (nI (past 29)), eX0 (ad 6) (nI (past 30)) (nI (past 31)) (nI (past 32)) (nI (past 33)) (nI (past 34)), eX0 (ad 7) (nI (past 35)) (nI (past 36)) (nI (past 37)) (nI (past 38)) (nI (past 39))]) (st2 := [.int (zb (¬ kn = 0))]) rfl rfl rfl ?_
  refine z_if_eqB X (pc := 11) 24 dX4_undo_11 (by decide) (fun c_11 => ?_) (fun c_11 => ?_)
  · skip
    refine z_bipush X (pc := 24) (-2) dX4_undo_24 (by decide) ?_
    exact hRet.i dX4_undo_26 ⟨by rw [an_undo, if_pos (Decidable.not_not.mp c_11)], rfl⟩
  · skip
    refine z_aload_n X (pc := 14) 0 dX4_undo_14 rfl ?_
    refine z_get X (pc := 15) 0 3 (.ref hA) tu_4 tw_147 dX4_undo_15 rfl rfl (by decide) rfl rfl ?_
    refine zc_V (as := []) X (pc := 18) (c_X1_size lq D t hA hAA (kn - 1) ) tw_354 tw_357 tw_4 tw_355 tw_356 0 1 rfl rfl [2] rfl rfl dX4_undo_18 rfl zdX1_size ⟨rfl, rfl, Nat.le_of_ble_eq_true rfl, Nat.le_of_ble_eq_true rfl⟩ (Nat.le_of_ble_eq_true rfl) (Nat.zero_le _) (Nat.zero_le _) (fun v_4 w_5 hp_6 => ?_)
    obtain ⟨rfl, rfl⟩ := hp_6
    refine ⟨rfl, ?_⟩
    refine z_eq (ws2 := [eX4 h hT hN hU hA hK hW hL hZ (nI sg) (nI ev), eX0 hN (nI (if kn = 0 then s 0 else past (5 * (kn - 1) + 0))) (nI (if kn = 0 then s 1 else past (5 * (kn - 1) + 1))) (nI (if kn = 0 then s 2 else past (5 * (kn - 1) + 2))) (nI (if kn = 0 then s 3 else past (5 * (kn - 1) + 3))) (nI (if kn = 0 then s 4 else past (5 * (kn - 1) + 4))), eX1 hA hAA (nI (kn - 1)), eQ t hAA 8 (fun j => some (ad j)), eX0 (ad 0) (nI (past 0)) (nI (past 1)) (nI (past 2)) (nI (past 3)) (nI (past 4)), eX0 (ad 1) (nI (past 5)) (nI (past 6)) (nI (past 7)) (nI (past 8)) (nI (past 9)), eX0 (ad 2) (nI (past 10)) (nI (past 11)) (nI (past 12)) (nI (past 13)) (nI (past 14)), eX0 (ad 3) (nI (past 15)) (nI (past 16)) (nI (past 17)) (nI (past 18)) (nI (past 19)), eX0 (ad 4) (nI (past 20)) (nI (past 21)) (nI (past 22)) (nI (past 23)) (nI (past 24)), eX0 (ad 5) (nI (past 25)) (nI (past 26)) (nI (past 27)) (nI (past 28)) (nI (past 29)), eX0 (ad 6) (nI (past 30)) (nI (past 31)) (nI (past 32)) (nI (past 33)) (nI (past 34)), eX0 (ad 7) (nI (past 35)) (nI (past 36)) (nI (past 37)) (nI (past 38)) (nI (past 39))]) (st2 := [.int (nI (kn - 1))]) rfl rfl rfl ?_
    refine z_goto X (pc := 21) 26 dX4_undo_21 (by decide) ?_
    exact hRet.i dX4_undo_26 ⟨by rw [an_undo, if_neg c_11], rfl⟩

abbrev rm_X4_seen : Room := { frames := 1, cells := 0, slots := 0, locals := 22 }
set_option maxHeartbeats 4000000 in
set_option maxRecDepth 100000 in
theorem c_X4_seen (lq : Launch) (D : va_G) (t : zT) (h hT hN hU hA hK hW hL hZ sg ev : Nat) (sl sr : Nat → Nat) (e f : Int32) (hsg : sg ≤ 6) : Ct lq D t yX4_seen cX4_seen 3 (some .int) rm_X4_seen [.ref h, .int e, .int f] [eX4 h hT hN hU hA hK hW hL hZ (nI sg) (nI ev), eI t hL 6 (nf sl), eI t hZ 6 (nf sr)] 0 0 (fun rv rw_ => rv = some (.int (an_seen sg (dz 0 10 e) (dz 0 10 f))) ∧ rw_ = [eX4 h hT hN hU hA hK hW hL hZ (nI (nx_sg sg (dz 0 10 e) (dz 0 10 f))) (nI ev), eI t hL 6 (nf (nx_sl sl sg (dz 0 10 e) (dz 0 10 f))), eI t hZ 6 (nf (nx_sr sr sg (dz 0 10 e) (dz 0 10 f)))]) := by
  refine Ct.of (by decide) (Nat.le_of_ble_eq_true rfl) (fun k X hRet => ?_)
  have X : zX D t k cX4_seen 3 RX4 "seen" rm_X4_seen lq := X
  refine z_eq (lv2 := [(0, .ref h), (1, .int e), (2, .int f)]) rfl rfl rfl ?_
  refine z_iload_n X (pc := 0) 1 dX4_seen_0 rfl ?_
  refine z_iconst X (pc := 1) (nI 0) dX4_seen_1 (by decide) ?_
  refine z_bipush X (pc := 2) (nI 10) dX4_seen_2 (by decide) ?_
  refine zc_S (as := [.int e, .int (nI 0), .int (nI 10)]) X (pc := 4) (c_X4_within lq D t e (nI 0) (nI 10) ) tw_180 tw_182 tw_1 tw_181 [] rfl rfl dX4_seen_4 rfl zdX4_within ⟨rfl, rfl, Nat.le_of_ble_eq_true rfl, Nat.le_of_ble_eq_true rfl⟩ (Nat.le_of_ble_eq_true rfl) (Nat.zero_le _) (Nat.zero_le _) (fun v_1 w_2 hp_3 => ?_)
  obtain ⟨rfl, rfl⟩ := hp_3
  refine ⟨rfl, ?_⟩
  refine z_eq (ws2 := [eX4 h hT hN hU hA hK hW hL hZ (nI sg) (nI ev), eI t hL 6 (nf sl), eI t hZ 6 (nf sr)]) (st2 := [.int (zb ((nI 0) ≤ e ∧ e ≤ (nI 10)))]) rfl rfl rfl ?_
  refine z_if_eqB X (pc := 7) 20 dX4_seen_7 (by decide) (fun c_7 => ?_) (fun c_7 => ?_)
  · skip
    refine z_iconst X (pc := 20) (-1) dX4_seen_20 (by decide) ?_
    exact hRet.i dX4_seen_21 ⟨by rw [dz_bad (a := 0) (b := 10) c_7]; rfl, by rw [dz_bad (a := 0) (b := 10) c_7]; rfl⟩
  · skip
    refine z_iload_n X (pc := 10) 2 dX4_seen_10 rfl ?_
    refine z_iconst X (pc := 11) (nI 0) dX4_seen_11 (by decide) ?_
    refine z_bipush X (pc := 12) (nI 10) dX4_seen_12 (by decide) ?_
    refine zc_S (as := [.int f, .int (nI 0), .int (nI 10)]) X (pc := 14) (c_X4_within lq D t f (nI 0) (nI 10) ) tw_180 tw_182 tw_1 tw_181 [] rfl rfl dX4_seen_14 rfl zdX4_within ⟨rfl, rfl, Nat.le_of_ble_eq_true rfl, Nat.le_of_ble_eq_true rfl⟩ (Nat.le_of_ble_eq_true rfl) (Nat.zero_le _) (Nat.zero_le _) (fun v_4 w_5 hp_6 => ?_)
    obtain ⟨rfl, rfl⟩ := hp_6
    refine ⟨rfl, ?_⟩
    refine z_eq (ws2 := [eX4 h hT hN hU hA hK hW hL hZ (nI sg) (nI ev), eI t hL 6 (nf sl), eI t hZ 6 (nf sr)]) (st2 := [.int (zb ((nI 0) ≤ f ∧ f ≤ (nI 10)))]) rfl rfl rfl ?_
    refine z_if_neB X (pc := 17) 22 dX4_seen_17 (by decide) (fun c_17 => ?_) (fun c_17 => ?_)
    · skip
      obtain ⟨l, l_lo, l_hi, rfl⟩ := inR (by decide) (by decide) c_7
      obtain ⟨r, r_lo, r_hi, rfl⟩ := inR (by decide) (by decide) c_17
      refine z_aload_n X (pc := 22) 0 dX4_seen_22 rfl ?_
      refine z_get X (pc := 23) 0 8 (.int (nI sg)) tu_4 tw_152 dX4_seen_23 rfl rfl (by decide) rfl rfl ?_
      refine z_iconst X (pc := 26) (nI 0) dX4_seen_26 (by decide) ?_
      refine z_iconst X (pc := 27) (nI 5) dX4_seen_27 (by decide) ?_
      refine zc_S (as := [.int (nI sg), .int (nI 0), .int (nI 5)]) X (pc := 28) (c_X4_withinN lq D t sg 0 5 (by omega) (by decide) (by decide)) tw_180 tw_182 tw_1 tw_181 [] rfl rfl dX4_seen_28 rfl zdX4_within ⟨rfl, rfl, Nat.le_of_ble_eq_true rfl, Nat.le_of_ble_eq_true rfl⟩ (Nat.le_of_ble_eq_true rfl) (Nat.zero_le _) (Nat.zero_le _) (fun v_7 w_8 hp_9 => ?_)
      obtain ⟨rfl, rfl⟩ := hp_9
      refine ⟨rfl, ?_⟩
      refine z_eq (ws2 := [eX4 h hT hN hU hA hK hW hL hZ (nI sg) (nI ev), eI t hL 6 (nf sl), eI t hZ 6 (nf sr)]) (st2 := [.int (zb (0 ≤ sg ∧ sg ≤ 5))]) rfl rfl rfl ?_
      refine z_if_neB X (pc := 31) 37 dX4_seen_31 (by decide) (fun c_31 => ?_) (fun c_31 => ?_)
      · skip
        refine z_aload_n X (pc := 37) 0 dX4_seen_37 rfl ?_
        refine z_get X (pc := 38) 0 6 (.ref hL) tu_4 tw_150 dX4_seen_38 rfl rfl (by decide) rfl rfl ?_
        refine z_aload_n X (pc := 41) 0 dX4_seen_41 rfl ?_
        refine z_get X (pc := 42) 0 8 (.int (nI sg)) tu_4 tw_152 dX4_seen_42 rfl rfl (by decide) rfl rfl ?_
        refine z_iload_n X (pc := 45) 1 dX4_seen_45 rfl ?_
        refine z_iast X (pc := 46) 1 sg (nf (vup sl sg l)) [eX4 h hT hN hU hA hK hW hL hZ (nI sg) (nI ev), eI t hL 6 (nf (vup sl sg l)), eI t hZ 6 (nf sr)] dX4_seen_46 rfl rfl (Nat.le_of_ble_eq_true rfl) (by omega) (upd_nf _ _ _) rfl ?_
        refine z_aload_n X (pc := 47) 0 dX4_seen_47 rfl ?_
        refine z_get X (pc := 48) 0 7 (.ref hZ) tu_4 tw_151 dX4_seen_48 rfl rfl (by decide) rfl rfl ?_
        refine z_aload_n X (pc := 51) 0 dX4_seen_51 rfl ?_
        refine z_get X (pc := 52) 0 8 (.int (nI sg)) tu_4 tw_152 dX4_seen_52 rfl rfl (by decide) rfl rfl ?_
        refine z_iload_n X (pc := 55) 2 dX4_seen_55 rfl ?_
        refine z_iast X (pc := 56) 2 sg (nf (vup sr sg r)) [eX4 h hT hN hU hA hK hW hL hZ (nI sg) (nI ev), eI t hL 6 (nf (vup sl sg l)), eI t hZ 6 (nf (vup sr sg r))] dX4_seen_56 rfl rfl (Nat.le_of_ble_eq_true rfl) (by omega) (upd_nf _ _ _) rfl ?_
        refine z_aload_n X (pc := 57) 0 dX4_seen_57 rfl ?_
        refine z_dup X (pc := 58) dX4_seen_58 rfl ?_
        refine z_get X (pc := 59) 0 8 (.int (nI sg)) tu_4 tw_152 dX4_seen_59 rfl rfl (by decide) rfl rfl ?_
        refine z_iconst X (pc := 62) (nI 1) dX4_seen_62 (by decide) ?_
        refine z_iadd X (pc := 63) (v := (nI (sg + 1))) dX4_seen_63 (nI_add sg 1) ?_
        refine z_put X (pc := 64) 0 8 [eX4 h hT hN hU hA hK hW hL hZ (nI (sg + 1)) (nI ev), eI t hL 6 (nf (vup sl sg l)), eI t hZ 6 (nf (vup sr sg r))] tu_4 tyX4_ok nmX4 tw_152 dX4_seen_64 rfl rfl (by decide) rfl rfl rfl rfl (Nat.le_of_ble_eq_true rfl) rfl ?_
        refine z_aload_n X (pc := 67) 0 dX4_seen_67 rfl ?_
        refine z_get X (pc := 68) 0 8 (.int (nI (sg + 1))) tu_4 tw_152 dX4_seen_68 rfl rfl (by decide) rfl rfl ?_
        exact hRet.i dX4_seen_71 ⟨by rw [dz_ok (j := l) (a := 0) (b := 10) (by decide) l_lo l_hi, dz_ok (j := r) (a := 0) (b := 10) (by decide) r_lo r_hi]; simp only [an_seen, if_pos (show sg < 6 by omega)], by rw [dz_ok (j := l) (a := 0) (b := 10) (by decide) l_lo l_hi, dz_ok (j := r) (a := 0) (b := 10) (by decide) r_lo r_hi]; simp only [nx_sg, nx_sl, nx_sr, if_pos (show sg < 6 by omega)]⟩
      · skip
        refine z_bipush X (pc := 34) (-3) dX4_seen_34 (by decide) ?_
        exact hRet.i dX4_seen_36 ⟨by rw [dz_ok (j := l) (a := 0) (b := 10) (by decide) l_lo l_hi, dz_ok (j := r) (a := 0) (b := 10) (by decide) r_lo r_hi]; simp only [an_seen, if_neg (show ¬ sg < 6 by omega)], by rw [dz_ok (j := l) (a := 0) (b := 10) (by decide) l_lo l_hi, dz_ok (j := r) (a := 0) (b := 10) (by decide) r_lo r_hi]; simp only [nx_sg, nx_sl, nx_sr, if_neg (show ¬ sg < 6 by omega)]⟩
    · skip
      refine z_iconst X (pc := 20) (-1) dX4_seen_20 (by decide) ?_
      exact hRet.i dX4_seen_21 ⟨by rw [dz_bad (a := 0) (b := 10) (e := f) c_17]; cases dz 0 10 e <;> rfl, by rw [dz_bad (a := 0) (b := 10) (e := f) c_17]; cases dz 0 10 e <;> rfl⟩

abbrev rm_X4_forget : Room := { frames := 0, cells := 0, slots := 0, locals := 0 }
set_option maxHeartbeats 4000000 in
set_option maxRecDepth 100000 in
theorem c_X4_forget (lq : Launch) (D : va_G) (t : zT) (h hT hN hU hA hK hW hL hZ sg ev : Nat)  : Ct lq D t yX4_forget cX4_forget 2 (some .int) rm_X4_forget [.ref h] [eX4 h hT hN hU hA hK hW hL hZ (nI sg) (nI ev)] 0 0 (fun rv rw_ => rv = some (.int (nI sg)) ∧ rw_ = [eX4 h hT hN hU hA hK hW hL hZ (nI 0) (nI ev)]) := by
  refine Ct.of (by decide) (Nat.le_of_ble_eq_true rfl) (fun k X hRet => ?_)
  have X : zX D t k cX4_forget 2 RX4 "forget" rm_X4_forget lq := X
  refine z_eq (lv2 := [(0, .ref h)]) rfl rfl rfl ?_
  refine z_aload_n X (pc := 0) 0 dX4_forget_0 rfl ?_
  refine z_get X (pc := 1) 0 8 (.int (nI sg)) tu_4 tw_152 dX4_forget_1 rfl rfl (by decide) rfl rfl ?_
  refine z_istore_n X (pc := 4) (i := 1) [(1, .int (nI sg)), (0, .ref h)] dX4_forget_4 rfl (by decide) rfl ?_
  refine z_aload_n X (pc := 5) 1 dX4_forget_5 rfl ?_
  refine z_iconst X (pc := 6) (nI 0) dX4_forget_6 (by decide) ?_
  refine z_put X (pc := 7) 0 8 [eX4 h hT hN hU hA hK hW hL hZ (nI 0) (nI ev)] tu_4 tyX4_ok nmX4 tw_152 dX4_forget_7 rfl rfl (by decide) rfl rfl rfl rfl (Nat.le_of_ble_eq_true rfl) rfl ?_
  refine z_iload_n X (pc := 10) 0 dX4_forget_10 rfl ?_
  exact hRet.i dX4_forget_11 ⟨rfl, rfl⟩

abbrev rm_X4_keep : Room := { frames := 2, cells := 0, slots := 0, locals := 43 }
set_option maxHeartbeats 4000000 in
set_option maxRecDepth 100000 in
theorem c_X4_keep (lq : Launch) (D : va_G) (t : zT) (h hT hN hU hA hK hW hL hZ sg ev : Nat) (hKA : Nat) (ke img : Nat → Nat) (kp : Nat) (s : Nat → Nat) (hkp : kp ≤ 2) : Ct lq D t yX4_keep cX4_keep 1 (some .int) rm_X4_keep [.ref h] [eX4 h hT hN hU hA hK hW hL hZ (nI sg) (nI ev), eX0 hN (nI (s 0)) (nI (s 1)) (nI (s 2)) (nI (s 3)) (nI (s 4)), eX1 hK hKA (nI kp), eQ t hKA 2 (fun j => some (ke j)), eX0 (ke 0) (nI (img 0)) (nI (img 1)) (nI (img 2)) (nI (img 3)) (nI (img 4)), eX0 (ke 1) (nI (img 5)) (nI (img 6)) (nI (img 7)) (nI (img 8)) (nI (img 9))] 0 0 (fun rv rw_ => rv = some (.int (an_keep kp)) ∧ rw_ = [eX4 h hT hN hU hA hK hW hL hZ (nI sg) (nI ev), eX0 hN (nI (s 0)) (nI (s 1)) (nI (s 2)) (nI (s 3)) (nI (s 4)), eX1 hK hKA (nI (nx_kp kp)), eQ t hKA 2 (fun j => some (ke j)), eX0 (ke 0) (nI ((nx_img img kp s) 0)) (nI ((nx_img img kp s) 1)) (nI ((nx_img img kp s) 2)) (nI ((nx_img img kp s) 3)) (nI ((nx_img img kp s) 4)), eX0 (ke 1) (nI ((nx_img img kp s) 5)) (nI ((nx_img img kp s) 6)) (nI ((nx_img img kp s) 7)) (nI ((nx_img img kp s) 8)) (nI ((nx_img img kp s) 9))]) := by
  refine Ct.of (by decide) (Nat.le_of_ble_eq_true rfl) (fun k X hRet => ?_)
  have X : zX D t k cX4_keep 1 RX4 "keep" rm_X4_keep lq := X
  refine z_eq (lv2 := [(0, .ref h)]) rfl rfl rfl ?_
  refine z_aload_n X (pc := 0) 0 dX4_keep_0 rfl ?_
  refine z_get X (pc := 1) 0 4 (.ref hK) tu_4 tw_148 dX4_keep_1 rfl rfl (by decide) rfl rfl ?_
  refine zc_V (as := []) X (pc := 4) (c_X1_isFull lq D t hK hKA kp 2 (fun j => some (ke j)) (by decide) (by omega)) tw_536 tw_313 tw_4 tw_311 tw_312 0 1 rfl rfl [2, 3] rfl rfl dX4_keep_4 rfl zdX1_isFull ⟨rfl, rfl, Nat.le_of_ble_eq_true rfl, Nat.le_of_ble_eq_true rfl⟩ (Nat.le_of_ble_eq_true rfl) (Nat.zero_le _) (Nat.zero_le _) (fun v_1 w_2 hp_3 => ?_)
  obtain ⟨rfl, rfl⟩ := hp_3
  refine ⟨rfl, ?_⟩
  refine z_eq (ws2 := [eX4 h hT hN hU hA hK hW hL hZ (nI sg) (nI ev), eX0 hN (nI (s 0)) (nI (s 1)) (nI (s 2)) (nI (s 3)) (nI (s 4)), eX1 hK hKA (nI kp), eQ t hKA 2 (fun j => some (ke j)), eX0 (ke 0) (nI (img 0)) (nI (img 1)) (nI (img 2)) (nI (img 3)) (nI (img 4)), eX0 (ke 1) (nI (img 5)) (nI (img 6)) (nI (img 7)) (nI (img 8)) (nI (img 9))]) (st2 := [.int (zb (2 ≤ kp))]) rfl rfl rfl ?_
  refine z_if_eqB X (pc := 7) 13 dX4_keep_7 (by decide) (fun c_7 => ?_) (fun c_7 => ?_)
  · skip
    refine z_aload_n X (pc := 13) 0 dX4_keep_13 rfl ?_
    refine z_get X (pc := 14) 0 4 (.ref hK) tu_4 tw_148 dX4_keep_14 rfl rfl (by decide) rfl rfl ?_
    refine z_aload_n X (pc := 17) 0 dX4_keep_17 rfl ?_
    refine z_get X (pc := 18) 0 1 (.ref hN) tu_4 tw_145 dX4_keep_18 rfl rfl (by decide) rfl rfl ?_
    refine zc_V (as := [.ref hN]) X (pc := 21) (c_X1_put2 lq D t hK hKA ke img kp hN s (by omega)) tw_306 tw_309 tw_4 tw_307 tw_308 0 1 rfl rfl [2, 3, 4, 5, 1] rfl rfl dX4_keep_21 rfl zdX1_put ⟨rfl, rfl, Nat.le_of_ble_eq_true rfl, Nat.le_of_ble_eq_true rfl⟩ (Nat.le_of_ble_eq_true rfl) (Nat.zero_le _) (Nat.zero_le _) (fun v_4 w_5 hp_6 => ?_)
    obtain ⟨rfl, rfl⟩ := hp_6
    refine ⟨rfl, ?_⟩
    refine z_eq (ws2 := [eX4 h hT hN hU hA hK hW hL hZ (nI sg) (nI ev), eX0 hN (nI (s 0)) (nI (s 1)) (nI (s 2)) (nI (s 3)) (nI (s 4)), eX1 hK hKA (nI (kp + 1)), eQ t hKA 2 (fun j => some (ke j)), eX0 (ke 0) (nI (kput img kp s 0)) (nI (kput img kp s 1)) (nI (kput img kp s 2)) (nI (kput img kp s 3)) (nI (kput img kp s 4)), eX0 (ke 1) (nI (kput img kp s 5)) (nI (kput img kp s 6)) (nI (kput img kp s 7)) (nI (kput img kp s 8)) (nI (kput img kp s 9))]) (st2 := []) rfl rfl rfl ?_
    refine z_aload_n X (pc := 24) 0 dX4_keep_24 rfl ?_
    refine z_get X (pc := 25) 0 4 (.ref hK) tu_4 tw_148 dX4_keep_25 rfl rfl (by decide) rfl rfl ?_
    refine zc_V (as := []) X (pc := 28) (c_X1_size lq D t hK hKA (kp + 1) ) tw_354 tw_357 tw_4 tw_355 tw_356 0 1 rfl rfl [2] rfl rfl dX4_keep_28 rfl zdX1_size ⟨rfl, rfl, Nat.le_of_ble_eq_true rfl, Nat.le_of_ble_eq_true rfl⟩ (Nat.le_of_ble_eq_true rfl) (Nat.zero_le _) (Nat.zero_le _) (fun v_7 w_8 hp_9 => ?_)
    obtain ⟨rfl, rfl⟩ := hp_9
    refine ⟨rfl, ?_⟩
    refine z_eq (ws2 := [eX4 h hT hN hU hA hK hW hL hZ (nI sg) (nI ev), eX0 hN (nI (s 0)) (nI (s 1)) (nI (s 2)) (nI (s 3)) (nI (s 4)), eX1 hK hKA (nI (kp + 1)), eQ t hKA 2 (fun j => some (ke j)), eX0 (ke 0) (nI (kput img kp s 0)) (nI (kput img kp s 1)) (nI (kput img kp s 2)) (nI (kput img kp s 3)) (nI (kput img kp s 4)), eX0 (ke 1) (nI (kput img kp s 5)) (nI (kput img kp s 6)) (nI (kput img kp s 7)) (nI (kput img kp s 8)) (nI (kput img kp s 9))]) (st2 := [.int (nI (kp + 1))]) rfl rfl rfl ?_
    exact hRet.i dX4_keep_31 ⟨by rw [an_keep, if_pos (by omega)], by simp only [nx_img, nx_kp, if_pos (show kp < 2 by omega)]⟩
  · skip
    refine z_bipush X (pc := 10) (-3) dX4_keep_10 (by decide) ?_
    exact hRet.i dX4_keep_12 ⟨by rw [an_keep, if_neg (by omega)], by simp only [nx_img, nx_kp, if_neg (show ¬ kp < 2 by omega)]⟩

abbrev rm_X4_back : Room := { frames := 2, cells := 0, slots := 0, locals := 43 }
set_option maxHeartbeats 4000000 in
set_option maxRecDepth 100000 in
theorem c_X4_back (lq : Launch) (D : va_G) (t : zT) (h hT hN hU hA hK hW hL hZ sg ev : Nat) (hKA : Nat) (ke img : Nat → Nat) (kp : Nat) (s : Nat → Nat) (hAA kn : Nat) (hkp : kp ≤ 2) : Ct lq D t yX4_back cX4_back 1 (some .int) rm_X4_back [.ref h] [eX4 h hT hN hU hA hK hW hL hZ (nI sg) (nI ev), eX0 hN (nI (s 0)) (nI (s 1)) (nI (s 2)) (nI (s 3)) (nI (s 4)), eX1 hK hKA (nI kp), eQ t hKA 2 (fun j => some (ke j)), eX0 (ke 0) (nI (img 0)) (nI (img 1)) (nI (img 2)) (nI (img 3)) (nI (img 4)), eX0 (ke 1) (nI (img 5)) (nI (img 6)) (nI (img 7)) (nI (img 8)) (nI (img 9)), eX1 hA hAA (nI kn)] 0 0 (fun rv rw_ => rv = some (.int (an_undo kp)) ∧ rw_ = [eX4 h hT hN hU hA hK hW hL hZ (nI sg) (nI ev), eX0 hN (nI ((nx_undo img kp s) 0)) (nI ((nx_undo img kp s) 1)) (nI ((nx_undo img kp s) 2)) (nI ((nx_undo img kp s) 3)) (nI ((nx_undo img kp s) 4)), eX1 hK hKA (nI (kp - 1)), eQ t hKA 2 (fun j => some (ke j)), eX0 (ke 0) (nI (img 0)) (nI (img 1)) (nI (img 2)) (nI (img 3)) (nI (img 4)), eX0 (ke 1) (nI (img 5)) (nI (img 6)) (nI (img 7)) (nI (img 8)) (nI (img 9)), eX1 hA hAA (nI (if kp = 0 then kn else 0))]) := by
  refine Ct.of (by decide) (Nat.le_of_ble_eq_true rfl) (fun k X hRet => ?_)
  have X : zX D t k cX4_back 1 RX4 "back" rm_X4_back lq := X
  refine z_eq (lv2 := [(0, .ref h)]) rfl rfl rfl ?_
  refine z_aload_n X (pc := 0) 0 dX4_back_0 rfl ?_
  refine z_get X (pc := 1) 0 4 (.ref hK) tu_4 tw_148 dX4_back_1 rfl rfl (by decide) rfl rfl ?_
  refine z_aload_n X (pc := 4) 0 dX4_back_4 rfl ?_
  refine z_get X (pc := 5) 0 1 (.ref hN) tu_4 tw_145 dX4_back_5 rfl rfl (by decide) rfl rfl ?_
  refine zc_V (as := [.ref hN]) X (pc := 8) (c_X1_takeLast2 lq D t hK hKA ke img kp hN s (by omega)) tw_350 tw_353 tw_4 tw_351 tw_352 0 1 rfl rfl [2, 3, 4, 5, 1] rfl rfl dX4_back_8 rfl zdX1_takeLast ⟨rfl, rfl, Nat.le_of_ble_eq_true rfl, Nat.le_of_ble_eq_true rfl⟩ (Nat.le_of_ble_eq_true rfl) (Nat.zero_le _) (Nat.zero_le _) (fun v_1 w_2 hp_3 => ?_)
  obtain ⟨rfl, rfl⟩ := hp_3
  refine ⟨rfl, ?_⟩
  refine z_eq (ws2 := [eX4 h hT hN hU hA hK hW hL hZ (nI sg) (nI ev), eX0 hN (nI (if kp = 0 then s 0 else img (5 * (kp - 1) + 0))) (nI (if kp = 0 then s 1 else img (5 * (kp - 1) + 1))) (nI (if kp = 0 then s 2 else img (5 * (kp - 1) + 2))) (nI (if kp = 0 then s 3 else img (5 * (kp - 1) + 3))) (nI (if kp = 0 then s 4 else img (5 * (kp - 1) + 4))), eX1 hK hKA (nI (kp - 1)), eQ t hKA 2 (fun j => some (ke j)), eX0 (ke 0) (nI (img 0)) (nI (img 1)) (nI (img 2)) (nI (img 3)) (nI (img 4)), eX0 (ke 1) (nI (img 5)) (nI (img 6)) (nI (img 7)) (nI (img 8)) (nI (img 9)), eX1 hA hAA (nI kn)]) (st2 := [.int (zb (¬ kp = 0))]) rfl rfl rfl ?_
  refine z_if_neB X (pc := 11) 17 dX4_back_11 (by decide) (fun c_11 => ?_) (fun c_11 => ?_)
  · skip
    refine z_aload_n X (pc := 17) 0 dX4_back_17 rfl ?_
    refine z_get X (pc := 18) 0 3 (.ref hA) tu_4 tw_147 dX4_back_18 rfl rfl (by decide) rfl rfl ?_
    refine zc_V (as := []) X (pc := 21) (c_X1_clear lq D t hA hAA kn ) tw_271 tw_274 tw_4 tw_272 tw_273 0 1 rfl rfl [6] rfl rfl dX4_back_21 rfl zdX1_clear ⟨rfl, rfl, Nat.le_of_ble_eq_true rfl, Nat.le_of_ble_eq_true rfl⟩ (Nat.le_of_ble_eq_true rfl) (Nat.zero_le _) (Nat.zero_le _) (fun v_4 w_5 hp_6 => ?_)
    obtain ⟨rfl, rfl⟩ := hp_6
    refine ⟨rfl, ?_⟩
    refine z_eq (ws2 := [eX4 h hT hN hU hA hK hW hL hZ (nI sg) (nI ev), eX0 hN (nI (if kp = 0 then s 0 else img (5 * (kp - 1) + 0))) (nI (if kp = 0 then s 1 else img (5 * (kp - 1) + 1))) (nI (if kp = 0 then s 2 else img (5 * (kp - 1) + 2))) (nI (if kp = 0 then s 3 else img (5 * (kp - 1) + 3))) (nI (if kp = 0 then s 4 else img (5 * (kp - 1) + 4))), eX1 hK hKA (nI (kp - 1)), eQ t hKA 2 (fun j => some (ke j)), eX0 (ke 0) (nI (img 0)) (nI (img 1)) (nI (img 2)) (nI (img 3)) (nI (img 4)), eX0 (ke 1) (nI (img 5)) (nI (img 6)) (nI (img 7)) (nI (img 8)) (nI (img 9)), eX1 hA hAA (nI 0)]) (st2 := []) rfl rfl rfl ?_
    refine z_aload_n X (pc := 24) 0 dX4_back_24 rfl ?_
    refine z_get X (pc := 25) 0 4 (.ref hK) tu_4 tw_148 dX4_back_25 rfl rfl (by decide) rfl rfl ?_
    refine zc_V (as := []) X (pc := 28) (c_X1_size lq D t hK hKA (kp - 1) ) tw_354 tw_357 tw_4 tw_355 tw_356 0 1 rfl rfl [2] rfl rfl dX4_back_28 rfl zdX1_size ⟨rfl, rfl, Nat.le_of_ble_eq_true rfl, Nat.le_of_ble_eq_true rfl⟩ (Nat.le_of_ble_eq_true rfl) (Nat.zero_le _) (Nat.zero_le _) (fun v_7 w_8 hp_9 => ?_)
    obtain ⟨rfl, rfl⟩ := hp_9
    refine ⟨rfl, ?_⟩
    refine z_eq (ws2 := [eX4 h hT hN hU hA hK hW hL hZ (nI sg) (nI ev), eX0 hN (nI (if kp = 0 then s 0 else img (5 * (kp - 1) + 0))) (nI (if kp = 0 then s 1 else img (5 * (kp - 1) + 1))) (nI (if kp = 0 then s 2 else img (5 * (kp - 1) + 2))) (nI (if kp = 0 then s 3 else img (5 * (kp - 1) + 3))) (nI (if kp = 0 then s 4 else img (5 * (kp - 1) + 4))), eX1 hK hKA (nI (kp - 1)), eQ t hKA 2 (fun j => some (ke j)), eX0 (ke 0) (nI (img 0)) (nI (img 1)) (nI (img 2)) (nI (img 3)) (nI (img 4)), eX0 (ke 1) (nI (img 5)) (nI (img 6)) (nI (img 7)) (nI (img 8)) (nI (img 9)), eX1 hA hAA (nI 0)]) (st2 := [.int (nI (kp - 1))]) rfl rfl rfl ?_
    exact hRet.i dX4_back_31 ⟨by rw [an_undo, if_neg c_11], by simp only [nx_undo, if_neg c_11]⟩
  · skip
    refine z_bipush X (pc := 14) (-2) dX4_back_14 (by decide) ?_
    exact hRet.i dX4_back_16 ⟨by rw [an_undo, if_pos (Decidable.not_not.mp c_11)], by simp only [nx_undo, if_pos (Decidable.not_not.mp c_11)]⟩

abbrev rm_X4_count : Room := { frames := 1, cells := 0, slots := 0, locals := 20 }
set_option maxHeartbeats 4000000 in
set_option maxRecDepth 100000 in
theorem c_X4_count (lq : Launch) (D : va_G) (t : zT) (h hT hN hU hA hK hW hL hZ sg ev : Nat) (hB hD ty : Nat) (pl fi se tev : Int32) (tx : Nat → Nat) (s : Nat → Nat) (hAA kn hKA kp : Nat) (e : Int32)  : Ct lq D t yX4_count cX4_count 2 (some .int) rm_X4_count [.ref h, .int e] [eX4 h hT hN hU hA hK hW hL hZ (nI sg) (nI ev), eX2 hT hB (nI ty) pl fi se hD tev, eX0 hN (nI (s 0)) (nI (s 1)) (nI (s 2)) (nI (s 3)) (nI (s 4)), eX1 hA hAA (nI kn), eX1 hK hKA (nI kp)] 0 0 (fun rv rw_ => rv = some (.int (an_count s ev sg kn kp ty (dz 0 8 e))) ∧ rw_ = [eX4 h hT hN hU hA hK hW hL hZ (nI sg) (nI ev), eX2 hT hB (nI ty) pl fi se hD tev, eX0 hN (nI (s 0)) (nI (s 1)) (nI (s 2)) (nI (s 3)) (nI (s 4)), eX1 hA hAA (nI kn), eX1 hK hKA (nI kp)]) := by
  refine Ct.of (by decide) (Nat.le_of_ble_eq_true rfl) (fun k X hRet => ?_)
  have X : zX D t k cX4_count 2 RX4 "count" rm_X4_count lq := X
  refine z_eq (lv2 := [(0, .ref h), (1, .int e)]) rfl rfl rfl ?_
  refine z_iload_n X (pc := 0) 1 dX4_count_0 rfl ?_
  by_cases hw : nI 0 ≤ e ∧ e ≤ nI 8
  · obtain ⟨w, w_lo, w_hi, rfl⟩ := inR (by decide) (by decide) hw
    rcases (show w = 0 ∨ w = 1 ∨ w = 2 ∨ w = 3 ∨ w = 4 ∨ w = 5 ∨ w = 6 ∨ w = 7 ∨ w = 8 by omega) with rfl | rfl | rfl | rfl | rfl | rfl | rfl | rfl | rfl
    · refine z_lv [0, 1] (lv2 := [(0, .ref h), (1, .int (nI 0))]) rfl ?_
      refine z_tableIn X (pc := 1) (off := 51) 52 dX4_count_1 (by decide) (by decide) (by decide) (by decide) ?_
      refine z_aload_n X (pc := 52) 0 dX4_count_52 rfl ?_
      refine z_get X (pc := 53) 0 1 (.ref hN) tu_4 tw_145 dX4_count_53 rfl rfl (by decide) rfl rfl ?_
      refine zc_V (as := []) X (pc := 56) (c_X0_matches lq D t hN (s 0) (s 1) (s 2) (s 3) (s 4) ) tw_275 tw_278 tw_3 tw_276 tw_277 0 0 rfl rfl [2] rfl rfl dX4_count_56 rfl zdX0_matches ⟨rfl, rfl, Nat.le_of_ble_eq_true rfl, Nat.le_of_ble_eq_true rfl⟩ (Nat.le_of_ble_eq_true rfl) (Nat.zero_le _) (Nat.zero_le _) (fun v_1 w_2 hp_3 => ?_)
      obtain ⟨rfl, rfl⟩ := hp_3
      refine ⟨rfl, ?_⟩
      refine z_eq (ws2 := [eX4 h hT hN hU hA hK hW hL hZ (nI sg) (nI ev), eX2 hT hB (nI ty) pl fi se hD tev, eX0 hN (nI (s 0)) (nI (s 1)) (nI (s 2)) (nI (s 3)) (nI (s 4)), eX1 hA hAA (nI kn), eX1 hK hKA (nI kp)]) (st2 := [.int (nI ((s 0) + (s 1)))]) rfl rfl rfl ?_
      exact hRet.i dX4_count_59 ⟨by rw [dz_ok (by decide) (by decide) (by decide)]; rfl, rfl⟩
    · refine z_lv [0, 1] (lv2 := [(0, .ref h), (1, .int (nI 1))]) rfl ?_
      refine z_tableIn X (pc := 1) (off := 59) 60 dX4_count_1 (by decide) (by decide) (by decide) (by decide) ?_
      refine z_aload_n X (pc := 60) 0 dX4_count_60 rfl ?_
      refine z_get X (pc := 61) 0 1 (.ref hN) tu_4 tw_145 dX4_count_61 rfl rfl (by decide) rfl rfl ?_
      refine z_get X (pc := 64) 2 3 (.int (nI (s 3))) tu_0 tw_40 dX4_count_64 rfl rfl (by decide) rfl rfl ?_
      exact hRet.i dX4_count_67 ⟨by rw [dz_ok (by decide) (by decide) (by decide)]; rfl, rfl⟩
    · refine z_lv [0, 1] (lv2 := [(0, .ref h), (1, .int (nI 2))]) rfl ?_
      refine z_tableIn X (pc := 1) (off := 67) 68 dX4_count_1 (by decide) (by decide) (by decide) (by decide) ?_
      refine z_aload_n X (pc := 68) 0 dX4_count_68 rfl ?_
      refine z_get X (pc := 69) 0 1 (.ref hN) tu_4 tw_145 dX4_count_69 rfl rfl (by decide) rfl rfl ?_
      refine z_get X (pc := 72) 2 4 (.int (nI (s 4))) tu_0 tw_43 dX4_count_72 rfl rfl (by decide) rfl rfl ?_
      exact hRet.i dX4_count_75 ⟨by rw [dz_ok (by decide) (by decide) (by decide)]; rfl, rfl⟩
    · refine z_lv [0, 1] (lv2 := [(0, .ref h), (1, .int (nI 3))]) rfl ?_
      refine z_tableIn X (pc := 1) (off := 75) 76 dX4_count_1 (by decide) (by decide) (by decide) (by decide) ?_
      refine z_aload_n X (pc := 76) 0 dX4_count_76 rfl ?_
      refine z_get X (pc := 77) 0 9 (.int (nI ev)) tu_4 tw_153 dX4_count_77 rfl rfl (by decide) rfl rfl ?_
      exact hRet.i dX4_count_80 ⟨by rw [dz_ok (by decide) (by decide) (by decide)]; rfl, rfl⟩
    · refine z_lv [0, 1] (lv2 := [(0, .ref h), (1, .int (nI 4))]) rfl ?_
      refine z_tableIn X (pc := 1) (off := 80) 81 dX4_count_1 (by decide) (by decide) (by decide) (by decide) ?_
      refine z_aload_n X (pc := 81) 0 dX4_count_81 rfl ?_
      refine z_get X (pc := 82) 0 1 (.ref hN) tu_4 tw_145 dX4_count_82 rfl rfl (by decide) rfl rfl ?_
      refine z_get X (pc := 85) 2 2 (.int (nI (s 2))) tu_0 tw_34 dX4_count_85 rfl rfl (by decide) rfl rfl ?_
      exact hRet.i dX4_count_88 ⟨by rw [dz_ok (by decide) (by decide) (by decide)]; rfl, rfl⟩
    · refine z_lv [0, 1] (lv2 := [(0, .ref h), (1, .int (nI 5))]) rfl ?_
      refine z_tableIn X (pc := 1) (off := 88) 89 dX4_count_1 (by decide) (by decide) (by decide) (by decide) ?_
      refine z_aload_n X (pc := 89) 0 dX4_count_89 rfl ?_
      refine z_get X (pc := 90) 0 8 (.int (nI sg)) tu_4 tw_152 dX4_count_90 rfl rfl (by decide) rfl rfl ?_
      exact hRet.i dX4_count_93 ⟨by rw [dz_ok (by decide) (by decide) (by decide)]; rfl, rfl⟩
    · refine z_lv [0, 1] (lv2 := [(0, .ref h), (1, .int (nI 6))]) rfl ?_
      refine z_tableIn X (pc := 1) (off := 93) 94 dX4_count_1 (by decide) (by decide) (by decide) (by decide) ?_
      refine z_aload_n X (pc := 94) 0 dX4_count_94 rfl ?_
      refine z_get X (pc := 95) 0 3 (.ref hA) tu_4 tw_147 dX4_count_95 rfl rfl (by decide) rfl rfl ?_
      refine zc_V (as := []) X (pc := 98) (c_X1_size lq D t hA hAA kn ) tw_354 tw_357 tw_4 tw_355 tw_356 0 1 rfl rfl [3] rfl rfl dX4_count_98 rfl zdX1_size ⟨rfl, rfl, Nat.le_of_ble_eq_true rfl, Nat.le_of_ble_eq_true rfl⟩ (Nat.le_of_ble_eq_true rfl) (Nat.zero_le _) (Nat.zero_le _) (fun v_4 w_5 hp_6 => ?_)
      obtain ⟨rfl, rfl⟩ := hp_6
      refine ⟨rfl, ?_⟩
      refine z_eq (ws2 := [eX4 h hT hN hU hA hK hW hL hZ (nI sg) (nI ev), eX2 hT hB (nI ty) pl fi se hD tev, eX0 hN (nI (s 0)) (nI (s 1)) (nI (s 2)) (nI (s 3)) (nI (s 4)), eX1 hA hAA (nI kn), eX1 hK hKA (nI kp)]) (st2 := [.int (nI kn)]) rfl rfl rfl ?_
      exact hRet.i dX4_count_101 ⟨by rw [dz_ok (by decide) (by decide) (by decide)]; rfl, rfl⟩
    · refine z_lv [0, 1] (lv2 := [(0, .ref h), (1, .int (nI 7))]) rfl ?_
      refine z_tableIn X (pc := 1) (off := 101) 102 dX4_count_1 (by decide) (by decide) (by decide) (by decide) ?_
      refine z_aload_n X (pc := 102) 0 dX4_count_102 rfl ?_
      refine z_get X (pc := 103) 0 4 (.ref hK) tu_4 tw_148 dX4_count_103 rfl rfl (by decide) rfl rfl ?_
      refine zc_V (as := []) X (pc := 106) (c_X1_size lq D t hK hKA kp ) tw_354 tw_357 tw_4 tw_355 tw_356 0 1 rfl rfl [4] rfl rfl dX4_count_106 rfl zdX1_size ⟨rfl, rfl, Nat.le_of_ble_eq_true rfl, Nat.le_of_ble_eq_true rfl⟩ (Nat.le_of_ble_eq_true rfl) (Nat.zero_le _) (Nat.zero_le _) (fun v_7 w_8 hp_9 => ?_)
      obtain ⟨rfl, rfl⟩ := hp_9
      refine ⟨rfl, ?_⟩
      refine z_eq (ws2 := [eX4 h hT hN hU hA hK hW hL hZ (nI sg) (nI ev), eX2 hT hB (nI ty) pl fi se hD tev, eX0 hN (nI (s 0)) (nI (s 1)) (nI (s 2)) (nI (s 3)) (nI (s 4)), eX1 hA hAA (nI kn), eX1 hK hKA (nI kp)]) (st2 := [.int (nI kp)]) rfl rfl rfl ?_
      exact hRet.i dX4_count_109 ⟨by rw [dz_ok (by decide) (by decide) (by decide)]; rfl, rfl⟩
    · refine z_lv [0, 1] (lv2 := [(0, .ref h), (1, .int (nI 8))]) rfl ?_
      refine z_tableIn X (pc := 1) (off := 109) 110 dX4_count_1 (by decide) (by decide) (by decide) (by decide) ?_
      refine z_aload_n X (pc := 110) 0 dX4_count_110 rfl ?_
      refine z_get X (pc := 111) 0 0 (.ref hT) tu_4 tw_144 dX4_count_111 rfl rfl (by decide) rfl rfl ?_
      refine zc_V (as := []) X (pc := 114) (c_X2_size lq D t hT hB hD ty pl fi se tev ) tw_188 tw_191 tw_2 tw_189 tw_190 0 2 rfl rfl [1] rfl rfl dX4_count_114 rfl zdX2_size ⟨rfl, rfl, Nat.le_of_ble_eq_true rfl, Nat.le_of_ble_eq_true rfl⟩ (Nat.le_of_ble_eq_true rfl) (Nat.zero_le _) (Nat.zero_le _) (fun v_10 w_11 hp_12 => ?_)
      obtain ⟨rfl, rfl⟩ := hp_12
      refine ⟨rfl, ?_⟩
      refine z_eq (ws2 := [eX4 h hT hN hU hA hK hW hL hZ (nI sg) (nI ev), eX2 hT hB (nI ty) pl fi se hD tev, eX0 hN (nI (s 0)) (nI (s 1)) (nI (s 2)) (nI (s 3)) (nI (s 4)), eX1 hA hAA (nI kn), eX1 hK hKA (nI kp)]) (st2 := [.int (nI ty)]) rfl rfl rfl ?_
      exact hRet.i dX4_count_117 ⟨by rw [dz_ok (by decide) (by decide) (by decide)]; rfl, rfl⟩
  · skip
    refine z_tableOut X (pc := 1) 118 dX4_count_1 (tout hw) (by decide) ?_
    refine z_iconst X (pc := 118) (-1) dX4_count_118 (by decide) ?_
    exact hRet.i dX4_count_119 ⟨by rw [dz_bad hw]; rfl, rfl⟩
