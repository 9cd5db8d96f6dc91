/-! PART 10: Pile (acts: 8 coats, kept: 2), as a flat row of fives -/
def pput (g : Nat → Nat) (kn : Nat) (s : Nat → Nat) : Nat → Nat := fun j =>
  if kn = 8 then (if j < 35 then g (j + 5) else s (j - 35)) else if 5 * kn ≤ j ∧ j < 5 * kn + 5 then s (j - 5 * kn) else g j
def kput (g : Nat → Nat) (kn : Nat) (s : Nat → Nat) : Nat → Nat := fun j =>
  if 5 * kn ≤ j ∧ j < 5 * kn + 5 then s (j - 5 * kn) else g j
abbrev rm_X1_size : Room := { frames := 0, cells := 0, slots := 0, locals := 0 }
set_option maxHeartbeats 4000000 in
set_option maxRecDepth 100000 in
theorem c_X1_size (lq : Launch) (D : va_G) (t : zT) (h0 ha sz : Nat)  : Ct lq D t yX1_size cX1_size 1 (some .int) rm_X1_size [.ref h0] [eX1 h0 ha (nI sz)] 0 0 (fun rv rw_ => rv = some (.int (nI sz)) ∧ rw_ = [eX1 h0 ha (nI sz)]) := by
  refine Ct.of (by decide) (Nat.le_of_ble_eq_true rfl) (fun k X hR => ?_)
  have X : zX D t k cX1_size 1 RX1 "size" rm_X1_size lq := X
  refine z_eq (lv2 := [(0, .ref h0)]) rfl rfl rfl ?_
  refine z_aload_n X (pc := 0) 0 dX1_size_0 rfl ?_
  refine z_get X (pc := 1) 0 1 (.int (nI sz)) tu_1 tw_95 dX1_size_1 rfl rfl (by decide) rfl rfl ?_
  exact hR.i dX1_size_4 ⟨rfl, rfl⟩

abbrev rm_X1_clear : Room := { frames := 0, cells := 0, slots := 0, locals := 0 }
set_option maxHeartbeats 4000000 in
set_option maxRecDepth 100000 in
theorem c_X1_clear (lq : Launch) (D : va_G) (t : zT) (h0 ha sz : Nat)  : Ct lq D t yX1_clear cX1_clear 1 none rm_X1_clear [.ref h0] [eX1 h0 ha (nI sz)] 0 0 (fun rv rw_ => rv = none ∧ rw_ = [eX1 h0 ha (nI 0)]) := by
  refine Ct.of (by decide) (Nat.le_of_ble_eq_true rfl) (fun k X hR => ?_)
  have X : zX D t k cX1_clear 1 RX1 "clear" rm_X1_clear lq := X
  refine z_eq (lv2 := [(0, .ref h0)]) rfl rfl rfl ?_
  refine z_aload_n X (pc := 0) 0 dX1_clear_0 rfl ?_
  refine z_iconst X (pc := 1) (nI 0) dX1_clear_1 (by decide) ?_
  refine z_put X (pc := 2) 0 1 [eX1 h0 ha (nI 0)] tu_1 tyX1_ok nmX1 tw_95 dX1_clear_2 rfl rfl (by decide) rfl rfl rfl rfl (Nat.le_of_ble_eq_true rfl) rfl ?_
  exact hR.v dX1_clear_5 ⟨rfl, rfl⟩

abbrev rm_X1_isFull : Room := { frames := 0, cells := 0, slots := 0, locals := 0 }
set_option maxHeartbeats 4000000 in
set_option maxRecDepth 100000 in
theorem c_X1_isFull (lq : Launch) (D : va_G) (t : zT) (h0 ha sz n : Nat) (f : Nat → Option Nat) (hn : n < 100) (hsz : sz < 100) : Ct lq D t yX1_isFull cX1_isFull 1 (some .boolean) rm_X1_isFull [.ref h0] [eX1 h0 ha (nI sz), eQ t ha n f] 0 0 (fun rv rw_ => rv = some (.int (zb (n ≤ sz))) ∧ rw_ = [eX1 h0 ha (nI sz), eQ t ha n f]) := by
  refine Ct.of (by decide) (Nat.le_of_ble_eq_true rfl) (fun k X hR => ?_)
  have X : zX D t k cX1_isFull 1 RX1 "isFull" rm_X1_isFull lq := X
  refine z_eq (lv2 := [(0, .ref h0)]) rfl rfl rfl ?_
  refine z_aload_n X (pc := 0) 0 dX1_isFull_0 rfl ?_
  refine z_get X (pc := 1) 0 1 (.int (nI sz)) tu_1 tw_95 dX1_isFull_1 rfl rfl (by decide) rfl rfl ?_
  refine z_aload_n X (pc := 4) 0 dX1_isFull_4 rfl ?_
  refine z_get X (pc := 5) 0 0 (.ref ha) tu_1 tw_94 dX1_isFull_5 rfl rfl (by decide) rfl rfl ?_
  refine z_alen_q X (pc := 8) 1 dX1_isFull_8 rfl ?_
  refine z_icmp_ltN X (pc := 9) 16 (by omega) (by omega) dX1_isFull_9 (by decide) (fun c_9 => ?_) (fun c_9 => ?_)
  · skip
    refine z_iconst X (pc := 16) (nI 0) dX1_isFull_16 (by decide) ?_
    exact hR.z dX1_isFull_17 rfl ⟨some_zb_f (by omega), rfl⟩
  · skip
    refine z_iconst X (pc := 12) (nI 1) dX1_isFull_12 (by decide) ?_
    refine z_goto X (pc := 13) 17 dX1_isFull_13 (by decide) ?_
    exact hR.z dX1_isFull_17 rfl ⟨some_zb_t (by omega), rfl⟩

abbrev rm_X1_dropOldest : Room := { frames := 1, cells := 0, slots := 0, locals := 21 }
set_option maxHeartbeats 4000000 in
set_option maxRecDepth 100000 in
theorem c_X1_dropOldest (lq : Launch) (D : va_G) (t : zT) (h0 ha : Nat) (ad g : Nat → Nat) (sz : Nat)  : Ct lq D t yX1_dropOldest cX1_dropOldest 2 none rm_X1_dropOldest [.ref h0] [eX1 h0 ha (nI sz), eQ t ha 8 (fun j => some (ad j)), eX0 (ad 0) (nI (g 0)) (nI (g 1)) (nI (g 2)) (nI (g 3)) (nI (g 4)), eX0 (ad 1) (nI (g 5)) (nI (g 6)) (nI (g 7)) (nI (g 8)) (nI (g 9)), eX0 (ad 2) (nI (g 10)) (nI (g 11)) (nI (g 12)) (nI (g 13)) (nI (g 14)), eX0 (ad 3) (nI (g 15)) (nI (g 16)) (nI (g 17)) (nI (g 18)) (nI (g 19)), eX0 (ad 4) (nI (g 20)) (nI (g 21)) (nI (g 22)) (nI (g 23)) (nI (g 24)), eX0 (ad 5) (nI (g 25)) (nI (g 26)) (nI (g 27)) (nI (g 28)) (nI (g 29)), eX0 (ad 6) (nI (g 30)) (nI (g 31)) (nI (g 32)) (nI (g 33)) (nI (g 34)), eX0 (ad 7) (nI (g 35)) (nI (g 36)) (nI (g 37)) (nI (g 38)) (nI (g 39))] 0 0 (fun rv rw_ => rv = none ∧ rw_ = [eX1 h0 ha (nI 7), eQ t ha 8 (fun j => some (ad j)), eX0 (ad 0) (nI (g 5)) (nI (g 6)) (nI (g 7)) (nI (g 8)) (nI (g 9)), eX0 (ad 1) (nI (g 10)) (nI (g 11)) (nI (g 12)) (nI (g 13)) (nI (g 14)), eX0 (ad 2) (nI (g 15)) (nI (g 16)) (nI (g 17)) (nI (g 18)) (nI (g 19)), eX0 (ad 3) (nI (g 20)) (nI (g 21)) (nI (g 22)) (nI (g 23)) (nI (g 24)), eX0 (ad 4) (nI (g 25)) (nI (g 26)) (nI (g 27)) (nI (g 28)) (nI (g 29)), eX0 (ad 5) (nI (g 30)) (nI (g 31)) (nI (g 32)) (nI (g 33)) (nI (g 34)), eX0 (ad 6) (nI (g 35)) (nI (g 36)) (nI (g 37)) (nI (g 38)) (nI (g 39)), eX0 (ad 7) (nI (g 35)) (nI (g 36)) (nI (g 37)) (nI (g 38)) (nI (g 39))]) := by
  refine Ct.of (by decide) (Nat.le_of_ble_eq_true rfl) (fun k X hR => ?_)
  have X : zX D t k cX1_dropOldest 2 RX1 "dropOldest" rm_X1_dropOldest lq := X
  refine z_eq (lv2 := [(0, .ref h0)]) rfl rfl rfl ?_
  refine z_iconst X (pc := 0) (nI 1) dX1_dropOldest_0 (by decide) ?_
  refine z_istore_n X (pc := 1) (i := 1) [(1, .int (nI 1)), (0, .ref h0)] dX1_dropOldest_1 rfl (by decide) rfl ?_
  refine z_iload_n X (pc := 2) 0 dX1_dropOldest_2 rfl ?_
  refine z_aload_n X (pc := 3) 1 dX1_dropOldest_3 rfl ?_
  refine z_get X (pc := 4) 0 0 (.ref ha) tu_1 tw_94 dX1_dropOldest_4 rfl rfl (by decide) rfl rfl ?_
  refine z_alen_q X (pc := 7) 1 dX1_dropOldest_7 rfl ?_
  refine z_icmp_geN X (pc := 8) 34 (by omega) (by omega) dX1_dropOldest_8 (by decide) (fun c_8 => absurd c_8 (by decide)) (fun c_8 => ?_)
  refine z_aload_n X (pc := 11) 1 dX1_dropOldest_11 rfl ?_
  refine z_get X (pc := 12) 0 0 (.ref ha) tu_1 tw_94 dX1_dropOldest_12 rfl rfl (by decide) rfl rfl ?_
  refine z_iload_n X (pc := 15) 0 dX1_dropOldest_15 rfl ?_
  refine z_iconst X (pc := 16) (nI 1) dX1_dropOldest_16 (by decide) ?_
  refine z_isub X (pc := 17) (v := (nI 0)) dX1_dropOldest_17 (pk_sub (by omega)) ?_
  refine z_aald X (pc := 18) 1 0 (ad 0) dX1_dropOldest_18 rfl rfl (Nat.le_of_ble_eq_true rfl) (by omega) rfl ?_
  refine z_aload_n X (pc := 19) 1 dX1_dropOldest_19 rfl ?_
  refine z_get X (pc := 20) 0 0 (.ref ha) tu_1 tw_94 dX1_dropOldest_20 rfl rfl (by decide) rfl rfl ?_
  refine z_iload_n X (pc := 23) 0 dX1_dropOldest_23 rfl ?_
  refine z_aald X (pc := 24) 1 1 (ad 1) dX1_dropOldest_24 rfl rfl (Nat.le_of_ble_eq_true rfl) (by omega) rfl ?_
  refine zc_V (as := [.ref (ad 1)]) X (pc := 25) (c_X0_copyFrom lq D t (ad 0) (ad 1) (nI (g 0)) (nI (g 1)) (nI (g 2)) (nI (g 3)) (nI (g 4)) (nI (g 5)) (nI (g 6)) (nI (g 7)) (nI (g 8)) (nI (g 9)) ) tw_318 tw_270 tw_3 tw_268 tw_269 0 0 rfl rfl [2, 3] rfl rfl dX1_dropOldest_25 rfl zdX0_copyFrom ⟨rfl, rfl, Nat.le_of_ble_eq_true rfl, Nat.le_of_ble_eq_true rfl⟩ (Nat.le_of_ble_eq_true rfl) (Nat.zero_le _) (Nat.zero_le _) (fun v_1 w_2 hp_3 => ?_)
  obtain ⟨rfl, rfl⟩ := hp_3
  refine ⟨rfl, ?_⟩
  refine z_eq (ws2 := [eX1 h0 ha (nI sz), eQ t ha 8 (fun j => some (ad j)), eX0 (ad 0) (nI (g 5)) (nI (g 6)) (nI (g 7)) (nI (g 8)) (nI (g 9)), eX0 (ad 1) (nI (g 5)) (nI (g 6)) (nI (g 7)) (nI (g 8)) (nI (g 9)), eX0 (ad 2) (nI (g 10)) (nI (g 11)) (nI (g 12)) (nI (g 13)) (nI (g 14)), eX0 (ad 3) (nI (g 15)) (nI (g 16)) (nI (g 17)) (nI (g 18)) (nI (g 19)), eX0 (ad 4) (nI (g 20)) (nI (g 21)) (nI (g 22)) (nI (g 23)) (nI (g 24)), eX0 (ad 5) (nI (g 25)) (nI (g 26)) (nI (g 27)) (nI (g 28)) (nI (g 29)), eX0 (ad 6) (nI (g 30)) (nI (g 31)) (nI (g 32)) (nI (g 33)) (nI (g 34)), eX0 (ad 7) (nI (g 35)) (nI (g 36)) (nI (g 37)) (nI (g 38)) (nI (g 39))]) (st2 := []) rfl rfl rfl ?_
  refine z_iinc X (pc := 28) (i := 1) 0 (nI 2) [(1, .int (nI 2)), (0, .ref h0)] dX1_dropOldest_28 rfl (nI_incc 1 1) (by decide) rfl ?_
  refine z_goto X (pc := 31) 2 dX1_dropOldest_31 (by decide) ?_
  refine z_iload_n X (pc := 2) 0 dX1_dropOldest_2 rfl ?_
  refine z_aload_n X (pc := 3) 1 dX1_dropOldest_3 rfl ?_
  refine z_get X (pc := 4) 0 0 (.ref ha) tu_1 tw_94 dX1_dropOldest_4 rfl rfl (by decide) rfl rfl ?_
  refine z_alen_q X (pc := 7) 1 dX1_dropOldest_7 rfl ?_
  refine z_icmp_geN X (pc := 8) 34 (by omega) (by omega) dX1_dropOldest_8 (by decide) (fun c_8 => absurd c_8 (by decide)) (fun c_8 => ?_)
  refine z_aload_n X (pc := 11) 1 dX1_dropOldest_11 rfl ?_
  refine z_get X (pc := 12) 0 0 (.ref ha) tu_1 tw_94 dX1_dropOldest_12 rfl rfl (by decide) rfl rfl ?_
  refine z_iload_n X (pc := 15) 0 dX1_dropOldest_15 rfl ?_
  refine z_iconst X (pc := 16) (nI 1) dX1_dropOldest_16 (by decide) ?_
  refine z_isub X (pc := 17) (v := (nI 1)) dX1_dropOldest_17 (pk_sub (by omega)) ?_
  refine z_aald X (pc := 18) 1 1 (ad 1) dX1_dropOldest_18 rfl rfl (Nat.le_of_ble_eq_true rfl) (by omega) rfl ?_
  refine z_aload_n X (pc := 19) 1 dX1_dropOldest_19 rfl ?_
  refine z_get X (pc := 20) 0 0 (.ref ha) tu_1 tw_94 dX1_dropOldest_20 rfl rfl (by decide) rfl rfl ?_
  refine z_iload_n X (pc := 23) 0 dX1_dropOldest_23 rfl ?_
  refine z_aald X (pc := 24) 1 2 (ad 2) dX1_dropOldest_24 rfl rfl (Nat.le_of_ble_eq_true rfl) (by omega) rfl ?_
  refine zc_V (as := [.ref (ad 2)]) X (pc := 25) (c_X0_copyFrom lq D t (ad 1) (ad 2) (nI (g 5)) (nI (g 6)) (nI (g 7)) (nI (g 8)) (nI (g 9)) (nI (g 10)) (nI (g 11)) (nI (g 12)) (nI (g 13)) (nI (g 14)) ) tw_318 tw_270 tw_3 tw_268 tw_269 0 0 rfl rfl [3, 4] rfl rfl dX1_dropOldest_25 rfl zdX0_copyFrom ⟨rfl, rfl, Nat.le_of_ble_eq_true rfl, Nat.le_of_ble_eq_true rfl⟩ (Nat.le_of_ble_eq_true rfl) (Nat.zero_le _) (Nat.zero_le _) (fun v_4 w_5 hp_6 => ?_)
  obtain ⟨rfl, rfl⟩ := hp_6
  refine ⟨rfl, ?_⟩
  refine z_eq (ws2 := [eX1 h0 ha (nI sz), eQ t ha 8 (fun j => some (ad j)), eX0 (ad 0) (nI (g 5)) (nI (g 6)) (nI (g 7)) (nI (g 8)) (nI (g 9)), eX0 (ad 1) (nI (g 10)) (nI (g 11)) (nI (g 12)) (nI (g 13)) (nI (g 14)), eX0 (ad 2) (nI (g 10)) (nI (g 11)) (nI (g 12)) (nI (g 13)) (nI (g 14)), eX0 (ad 3) (nI (g 15)) (nI (g 16)) (nI (g 17)) (nI (g 18)) (nI (g 19)), eX0 (ad 4) (nI (g 20)) (nI (g 21)) (nI (g 22)) (nI (g 23)) (nI (g 24)), eX0 (ad 5) (nI (g 25)) (nI (g 26)) (nI (g 27)) (nI (g 28)) (nI (g 29)), eX0 (ad 6) (nI (g 30)) (nI (g 31)) (nI (g 32)) (nI (g 33)) (nI (g 34)), eX0 (ad 7) (nI (g 35)) (nI (g 36)) (nI (g 37)) (nI (g 38)) (nI (g 39))]) (st2 := []) rfl rfl rfl ?_
  refine z_iinc X (pc := 28) (i := 1) 0 (nI 3) [(1, .int (nI 3)), (0, .ref h0)] dX1_dropOldest_28 rfl (nI_incc 2 1) (by decide) rfl ?_
  refine z_goto X (pc := 31) 2 dX1_dropOldest_31 (by decide) ?_
  refine z_iload_n X (pc := 2) 0 dX1_dropOldest_2 rfl ?_
  refine z_aload_n X (pc := 3) 1 dX1_dropOldest_3 rfl ?_
  refine z_get X (pc := 4) 0 0 (.ref ha) tu_1 tw_94 dX1_dropOldest_4 rfl rfl (by decide) rfl rfl ?_
  refine z_alen_q X (pc := 7) 1 dX1_dropOldest_7 rfl ?_
  refine z_icmp_geN X (pc := 8) 34 (by omega) (by omega) dX1_dropOldest_8 (by decide) (fun c_8 => absurd c_8 (by decide)) (fun c_8 => ?_)
  refine z_aload_n X (pc := 11) 1 dX1_dropOldest_11 rfl ?_
  refine z_get X (pc := 12) 0 0 (.ref ha) tu_1 tw_94 dX1_dropOldest_12 rfl rfl (by decide) rfl rfl ?_
  refine z_iload_n X (pc := 15) 0 dX1_dropOldest_15 rfl ?_
  refine z_iconst X (pc := 16) (nI 1) dX1_dropOldest_16 (by decide) ?_
  refine z_isub X (pc := 17) (v := (nI 2)) dX1_dropOldest_17 (pk_sub (by omega)) ?_
  refine z_aald X (pc := 18) 1 2 (ad 2) dX1_dropOldest_18 rfl rfl (Nat.le_of_ble_eq_true rfl) (by omega) rfl ?_
  refine z_aload_n X (pc := 19) 1 dX1_dropOldest_19 rfl ?_
  refine z_get X (pc := 20) 0 0 (.ref ha) tu_1 tw_94 dX1_dropOldest_20 rfl rfl (by decide) rfl rfl ?_
  refine z_iload_n X (pc := 23) 0 dX1_dropOldest_23 rfl ?_
  refine z_aald X (pc := 24) 1 3 (ad 3) dX1_dropOldest_24 rfl rfl (Nat.le_of_ble_eq_true rfl) (by omega) rfl ?_
  refine zc_V (as := [.ref (ad 3)]) X (pc := 25) (c_X0_copyFrom lq D t (ad 2) (ad 3) (nI (g 10)) (nI (g 11)) (nI (g 12)) (nI (g 13)) (nI (g 14)) (nI (g 15)) (nI (g 16)) (nI (g 17)) (nI (g 18)) (nI (g 19)) ) tw_318 tw_270 tw_3 tw_268 tw_269 0 0 rfl rfl [4, 5] rfl rfl dX1_dropOldest_25 rfl zdX0_copyFrom ⟨rfl, rfl, Nat.le_of_ble_eq_true rfl, Nat.le_of_ble_eq_true rfl⟩ (Nat.le_of_ble_eq_true rfl) (Nat.zero_le _) (Nat.zero_le _) (fun v_7 w_8 hp_9 => ?_)
  obtain ⟨rfl, rfl⟩ := hp_9
  refine ⟨rfl, ?_⟩
  refine z_eq (ws2 := [eX1 h0 ha (nI sz), eQ t ha 8 (fun j => some (ad j)), eX0 (ad 0) (nI (g 5)) (nI (g 6)) (nI (g 7)) (nI (g 8)) (nI (g 9)), eX0 (ad 1) (nI (g 10)) (nI (g 11)) (nI (g 12)) (nI (g 13)) (nI (g 14)), eX0 (ad 2) (nI (g 15)) (nI (g 16)) (nI (g 17)) (nI (g 18)) (nI (g 19)), eX0 (ad 3) (nI (g 15)) (nI (g 16)) (nI (g 17)) (nI (g 18)) (nI (g 19)), eX0 (ad 4) (nI (g 20)) (nI (g 21)) (nI (g 22)) (nI (g 23)) (nI (g 24)), eX0 (ad 5) (nI (g 25)) (nI (g 26)) (nI (g 27)) (nI (g 28)) (nI (g 29)), eX0 (ad 6) (nI (g 30)) (nI (g 31)) (nI (g 32)) (nI (g 33)) (nI (g 34)), eX0 (ad 7) (nI (g 35)) (nI (g 36)) (nI (g 37)) (nI (g 38)) (nI (g 39))]) (st2 := []) rfl rfl rfl ?_
  refine z_iinc X (pc := 28) (i := 1) 0 (nI 4) [(1, .int (nI 4)), (0, .ref h0)] dX1_dropOldest_28 rfl (nI_incc 3 1) (by decide) rfl ?_
  refine z_goto X (pc := 31) 2 dX1_dropOldest_31 (by decide) ?_
  refine z_iload_n X (pc := 2) 0 dX1_dropOldest_2 rfl ?_
  refine z_aload_n X (pc := 3) 1 dX1_dropOldest_3 rfl ?_
  refine z_get X (pc := 4) 0 0 (.ref ha) tu_1 tw_94 dX1_dropOldest_4 rfl rfl (by decide) rfl rfl ?_
  refine z_alen_q X (pc := 7) 1 dX1_dropOldest_7 rfl ?_
  refine z_icmp_geN X (pc := 8) 34 (by omega) (by omega) dX1_dropOldest_8 (by decide) (fun c_8 => absurd c_8 (by decide)) (fun c_8 => ?_)
  refine z_aload_n X (pc := 11) 1 dX1_dropOldest_11 rfl ?_
  refine z_get X (pc := 12) 0 0 (.ref ha) tu_1 tw_94 dX1_dropOldest_12 rfl rfl (by decide) rfl rfl ?_
  refine z_iload_n X (pc := 15) 0 dX1_dropOldest_15 rfl ?_
  refine z_iconst X (pc := 16) (nI 1) dX1_dropOldest_16 (by decide) ?_
  refine z_isub X (pc := 17) (v := (nI 3)) dX1_dropOldest_17 (pk_sub (by omega)) ?_
  refine z_aald X (pc := 18) 1 3 (ad 3) dX1_dropOldest_18 rfl rfl (Nat.le_of_ble_eq_true rfl) (by omega) rfl ?_
  refine z_aload_n X (pc := 19) 1 dX1_dropOldest_19 rfl ?_
  refine z_get X (pc := 20) 0 0 (.ref ha) tu_1 tw_94 dX1_dropOldest_20 rfl rfl (by decide) rfl rfl ?_
  refine z_iload_n X (pc := 23) 0 dX1_dropOldest_23 rfl ?_
  refine z_aald X (pc := 24) 1 4 (ad 4) dX1_dropOldest_24 rfl rfl (Nat.le_of_ble_eq_true rfl) (by omega) rfl ?_
  refine zc_V (as := [.ref (ad 4)]) X (pc := 25) (c_X0_copyFrom lq D t (ad 3) (ad 4) (nI (g 15)) (nI (g 16)) (nI (g 17)) (nI (g 18)) (nI (g 19)) (nI (g 20)) (nI (g 21)) (nI (g 22)) (nI (g 23)) (nI (g 24)) ) tw_318 tw_270 tw_3 tw_268 tw_269 0 0 rfl rfl [5, 6] rfl rfl dX1_dropOldest_25 rfl zdX0_copyFrom ⟨rfl, rfl, Nat.le_of_ble_eq_true rfl, Nat.le_of_ble_eq_true rfl⟩ (Nat.le_of_ble_eq_true rfl) (Nat.zero_le _) (Nat.zero_le _) (fun v_10 w_11 hp_12 => ?_)
  obtain ⟨rfl, rfl⟩ := hp_12
  refine ⟨rfl, ?_⟩
  refine z_eq (ws2 := [eX1 h0 ha (nI sz), eQ t ha 8 (fun j => some (ad j)), eX0 (ad 0) (nI (g 5)) (nI (g 6)) (nI (g 7)) (nI (g 8)) (nI (g 9)), eX0 (ad 1) (nI (g 10)) (nI (g 11)) (nI (g 12)) (nI (g 13)) (nI (g 14)), eX0 (ad 2) (nI (g 15)) (nI (g 16)) (nI (g 17)) (nI (g 18)) (nI (g 19)), eX0 (ad 3) (nI (g 20)) (nI (g 21)) (nI (g 22)) (nI (g 23)) (nI (g 24)), eX0 (ad 4) (nI (g 20)) (nI (g 21)) (nI (g 22)) (nI (g 23)) (nI (g 24)), eX0 (ad 5) (nI (g 25)) (nI (g 26)) (nI (g 27)) (nI (g 28)) (nI (g 29)), eX0 (ad 6) (nI (g 30)) (nI (g 31)) (nI (g 32)) (nI (g 33)) (nI (g 34)), eX0 (ad 7) (nI (g 35)) (nI (g 36)) (nI (g 37)) (nI (g 38)) (nI (g 39))]) (st2 := []) rfl rfl rfl ?_
  refine z_iinc X (pc := 28) (i := 1) 0 (nI 5) [(1, .int (nI 5)), (0, .ref h0)] dX1_dropOldest_28 rfl (nI_incc 4 1) (by decide) rfl ?_
  refine z_goto X (pc := 31) 2 dX1_dropOldest_31 (by decide) ?_
  refine z_iload_n X (pc := 2) 0 dX1_dropOldest_2 rfl ?_
  refine z_aload_n X (pc := 3) 1 dX1_dropOldest_3 rfl ?_
  refine z_get X (pc := 4) 0 0 (.ref ha) tu_1 tw_94 dX1_dropOldest_4 rfl rfl (by decide) rfl rfl ?_
  refine z_alen_q X (pc := 7) 1 dX1_dropOldest_7 rfl ?_
  refine z_icmp_geN X (pc := 8) 34 (by omega) (by omega) dX1_dropOldest_8 (by decide) (fun c_8 => absurd c_8 (by decide)) (fun c_8 => ?_)
  refine z_aload_n X (pc := 11) 1 dX1_dropOldest_11 rfl ?_
  refine z_get X (pc := 12) 0 0 (.ref ha) tu_1 tw_94 dX1_dropOldest_12 rfl rfl (by decide) rfl rfl ?_
  refine z_iload_n X (pc := 15) 0 dX1_dropOldest_15 rfl ?_
  refine z_iconst X (pc := 16) (nI 1) dX1_dropOldest_16 (by decide) ?_
  refine z_isub X (pc := 17) (v := (nI 4)) dX1_dropOldest_17 (pk_sub (by omega)) ?_
  refine z_aald X (pc := 18) 1 4 (ad 4) dX1_dropOldest_18 rfl rfl (Nat.le_of_ble_eq_true rfl) (by omega) rfl ?_
  refine z_aload_n X (pc := 19) 1 dX1_dropOldest_19 rfl ?_
  refine z_get X (pc := 20) 0 0 (.ref ha) tu_1 tw_94 dX1_dropOldest_20 rfl rfl (by decide) rfl rfl ?_
  refine z_iload_n X (pc := 23) 0 dX1_dropOldest_23 rfl ?_
  refine z_aald X (pc := 24) 1 5 (ad 5) dX1_dropOldest_24 rfl rfl (Nat.le_of_ble_eq_true rfl) (by omega) rfl ?_
  refine zc_V (as := [.ref (ad 5)]) X (pc := 25) (c_X0_copyFrom lq D t (ad 4) (ad 5) (nI (g 20)) (nI (g 21)) (nI (g 22)) (nI (g 23)) (nI (g 24)) (nI (g 25)) (nI (g 26)) (nI (g 27)) (nI (g 28)) (nI (g 29)) ) tw_318 tw_270 tw_3 tw_268 tw_269 0 0 rfl rfl [6, 7] rfl rfl dX1_dropOldest_25 rfl zdX0_copyFrom ⟨rfl, rfl, Nat.le_of_ble_eq_true rfl, Nat.le_of_ble_eq_true rfl⟩ (Nat.le_of_ble_eq_true rfl) (Nat.zero_le _) (Nat.zero_le _) (fun v_13 w_14 hp_15 => ?_)
  obtain ⟨rfl, rfl⟩ := hp_15
  refine ⟨rfl, ?_⟩
  refine z_eq (ws2 := [eX1 h0 ha (nI sz), eQ t ha 8 (fun j => some (ad j)), eX0 (ad 0) (nI (g 5)) (nI (g 6)) (nI (g 7)) (nI (g 8)) (nI (g 9)), eX0 (ad 1) (nI (g 10)) (nI (g 11)) (nI (g 12)) (nI (g 13)) (nI (g 14)), eX0 (ad 2) (nI (g 15)) (nI (g 16)) (nI (g 17)) (nI (g 18)) (nI (g 19)), eX0 (ad 3) (nI (g 20)) (nI (g 21)) (nI (g 22)) (nI (g 23)) (nI (g 24)), eX0 (ad 4) (nI (g 25)) (nI (g 26)) (nI (g 27)) (nI (g 28)) (nI (g 29)), eX0 (ad 5) (nI (g 25)) (nI (g 26)) (nI (g 27)) (nI (g 28)) (nI (g 29)), eX0 (ad 6) (nI (g 30)) (nI (g 31)) (nI (g 32)) (nI (g 33)) (nI (g 34)), eX0 (ad 7) (nI (g 35)) (nI (g 36)) (nI (g 37)) (nI (g 38)) (nI (g 39))]) (st2 := []) rfl rfl rfl ?_
  refine z_iinc X (pc := 28) (i := 1) 0 (nI 6) [(1, .int (nI 6)), (0, .ref h0)] dX1_dropOldest_28 rfl (nI_incc 5 1) (by decide) rfl ?_
  refine z_goto X (pc := 31) 2 dX1_dropOldest_31 (by decide) ?_
  refine z_iload_n X (pc := 2) 0 dX1_dropOldest_2 rfl ?_
  refine z_aload_n X (pc := 3) 1 dX1_dropOldest_3 rfl ?_
  refine z_get X (pc := 4) 0 0 (.ref ha) tu_1 tw_94 dX1_dropOldest_4 rfl rfl (by decide) rfl rfl ?_
  refine z_alen_q X (pc := 7) 1 dX1_dropOldest_7 rfl ?_
  refine z_icmp_geN X (pc := 8) 34 (by omega) (by omega) dX1_dropOldest_8 (by decide) (fun c_8 => absurd c_8 (by decide)) (fun c_8 => ?_)
  refine z_aload_n X (pc := 11) 1 dX1_dropOldest_11 rfl ?_
  refine z_get X (pc := 12) 0 0 (.ref ha) tu_1 tw_94 dX1_dropOldest_12 rfl rfl (by decide) rfl rfl ?_
  refine z_iload_n X (pc := 15) 0 dX1_dropOldest_15 rfl ?_
  refine z_iconst X (pc := 16) (nI 1) dX1_dropOldest_16 (by decide) ?_
  refine z_isub X (pc := 17) (v := (nI 5)) dX1_dropOldest_17 (pk_sub (by omega)) ?_
  refine z_aald X (pc := 18) 1 5 (ad 5) dX1_dropOldest_18 rfl rfl (Nat.le_of_ble_eq_true rfl) (by omega) rfl ?_
  refine z_aload_n X (pc := 19) 1 dX1_dropOldest_19 rfl ?_
  refine z_get X (pc := 20) 0 0 (.ref ha) tu_1 tw_94 dX1_dropOldest_20 rfl rfl (by decide) rfl rfl ?_
  refine z_iload_n X (pc := 23) 0 dX1_dropOldest_23 rfl ?_
  refine z_aald X (pc := 24) 1 6 (ad 6) dX1_dropOldest_24 rfl rfl (Nat.le_of_ble_eq_true rfl) (by omega) rfl ?_
  refine zc_V (as := [.ref (ad 6)]) X (pc := 25) (c_X0_copyFrom lq D t (ad 5) (ad 6) (nI (g 25)) (nI (g 26)) (nI (g 27)) (nI (g 28)) (nI (g 29)) (nI (g 30)) (nI (g 31)) (nI (g 32)) (nI (g 33)) (nI (g 34)) ) tw_318 tw_270 tw_3 tw_268 tw_269 0 0 rfl rfl [7, 8] rfl rfl dX1_dropOldest_25 rfl zdX0_copyFrom ⟨rfl, rfl, Nat.le_of_ble_eq_true rfl, Nat.le_of_ble_eq_true rfl⟩ (Nat.le_of_ble_eq_true rfl) (Nat.zero_le _) (Nat.zero_le _) (fun v_16 w_17 hp_18 => ?_)
  obtain ⟨rfl, rfl⟩ := hp_18
  refine ⟨rfl, ?_⟩
  refine z_eq (ws2 := [eX1 h0 ha (nI sz), eQ t ha 8 (fun j => some (ad j)), eX0 (ad 0) (nI (g 5)) (nI (g 6)) (nI (g 7)) (nI (g 8)) (nI (g 9)), eX0 (ad 1) (nI (g 10)) (nI (g 11)) (nI (g 12)) (nI (g 13)) (nI (g 14)), eX0 (ad 2) (nI (g 15)) (nI (g 16)) (nI (g 17)) (nI (g 18)) (nI (g 19)), eX0 (ad 3) (nI (g 20)) (nI (g 21)) (nI (g 22)) (nI (g 23)) (nI (g 24)), eX0 (ad 4) (nI (g 25)) (nI (g 26)) (nI (g 27)) (nI (g 28)) (nI (g 29)), eX0 (ad 5) (nI (g 30)) (nI (g 31)) (nI (g 32)) (nI (g 33)) (nI (g 34)), eX0 (ad 6) (nI (g 30)) (nI (g 31)) (nI (g 32)) (nI (g 33)) (nI (g 34)), eX0 (ad 7) (nI (g 35)) (nI (g 36)) (nI (g 37)) (nI (g 38)) (nI (g 39))]) (st2 := []) rfl rfl rfl ?_
  refine z_iinc X (pc := 28) (i := 1) 0 (nI 7) [(1, .int (nI 7)), (0, .ref h0)] dX1_dropOldest_28 rfl (nI_incc 6 1) (by decide) rfl ?_
  refine z_goto X (pc := 31) 2 dX1_dropOldest_31 (by decide) ?_
  refine z_iload_n X (pc := 2) 0 dX1_dropOldest_2 rfl ?_
  refine z_aload_n X (pc := 3) 1 dX1_dropOldest_3 rfl ?_
  refine z_get X (pc := 4) 0 0 (.ref ha) tu_1 tw_94 dX1_dropOldest_4 rfl rfl (by decide) rfl rfl ?_
  refine z_alen_q X (pc := 7) 1 dX1_dropOldest_7 rfl ?_
  refine z_icmp_geN X (pc := 8) 34 (by omega) (by omega) dX1_dropOldest_8 (by decide) (fun c_8 => absurd c_8 (by decide)) (fun c_8 => ?_)
  refine z_aload_n X (pc := 11) 1 dX1_dropOldest_11 rfl ?_
  refine z_get X (pc := 12) 0 0 (.ref ha) tu_1 tw_94 dX1_dropOldest_12 rfl rfl (by decide) rfl rfl ?_
  refine z_iload_n X (pc := 15) 0 dX1_dropOldest_15 rfl ?_
  refine z_iconst X (pc := 16) (nI 1) dX1_dropOldest_16 (by decide) ?_
  refine z_isub X (pc := 17) (v := (nI 6)) dX1_dropOldest_17 (pk_sub (by omega)) ?_
  refine z_aald X (pc := 18) 1 6 (ad 6) dX1_dropOldest_18 rfl rfl (Nat.le_of_ble_eq_true rfl) (by omega) rfl ?_
  refine z_aload_n X (pc := 19) 1 dX1_dropOldest_19 rfl ?_
  refine z_get X (pc := 20) 0 0 (.ref ha) tu_1 tw_94 dX1_dropOldest_20 rfl rfl (by decide) rfl rfl ?_
  refine z_iload_n X (pc := 23) 0 dX1_dropOldest_23 rfl ?_
  refine z_aald X (pc := 24) 1 7 (ad 7) dX1_dropOldest_24 rfl rfl (Nat.le_of_ble_eq_true rfl) (by omega) rfl ?_
  refine zc_V (as := [.ref (ad 7)]) X (pc := 25) (c_X0_copyFrom lq D t (ad 6) (ad 7) (nI (g 30)) (nI (g 31)) (nI (g 32)) (nI (g 33)) (nI (g 34)) (nI (g 35)) (nI (g 36)) (nI (g 37)) (nI (g 38)) (nI (g 39)) ) tw_318 tw_270 tw_3 tw_268 tw_269 0 0 rfl rfl [8, 9] rfl rfl dX1_dropOldest_25 rfl zdX0_copyFrom ⟨rfl, rfl, Nat.le_of_ble_eq_true rfl, Nat.le_of_ble_eq_true rfl⟩ (Nat.le_of_ble_eq_true rfl) (Nat.zero_le _) (Nat.zero_le _) (fun v_19 w_20 hp_21 => ?_)
  obtain ⟨rfl, rfl⟩ := hp_21
  refine ⟨rfl, ?_⟩
  refine z_eq (ws2 := [eX1 h0 ha (nI sz), eQ t ha 8 (fun j => some (ad j)), eX0 (ad 0) (nI (g 5)) (nI (g 6)) (nI (g 7)) (nI (g 8)) (nI (g 9)), eX0 (ad 1) (nI (g 10)) (nI (g 11)) (nI (g 12)) (nI (g 13)) (nI (g 14)), eX0 (ad 2) (nI (g 15)) (nI (g 16)) (nI (g 17)) (nI (g 18)) (nI (g 19)), eX0 (ad 3) (nI (g 20)) (nI (g 21)) (nI (g 22)) (nI (g 23)) (nI (g 24)), eX0 (ad 4) (nI (g 25)) (nI (g 26)) (nI (g 27)) (nI (g 28)) (nI (g 29)), eX0 (ad 5) (nI (g 30)) (nI (g 31)) (nI (g 32)) (nI (g 33)) (nI (g 34)), eX0 (ad 6) (nI (g 35)) (nI (g 36)) (nI (g 37)) (nI (g 38)) (nI (g 39)), eX0 (ad 7) (nI (g 35)) (nI (g 36)) (nI (g 37)) (nI (g 38)) (nI (g 39))]) (st2 := []) rfl rfl rfl ?_
  refine z_iinc X (pc := 28) (i := 1) 0 (nI 8) [(1, .int (nI 8)), (0, .ref h0)] dX1_dropOldest_28 rfl (nI_incc 7 1) (by decide) rfl ?_
  refine z_goto X (pc := 31) 2 dX1_dropOldest_31 (by decide) ?_
  refine z_iload_n X (pc := 2) 0 dX1_dropOldest_2 rfl ?_
  refine z_aload_n X (pc := 3) 1 dX1_dropOldest_3 rfl ?_
  refine z_get X (pc := 4) 0 0 (.ref ha) tu_1 tw_94 dX1_dropOldest_4 rfl rfl (by decide) rfl rfl ?_
  refine z_alen_q X (pc := 7) 1 dX1_dropOldest_7 rfl ?_
  refine z_icmp_geN X (pc := 8) 34 (by omega) (by omega) dX1_dropOldest_8 (by decide) (fun c_8 => ?_) (fun c_8 => absurd c_8 (by decide))
  refine z_aload_n X (pc := 34) 1 dX1_dropOldest_34 rfl ?_
  refine z_aload_n X (pc := 35) 1 dX1_dropOldest_35 rfl ?_
  refine z_get X (pc := 36) 0 0 (.ref ha) tu_1 tw_94 dX1_dropOldest_36 rfl rfl (by decide) rfl rfl ?_
  refine z_alen_q X (pc := 39) 1 dX1_dropOldest_39 rfl ?_
  refine z_iconst X (pc := 40) (nI 1) dX1_dropOldest_40 (by decide) ?_
  refine z_isub X (pc := 41) (v := (nI 7)) dX1_dropOldest_41 (pk_sub (by omega)) ?_
  refine z_put X (pc := 42) 0 1 [eX1 h0 ha (nI 7), eQ t ha 8 (fun j => some (ad j)), eX0 (ad 0) (nI (g 5)) (nI (g 6)) (nI (g 7)) (nI (g 8)) (nI (g 9)), eX0 (ad 1) (nI (g 10)) (nI (g 11)) (nI (g 12)) (nI (g 13)) (nI (g 14)), eX0 (ad 2) (nI (g 15)) (nI (g 16)) (nI (g 17)) (nI (g 18)) (nI (g 19)), eX0 (ad 3) (nI (g 20)) (nI (g 21)) (nI (g 22)) (nI (g 23)) (nI (g 24)), eX0 (ad 4) (nI (g 25)) (nI (g 26)) (nI (g 27)) (nI (g 28)) (nI (g 29)), eX0 (ad 5) (nI (g 30)) (nI (g 31)) (nI (g 32)) (nI (g 33)) (nI (g 34)), eX0 (ad 6) (nI (g 35)) (nI (g 36)) (nI (g 37)) (nI (g 38)) (nI (g 39)), eX0 (ad 7) (nI (g 35)) (nI (g 36)) (nI (g 37)) (nI (g 38)) (nI (g 39))] tu_1 tyX1_ok nmX1 tw_95 dX1_dropOldest_42 rfl rfl (by decide) rfl rfl rfl rfl (Nat.le_of_ble_eq_true rfl) rfl ?_
  exact hR.v dX1_dropOldest_45 ⟨rfl, rfl⟩

abbrev rm_X1_put8 : Room := { frames := 2, cells := 0, slots := 0, locals := 42 }
set_option maxHeartbeats 4000000 in
set_option maxRecDepth 100000 in
theorem c_X1_put8 (lq : Launch) (D : va_G) (t : zT) (h0 ha : Nat) (ad g : Nat → Nat) (sz : Nat) (hc : Nat) (s : Nat → Nat) (hsz : sz ≤ 8) : Ct lq D t yX1_put cX1_put 2 none rm_X1_put8 [.ref h0, .ref hc] [eX1 h0 ha (nI sz), eQ t ha 8 (fun j => some (ad j)), eX0 (ad 0) (nI (g 0)) (nI (g 1)) (nI (g 2)) (nI (g 3)) (nI (g 4)), eX0 (ad 1) (nI (g 5)) (nI (g 6)) (nI (g 7)) (nI (g 8)) (nI (g 9)), eX0 (ad 2) (nI (g 10)) (nI (g 11)) (nI (g 12)) (nI (g 13)) (nI (g 14)), eX0 (ad 3) (nI (g 15)) (nI (g 16)) (nI (g 17)) (nI (g 18)) (nI (g 19)), eX0 (ad 4) (nI (g 20)) (nI (g 21)) (nI (g 22)) (nI (g 23)) (nI (g 24)), eX0 (ad 5) (nI (g 25)) (nI (g 26)) (nI (g 27)) (nI (g 28)) (nI (g 29)), eX0 (ad 6) (nI (g 30)) (nI (g 31)) (nI (g 32)) (nI (g 33)) (nI (g 34)), eX0 (ad 7) (nI (g 35)) (nI (g 36)) (nI (g 37)) (nI (g 38)) (nI (g 39)), eX0 hc (nI (s 0)) (nI (s 1)) (nI (s 2)) (nI (s 3)) (nI (s 4))] 0 0 (fun rv rw_ => rv = none ∧ rw_ = [eX1 h0 ha (nI (if sz = 8 then 8 else sz + 1)), eQ t ha 8 (fun j => some (ad j)), eX0 (ad 0) (nI (pput g sz s 0)) (nI (pput g sz s 1)) (nI (pput g sz s 2)) (nI (pput g sz s 3)) (nI (pput g sz s 4)), eX0 (ad 1) (nI (pput g sz s 5)) (nI (pput g sz s 6)) (nI (pput g sz s 7)) (nI (pput g sz s 8)) (nI (pput g sz s 9)), eX0 (ad 2) (nI (pput g sz s 10)) (nI (pput g sz s 11)) (nI (pput g sz s 12)) (nI (pput g sz s 13)) (nI (pput g sz s 14)), eX0 (ad 3) (nI (pput g sz s 15)) (nI (pput g sz s 16)) (nI (pput g sz s 17)) (nI (pput g sz s 18)) (nI (pput g sz s 19)), eX0 (ad 4) (nI (pput g sz s 20)) (nI (pput g sz s 21)) (nI (pput g sz s 22)) (nI (pput g sz s 23)) (nI (pput g sz s 24)), eX0 (ad 5) (nI (pput g sz s 25)) (nI (pput g sz s 26)) (nI (pput g sz s 27)) (nI (pput g sz s 28)) (nI (pput g sz s 29)), eX0 (ad 6) (nI (pput g sz s 30)) (nI (pput g sz s 31)) (nI (pput g sz s 32)) (nI (pput g sz s 33)) (nI (pput g sz s 34)), eX0 (ad 7) (nI (pput g sz s 35)) (nI (pput g sz s 36)) (nI (pput g sz s 37)) (nI (pput g sz s 38)) (nI (pput g sz s 39)), eX0 hc (nI (s 0)) (nI (s 1)) (nI (s 2)) (nI (s 3)) (nI (s 4))]) := by
  refine Ct.of (by decide) (Nat.le_of_ble_eq_true rfl) (fun k X hR => ?_)
  have X : zX D t k cX1_put 2 RX1 "put" rm_X1_put8 lq := X
  refine z_eq (lv2 := [(0, .ref h0), (1, .ref hc)]) rfl rfl rfl ?_
  rcases (show sz = 0 ∨ sz = 1 ∨ sz = 2 ∨ sz = 3 ∨ sz = 4 ∨ sz = 5 ∨ sz = 6 ∨ sz = 7 ∨ sz = 8 by omega) with rfl | rfl | rfl | rfl | rfl | rfl | rfl | rfl | rfl
  · skip
    refine z_aload_n X (pc := 0) 0 dX1_put_0 rfl ?_
    refine zc_V (as := []) X (pc := 1) (c_X1_isFull lq D t h0 ha 0 8 (fun j => some (ad j)) (by decide) (by decide)) tw_310 tw_313 tw_4 tw_311 tw_312 0 1 rfl rfl [0, 1] rfl rfl dX1_put_1 rfl zdX1_isFull ⟨rfl, rfl, Nat.le_of_ble_eq_true rfl, Nat.le_of_ble_eq_true rfl⟩ (Nat.le_of_ble_eq_true rfl) (Nat.zero_le _) (Nat.zero_le _) (fun v_1 w_2 hp_3 => ?_)
    obtain ⟨rfl, rfl⟩ := hp_3
    refine ⟨rfl, ?_⟩
    refine z_eq (ws2 := [eX1 h0 ha (nI 0), eQ t ha 8 (fun j => some (ad j)), eX0 (ad 0) (nI (g 0)) (nI (g 1)) (nI (g 2)) (nI (g 3)) (nI (g 4)), eX0 (ad 1) (nI (g 5)) (nI (g 6)) (nI (g 7)) (nI (g 8)) (nI (g 9)), eX0 (ad 2) (nI (g 10)) (nI (g 11)) (nI (g 12)) (nI (g 13)) (nI (g 14)), eX0 (ad 3) (nI (g 15)) (nI (g 16)) (nI (g 17)) (nI (g 18)) (nI (g 19)), eX0 (ad 4) (nI (g 20)) (nI (g 21)) (nI (g 22)) (nI (g 23)) (nI (g 24)), eX0 (ad 5) (nI (g 25)) (nI (g 26)) (nI (g 27)) (nI (g 28)) (nI (g 29)), eX0 (ad 6) (nI (g 30)) (nI (g 31)) (nI (g 32)) (nI (g 33)) (nI (g 34)), eX0 (ad 7) (nI (g 35)) (nI (g 36)) (nI (g 37)) (nI (g 38)) (nI (g 39)), eX0 hc (nI (s 0)) (nI (s 1)) (nI (s 2)) (nI (s 3)) (nI (s 4))]) (st2 := [.int (zb (8 ≤ 0))]) rfl rfl rfl ?_
    refine z_if_eqB X (pc := 4) 11 dX1_put_4 (by decide) (fun c_4 => ?_) (fun c_4 => absurd c_4 (by decide))
    refine z_aload_n X (pc := 11) 0 dX1_put_11 rfl ?_
    refine z_get X (pc := 12) 0 1 (.int (nI 0)) tu_1 tw_95 dX1_put_12 rfl rfl (by decide) rfl rfl ?_
    refine z_iconst X (pc := 15) (nI 0) dX1_put_15 (by decide) ?_
    refine z_aload_n X (pc := 16) 0 dX1_put_16 rfl ?_
    refine z_get X (pc := 17) 0 0 (.ref ha) tu_1 tw_94 dX1_put_17 rfl rfl (by decide) rfl rfl ?_
    refine z_alen_q X (pc := 20) 1 dX1_put_20 rfl ?_
    refine z_iconst X (pc := 21) (nI 1) dX1_put_21 (by decide) ?_
    refine z_isub X (pc := 22) (v := (nI 7)) dX1_put_22 (pk_sub (by omega)) ?_
    refine zc_SN (as := [.int (nI 0), .int (nI 0), .int (nI 7)]) X (pc := 23) (c_X4_within lq D t (nI 0) (nI 0) (nI 7) ) tw_319 tw_182 tw_1 tw_181 [] rfl rfl dX1_put_23 rfl zdX4_within ⟨rfl, rfl, Nat.le_of_ble_eq_true rfl, Nat.le_of_ble_eq_true rfl⟩ (Nat.le_of_ble_eq_true rfl) (Nat.zero_le _) (Nat.zero_le _) (fun v_4 w_5 hp_6 => ?_)
    obtain ⟨rfl, rfl⟩ := hp_6
    refine ⟨rfl, ?_⟩
    refine z_eq (ws2 := [eX1 h0 ha (nI 0), eQ t ha 8 (fun j => some (ad j)), eX0 (ad 0) (nI (g 0)) (nI (g 1)) (nI (g 2)) (nI (g 3)) (nI (g 4)), eX0 (ad 1) (nI (g 5)) (nI (g 6)) (nI (g 7)) (nI (g 8)) (nI (g 9)), eX0 (ad 2) (nI (g 10)) (nI (g 11)) (nI (g 12)) (nI (g 13)) (nI (g 14)), eX0 (ad 3) (nI (g 15)) (nI (g 16)) (nI (g 17)) (nI (g 18)) (nI (g 19)), eX0 (ad 4) (nI (g 20)) (nI (g 21)) (nI (g 22)) (nI (g 23)) (nI (g 24)), eX0 (ad 5) (nI (g 25)) (nI (g 26)) (nI (g 27)) (nI (g 28)) (nI (g 29)), eX0 (ad 6) (nI (g 30)) (nI (g 31)) (nI (g 32)) (nI (g 33)) (nI (g 34)), eX0 (ad 7) (nI (g 35)) (nI (g 36)) (nI (g 37)) (nI (g 38)) (nI (g 39)), eX0 hc (nI (s 0)) (nI (s 1)) (nI (s 2)) (nI (s 3)) (nI (s 4))]) (st2 := [.int (zb ((nI 0) ≤ (nI 0) ∧ (nI 0) ≤ (nI 7)))]) rfl rfl rfl ?_
    refine z_if_eqB X (pc := 26) 52 dX1_put_26 (by decide) (fun c_26 => absurd c_26 (by decide)) (fun c_26 => ?_)
    refine z_aload_n X (pc := 29) 0 dX1_put_29 rfl ?_
    refine z_get X (pc := 30) 0 0 (.ref ha) tu_1 tw_94 dX1_put_30 rfl rfl (by decide) rfl rfl ?_
    refine z_aload_n X (pc := 33) 0 dX1_put_33 rfl ?_
    refine z_get X (pc := 34) 0 1 (.int (nI 0)) tu_1 tw_95 dX1_put_34 rfl rfl (by decide) rfl rfl ?_
    refine z_aald X (pc := 37) 1 0 (ad 0) dX1_put_37 rfl rfl (Nat.le_of_ble_eq_true rfl) (by decide) rfl ?_
    refine z_aload_n X (pc := 38) 1 dX1_put_38 rfl ?_
    refine zc_V (as := [.ref hc]) X (pc := 39) (c_X0_copyFrom lq D t (ad 0) hc (nI (g 0)) (nI (g 1)) (nI (g 2)) (nI (g 3)) (nI (g 4)) (nI (s 0)) (nI (s 1)) (nI (s 2)) (nI (s 3)) (nI (s 4)) ) tw_318 tw_270 tw_3 tw_268 tw_269 0 0 rfl rfl [2, 10] rfl rfl dX1_put_39 rfl zdX0_copyFrom ⟨rfl, rfl, Nat.le_of_ble_eq_true rfl, Nat.le_of_ble_eq_true rfl⟩ (Nat.le_of_ble_eq_true rfl) (Nat.zero_le _) (Nat.zero_le _) (fun v_7 w_8 hp_9 => ?_)
    obtain ⟨rfl, rfl⟩ := hp_9
    refine ⟨rfl, ?_⟩
    refine z_eq (ws2 := [eX1 h0 ha (nI 0), eQ t ha 8 (fun j => some (ad j)), eX0 (ad 0) (nI (s 0)) (nI (s 1)) (nI (s 2)) (nI (s 3)) (nI (s 4)), eX0 (ad 1) (nI (g 5)) (nI (g 6)) (nI (g 7)) (nI (g 8)) (nI (g 9)), eX0 (ad 2) (nI (g 10)) (nI (g 11)) (nI (g 12)) (nI (g 13)) (nI (g 14)), eX0 (ad 3) (nI (g 15)) (nI (g 16)) (nI (g 17)) (nI (g 18)) (nI (g 19)), eX0 (ad 4) (nI (g 20)) (nI (g 21)) (nI (g 22)) (nI (g 23)) (nI (g 24)), eX0 (ad 5) (nI (g 25)) (nI (g 26)) (nI (g 27)) (nI (g 28)) (nI (g 29)), eX0 (ad 6) (nI (g 30)) (nI (g 31)) (nI (g 32)) (nI (g 33)) (nI (g 34)), eX0 (ad 7) (nI (g 35)) (nI (g 36)) (nI (g 37)) (nI (g 38)) (nI (g 39)), eX0 hc (nI (s 0)) (nI (s 1)) (nI (s 2)) (nI (s 3)) (nI (s 4))]) (st2 := []) rfl rfl rfl ?_
    refine z_aload_n X (pc := 42) 0 dX1_put_42 rfl ?_
    refine z_dup X (pc := 43) dX1_put_43 rfl ?_
    refine z_get X (pc := 44) 0 1 (.int (nI 0)) tu_1 tw_95 dX1_put_44 rfl rfl (by decide) rfl rfl ?_
    refine z_iconst X (pc := 47) (nI 1) dX1_put_47 (by decide) ?_
    refine z_iadd X (pc := 48) (v := (nI 1)) dX1_put_48 (nI_add 0 1) ?_
    refine z_put X (pc := 49) 0 1 [eX1 h0 ha (nI 1), eQ t ha 8 (fun j => some (ad j)), eX0 (ad 0) (nI (s 0)) (nI (s 1)) (nI (s 2)) (nI (s 3)) (nI (s 4)), eX0 (ad 1) (nI (g 5)) (nI (g 6)) (nI (g 7)) (nI (g 8)) (nI (g 9)), eX0 (ad 2) (nI (g 10)) (nI (g 11)) (nI (g 12)) (nI (g 13)) (nI (g 14)), eX0 (ad 3) (nI (g 15)) (nI (g 16)) (nI (g 17)) (nI (g 18)) (nI (g 19)), eX0 (ad 4) (nI (g 20)) (nI (g 21)) (nI (g 22)) (nI (g 23)) (nI (g 24)), eX0 (ad 5) (nI (g 25)) (nI (g 26)) (nI (g 27)) (nI (g 28)) (nI (g 29)), eX0 (ad 6) (nI (g 30)) (nI (g 31)) (nI (g 32)) (nI (g 33)) (nI (g 34)), eX0 (ad 7) (nI (g 35)) (nI (g 36)) (nI (g 37)) (nI (g 38)) (nI (g 39)), eX0 hc (nI (s 0)) (nI (s 1)) (nI (s 2)) (nI (s 3)) (nI (s 4))] tu_1 tyX1_ok nmX1 tw_95 dX1_put_49 rfl rfl (by decide) rfl rfl rfl rfl (Nat.le_of_ble_eq_true rfl) rfl ?_
    exact hR.v dX1_put_52 ⟨rfl, rfl⟩
  · skip
    refine z_aload_n X (pc := 0) 0 dX1_put_0 rfl ?_
    refine zc_V (as := []) X (pc := 1) (c_X1_isFull lq D t h0 ha 1 8 (fun j => some (ad j)) (by decide) (by decide)) tw_310 tw_313 tw_4 tw_311 tw_312 0 1 rfl rfl [0, 1] rfl rfl dX1_put_1 rfl zdX1_isFull ⟨rfl, rfl, Nat.le_of_ble_eq_true rfl, Nat.le_of_ble_eq_true rfl⟩ (Nat.le_of_ble_eq_true rfl) (Nat.zero_le _) (Nat.zero_le _) (fun v_10 w_11 hp_12 => ?_)
    obtain ⟨rfl, rfl⟩ := hp_12
    refine ⟨rfl, ?_⟩
    refine z_eq (ws2 := [eX1 h0 ha (nI 1), eQ t ha 8 (fun j => some (ad j)), eX0 (ad 0) (nI (g 0)) (nI (g 1)) (nI (g 2)) (nI (g 3)) (nI (g 4)), eX0 (ad 1) (nI (g 5)) (nI (g 6)) (nI (g 7)) (nI (g 8)) (nI (g 9)), eX0 (ad 2) (nI (g 10)) (nI (g 11)) (nI (g 12)) (nI (g 13)) (nI (g 14)), eX0 (ad 3) (nI (g 15)) (nI (g 16)) (nI (g 17)) (nI (g 18)) (nI (g 19)), eX0 (ad 4) (nI (g 20)) (nI (g 21)) (nI (g 22)) (nI (g 23)) (nI (g 24)), eX0 (ad 5) (nI (g 25)) (nI (g 26)) (nI (g 27)) (nI (g 28)) (nI (g 29)), eX0 (ad 6) (nI (g 30)) (nI (g 31)) (nI (g 32)) (nI (g 33)) (nI (g 34)), eX0 (ad 7) (nI (g 35)) (nI (g 36)) (nI (g 37)) (nI (g 38)) (nI (g 39)), eX0 hc (nI (s 0)) (nI (s 1)) (nI (s 2)) (nI (s 3)) (nI (s 4))]) (st2 := [.int (zb (8 ≤ 1))]) rfl rfl rfl ?_
    refine z_if_eqB X (pc := 4) 11 dX1_put_4 (by decide) (fun c_4 => ?_) (fun c_4 => absurd c_4 (by decide))
    refine z_aload_n X (pc := 11) 0 dX1_put_11 rfl ?_
    refine z_get X (pc := 12) 0 1 (.int (nI 1)) tu_1 tw_95 dX1_put_12 rfl rfl (by decide) rfl rfl ?_
    refine z_iconst X (pc := 15) (nI 0) dX1_put_15 (by decide) ?_
    refine z_aload_n X (pc := 16) 0 dX1_put_16 rfl ?_
    refine z_get X (pc := 17) 0 0 (.ref ha) tu_1 tw_94 dX1_put_17 rfl rfl (by decide) rfl rfl ?_
    refine z_alen_q X (pc := 20) 1 dX1_put_20 rfl ?_
    refine z_iconst X (pc := 21) (nI 1) dX1_put_21 (by decide) ?_
    refine z_isub X (pc := 22) (v := (nI 7)) dX1_put_22 (pk_sub (by omega)) ?_
    refine zc_SN (as := [.int (nI 1), .int (nI 0), .int (nI 7)]) X (pc := 23) (c_X4_within lq D t (nI 1) (nI 0) (nI 7) ) tw_319 tw_182 tw_1 tw_181 [] rfl rfl dX1_put_23 rfl zdX4_within ⟨rfl, rfl, Nat.le_of_ble_eq_true rfl, Nat.le_of_ble_eq_true rfl⟩ (Nat.le_of_ble_eq_true rfl) (Nat.zero_le _) (Nat.zero_le _) (fun v_13 w_14 hp_15 => ?_)
    obtain ⟨rfl, rfl⟩ := hp_15
    refine ⟨rfl, ?_⟩
    refine z_eq (ws2 := [eX1 h0 ha (nI 1), eQ t ha 8 (fun j => some (ad j)), eX0 (ad 0) (nI (g 0)) (nI (g 1)) (nI (g 2)) (nI (g 3)) (nI (g 4)), eX0 (ad 1) (nI (g 5)) (nI (g 6)) (nI (g 7)) (nI (g 8)) (nI (g 9)), eX0 (ad 2) (nI (g 10)) (nI (g 11)) (nI (g 12)) (nI (g 13)) (nI (g 14)), eX0 (ad 3) (nI (g 15)) (nI (g 16)) (nI (g 17)) (nI (g 18)) (nI (g 19)), eX0 (ad 4) (nI (g 20)) (nI (g 21)) (nI (g 22)) (nI (g 23)) (nI (g 24)), eX0 (ad 5) (nI (g 25)) (nI (g 26)) (nI (g 27)) (nI (g 28)) (nI (g 29)), eX0 (ad 6) (nI (g 30)) (nI (g 31)) (nI (g 32)) (nI (g 33)) (nI (g 34)), eX0 (ad 7) (nI (g 35)) (nI (g 36)) (nI (g 37)) (nI (g 38)) (nI (g 39)), eX0 hc (nI (s 0)) (nI (s 1)) (nI (s 2)) (nI (s 3)) (nI (s 4))]) (st2 := [.int (zb ((nI 0) ≤ (nI 1) ∧ (nI 1) ≤ (nI 7)))]) rfl rfl rfl ?_
    refine z_if_eqB X (pc := 26) 52 dX1_put_26 (by decide) (fun c_26 => absurd c_26 (by decide)) (fun c_26 => ?_)
    refine z_aload_n X (pc := 29) 0 dX1_put_29 rfl ?_
    refine z_get X (pc := 30) 0 0 (.ref ha) tu_1 tw_94 dX1_put_30 rfl rfl (by decide) rfl rfl ?_
    refine z_aload_n X (pc := 33) 0 dX1_put_33 rfl ?_
    refine z_get X (pc := 34) 0 1 (.int (nI 1)) tu_1 tw_95 dX1_put_34 rfl rfl (by decide) rfl rfl ?_
    refine z_aald X (pc := 37) 1 1 (ad 1) dX1_put_37 rfl rfl (Nat.le_of_ble_eq_true rfl) (by decide) rfl ?_
    refine z_aload_n X (pc := 38) 1 dX1_put_38 rfl ?_
    refine zc_V (as := [.ref hc]) X (pc := 39) (c_X0_copyFrom lq D t (ad 1) hc (nI (g 5)) (nI (g 6)) (nI (g 7)) (nI (g 8)) (nI (g 9)) (nI (s 0)) (nI (s 1)) (nI (s 2)) (nI (s 3)) (nI (s 4)) ) tw_318 tw_270 tw_3 tw_268 tw_269 0 0 rfl rfl [3, 10] rfl rfl dX1_put_39 rfl zdX0_copyFrom ⟨rfl, rfl, Nat.le_of_ble_eq_true rfl, Nat.le_of_ble_eq_true rfl⟩ (Nat.le_of_ble_eq_true rfl) (Nat.zero_le _) (Nat.zero_le _) (fun v_16 w_17 hp_18 => ?_)
    obtain ⟨rfl, rfl⟩ := hp_18
    refine ⟨rfl, ?_⟩
    refine z_eq (ws2 := [eX1 h0 ha (nI 1), eQ t ha 8 (fun j => some (ad j)), eX0 (ad 0) (nI (g 0)) (nI (g 1)) (nI (g 2)) (nI (g 3)) (nI (g 4)), eX0 (ad 1) (nI (s 0)) (nI (s 1)) (nI (s 2)) (nI (s 3)) (nI (s 4)), eX0 (ad 2) (nI (g 10)) (nI (g 11)) (nI (g 12)) (nI (g 13)) (nI (g 14)), eX0 (ad 3) (nI (g 15)) (nI (g 16)) (nI (g 17)) (nI (g 18)) (nI (g 19)), eX0 (ad 4) (nI (g 20)) (nI (g 21)) (nI (g 22)) (nI (g 23)) (nI (g 24)), eX0 (ad 5) (nI (g 25)) (nI (g 26)) (nI (g 27)) (nI (g 28)) (nI (g 29)), eX0 (ad 6) (nI (g 30)) (nI (g 31)) (nI (g 32)) (nI (g 33)) (nI (g 34)), eX0 (ad 7) (nI (g 35)) (nI (g 36)) (nI (g 37)) (nI (g 38)) (nI (g 39)), eX0 hc (nI (s 0)) (nI (s 1)) (nI (s 2)) (nI (s 3)) (nI (s 4))]) (st2 := []) rfl rfl rfl ?_
    refine z_aload_n X (pc := 42) 0 dX1_put_42 rfl ?_
    refine z_dup X (pc := 43) dX1_put_43 rfl ?_
    refine z_get X (pc := 44) 0 1 (.int (nI 1)) tu_1 tw_95 dX1_put_44 rfl rfl (by decide) rfl rfl ?_
    refine z_iconst X (pc := 47) (nI 1) dX1_put_47 (by decide) ?_
    refine z_iadd X (pc := 48) (v := (nI 2)) dX1_put_48 (nI_add 1 1) ?_
    refine z_put X (pc := 49) 0 1 [eX1 h0 ha (nI 2), eQ t ha 8 (fun j => some (ad j)), eX0 (ad 0) (nI (g 0)) (nI (g 1)) (nI (g 2)) (nI (g 3)) (nI (g 4)), eX0 (ad 1) (nI (s 0)) (nI (s 1)) (nI (s 2)) (nI (s 3)) (nI (s 4)), eX0 (ad 2) (nI (g 10)) (nI (g 11)) (nI (g 12)) (nI (g 13)) (nI (g 14)), eX0 (ad 3) (nI (g 15)) (nI (g 16)) (nI (g 17)) (nI (g 18)) (nI (g 19)), eX0 (ad 4) (nI (g 20)) (nI (g 21)) (nI (g 22)) (nI (g 23)) (nI (g 24)), eX0 (ad 5) (nI (g 25)) (nI (g 26)) (nI (g 27)) (nI (g 28)) (nI (g 29)), eX0 (ad 6) (nI (g 30)) (nI (g 31)) (nI (g 32)) (nI (g 33)) (nI (g 34)), eX0 (ad 7) (nI (g 35)) (nI (g 36)) (nI (g 37)) (nI (g 38)) (nI (g 39)), eX0 hc (nI (s 0)) (nI (s 1)) (nI (s 2)) (nI (s 3)) (nI (s 4))] tu_1 tyX1_ok nmX1 tw_95 dX1_put_49 rfl rfl (by decide) rfl rfl rfl rfl (Nat.le_of_ble_eq_true rfl) rfl ?_
    exact hR.v dX1_put_52 ⟨rfl, rfl⟩
  · skip
    refine z_aload_n X (pc := 0) 0 dX1_put_0 rfl ?_
    refine zc_V (as := []) X (pc := 1) (c_X1_isFull lq D t h0 ha 2 8 (fun j => some (ad j)) (by decide) (by decide)) tw_310 tw_313 tw_4 tw_311 tw_312 0 1 rfl rfl [0, 1] rfl rfl dX1_put_1 rfl zdX1_isFull ⟨rfl, rfl, Nat.le_of_ble_eq_true rfl, Nat.le_of_ble_eq_true rfl⟩ (Nat.le_of_ble_eq_true rfl) (Nat.zero_le _) (Nat.zero_le _) (fun v_19 w_20 hp_21 => ?_)
    obtain ⟨rfl, rfl⟩ := hp_21
    refine ⟨rfl, ?_⟩
    refine z_eq (ws2 := [eX1 h0 ha (nI 2), eQ t ha 8 (fun j => some (ad j)), eX0 (ad 0) (nI (g 0)) (nI (g 1)) (nI (g 2)) (nI (g 3)) (nI (g 4)), eX0 (ad 1) (nI (g 5)) (nI (g 6)) (nI (g 7)) (nI (g 8)) (nI (g 9)), eX0 (ad 2) (nI (g 10)) (nI (g 11)) (nI (g 12)) (nI (g 13)) (nI (g 14)), eX0 (ad 3) (nI (g 15)) (nI (g 16)) (nI (g 17)) (nI (g 18)) (nI (g 19)), eX0 (ad 4) (nI (g 20)) (nI (g 21)) (nI (g 22)) (nI (g 23)) (nI (g 24)), eX0 (ad 5) (nI (g 25)) (nI (g 26)) (nI (g 27)) (nI (g 28)) (nI (g 29)), eX0 (ad 6) (nI (g 30)) (nI (g 31)) (nI (g 32)) (nI (g 33)) (nI (g 34)), eX0 (ad 7) (nI (g 35)) (nI (g 36)) (nI (g 37)) (nI (g 38)) (nI (g 39)), eX0 hc (nI (s 0)) (nI (s 1)) (nI (s 2)) (nI (s 3)) (nI (s 4))]) (st2 := [.int (zb (8 ≤ 2))]) rfl rfl rfl ?_
    refine z_if_eqB X (pc := 4) 11 dX1_put_4 (by decide) (fun c_4 => ?_) (fun c_4 => absurd c_4 (by decide))
    refine z_aload_n X (pc := 11) 0 dX1_put_11 rfl ?_
    refine z_get X (pc := 12) 0 1 (.int (nI 2)) tu_1 tw_95 dX1_put_12 rfl rfl (by decide) rfl rfl ?_
    refine z_iconst X (pc := 15) (nI 0) dX1_put_15 (by decide) ?_
    refine z_aload_n X (pc := 16) 0 dX1_put_16 rfl ?_
    refine z_get X (pc := 17) 0 0 (.ref ha) tu_1 tw_94 dX1_put_17 rfl rfl (by decide) rfl rfl ?_
    refine z_alen_q X (pc := 20) 1 dX1_put_20 rfl ?_
    refine z_iconst X (pc := 21) (nI 1) dX1_put_21 (by decide) ?_
    refine z_isub X (pc := 22) (v := (nI 7)) dX1_put_22 (pk_sub (by omega)) ?_
    refine zc_SN (as := [.int (nI 2), .int (nI 0), .int (nI 7)]) X (pc := 23) (c_X4_within lq D t (nI 2) (nI 0) (nI 7) ) tw_319 tw_182 tw_1 tw_181 [] rfl rfl dX1_put_23 rfl zdX4_within ⟨rfl, rfl, Nat.le_of_ble_eq_true rfl, Nat.le_of_ble_eq_true rfl⟩ (Nat.le_of_ble_eq_true rfl) (Nat.zero_le _) (Nat.zero_le _) (fun v_22 w_23 hp_24 => ?_)
    obtain ⟨rfl, rfl⟩ := hp_24
    refine ⟨rfl, ?_⟩
    refine z_eq (ws2 := [eX1 h0 ha (nI 2), eQ t ha 8 (fun j => some (ad j)), eX0 (ad 0) (nI (g 0)) (nI (g 1)) (nI (g 2)) (nI (g 3)) (nI (g 4)), eX0 (ad 1) (nI (g 5)) (nI (g 6)) (nI (g 7)) (nI (g 8)) (nI (g 9)), eX0 (ad 2) (nI (g 10)) (nI (g 11)) (nI (g 12)) (nI (g 13)) (nI (g 14)), eX0 (ad 3) (nI (g 15)) (nI (g 16)) (nI (g 17)) (nI (g 18)) (nI (g 19)), eX0 (ad 4) (nI (g 20)) (nI (g 21)) (nI (g 22)) (nI (g 23)) (nI (g 24)), eX0 (ad 5) (nI (g 25)) (nI (g 26)) (nI (g 27)) (nI (g 28)) (nI (g 29)), eX0 (ad 6) (nI (g 30)) (nI (g 31)) (nI (g 32)) (nI (g 33)) (nI (g 34)), eX0 (ad 7) (nI (g 35)) (nI (g 36)) (nI (g 37)) (nI (g 38)) (nI (g 39)), eX0 hc (nI (s 0)) (nI (s 1)) (nI (s 2)) (nI (s 3)) (nI (s 4))]) (st2 := [.int (zb ((nI 0) ≤ (nI 2) ∧ (nI 2) ≤ (nI 7)))]) rfl rfl rfl ?_
    refine z_if_eqB X (pc := 26) 52 dX1_put_26 (by decide) (fun c_26 => absurd c_26 (by decide)) (fun c_26 => ?_)
    refine z_aload_n X (pc := 29) 0 dX1_put_29 rfl ?_
    refine z_get X (pc := 30) 0 0 (.ref ha) tu_1 tw_94 dX1_put_30 rfl rfl (by decide) rfl rfl ?_
    refine z_aload_n X (pc := 33) 0 dX1_put_33 rfl ?_
    refine z_get X (pc := 34) 0 1 (.int (nI 2)) tu_1 tw_95 dX1_put_34 rfl rfl (by decide) rfl rfl ?_
    refine z_aald X (pc := 37) 1 2 (ad 2) dX1_put_37 rfl rfl (Nat.le_of_ble_eq_true rfl) (by decide) rfl ?_
    refine z_aload_n X (pc := 38) 1 dX1_put_38 rfl ?_
    refine zc_V (as := [.ref hc]) X (pc := 39) (c_X0_copyFrom lq D t (ad 2) hc (nI (g 10)) (nI (g 11)) (nI (g 12)) (nI (g 13)) (nI (g 14)) (nI (s 0)) (nI (s 1)) (nI (s 2)) (nI (s 3)) (nI (s 4)) ) tw_318 tw_270 tw_3 tw_268 tw_269 0 0 rfl rfl [4, 10] rfl rfl dX1_put_39 rfl zdX0_copyFrom ⟨rfl, rfl, Nat.le_of_ble_eq_true rfl, Nat.le_of_ble_eq_true rfl⟩ (Nat.le_of_ble_eq_true rfl) (Nat.zero_le _) (Nat.zero_le _) (fun v_25 w_26 hp_27 => ?_)
    obtain ⟨rfl, rfl⟩ := hp_27
    refine ⟨rfl, ?_⟩
    refine z_eq (ws2 := [eX1 h0 ha (nI 2), eQ t ha 8 (fun j => some (ad j)), eX0 (ad 0) (nI (g 0)) (nI (g 1)) (nI (g 2)) (nI (g 3)) (nI (g 4)), eX0 (ad 1) (nI (g 5)) (nI (g 6)) (nI (g 7)) (nI (g 8)) (nI (g 9)), eX0 (ad 2) (nI (s 0)) (nI (s 1)) (nI (s 2)) (nI (s 3)) (nI (s 4)), eX0 (ad 3) (nI (g 15)) (nI (g 16)) (nI (g 17)) (nI (g 18)) (nI (g 19)), eX0 (ad 4) (nI (g 20)) (nI (g 21)) (nI (g 22)) (nI (g 23)) (nI (g 24)), eX0 (ad 5) (nI (g 25)) (nI (g 26)) (nI (g 27)) (nI (g 28)) (nI (g 29)), eX0 (ad 6) (nI (g 30)) (nI (g 31)) (nI (g 32)) (nI (g 33)) (nI (g 34)), eX0 (ad 7) (nI (g 35)) (nI (g 36)) (nI (g 37)) (nI (g 38)) (nI (g 39)), eX0 hc (nI (s 0)) (nI (s 1)) (nI (s 2)) (nI (s 3)) (nI (s 4))]) (st2 := []) rfl rfl rfl ?_
    refine z_aload_n X (pc := 42) 0 dX1_put_42 rfl ?_
    refine z_dup X (pc := 43) dX1_put_43 rfl ?_
    refine z_get X (pc := 44) 0 1 (.int (nI 2)) tu_1 tw_95 dX1_put_44 rfl rfl (by decide) rfl rfl ?_
    refine z_iconst X (pc := 47) (nI 1) dX1_put_47 (by decide) ?_
    refine z_iadd X (pc := 48) (v := (nI 3)) dX1_put_48 (nI_add 2 1) ?_
    refine z_put X (pc := 49) 0 1 [eX1 h0 ha (nI 3), eQ t ha 8 (fun j => some (ad j)), eX0 (ad 0) (nI (g 0)) (nI (g 1)) (nI (g 2)) (nI (g 3)) (nI (g 4)), eX0 (ad 1) (nI (g 5)) (nI (g 6)) (nI (g 7)) (nI (g 8)) (nI (g 9)), eX0 (ad 2) (nI (s 0)) (nI (s 1)) (nI (s 2)) (nI (s 3)) (nI (s 4)), eX0 (ad 3) (nI (g 15)) (nI (g 16)) (nI (g 17)) (nI (g 18)) (nI (g 19)), eX0 (ad 4) (nI (g 20)) (nI (g 21)) (nI (g 22)) (nI (g 23)) (nI (g 24)), eX0 (ad 5) (nI (g 25)) (nI (g 26)) (nI (g 27)) (nI (g 28)) (nI (g 29)), eX0 (ad 6) (nI (g 30)) (nI (g 31)) (nI (g 32)) (nI (g 33)) (nI (g 34)), eX0 (ad 7) (nI (g 35)) (nI (g 36)) (nI (g 37)) (nI (g 38)) (nI (g 39)), eX0 hc (nI (s 0)) (nI (s 1)) (nI (s 2)) (nI (s 3)) (nI (s 4))] tu_1 tyX1_ok nmX1 tw_95 dX1_put_49 rfl rfl (by decide) rfl rfl rfl rfl (Nat.le_of_ble_eq_true rfl) rfl ?_
    exact hR.v dX1_put_52 ⟨rfl, rfl⟩
  · skip
    refine z_aload_n X (pc := 0) 0 dX1_put_0 rfl ?_
    refine zc_V (as := []) X (pc := 1) (c_X1_isFull lq D t h0 ha 3 8 (fun j => some (ad j)) (by decide) (by decide)) tw_310 tw_313 tw_4 tw_311 tw_312 0 1 rfl rfl [0, 1] rfl rfl dX1_put_1 rfl zdX1_isFull ⟨rfl, rfl, Nat.le_of_ble_eq_true rfl, Nat.le_of_ble_eq_true rfl⟩ (Nat.le_of_ble_eq_true rfl) (Nat.zero_le _) (Nat.zero_le _) (fun v_28 w_29 hp_30 => ?_)
    obtain ⟨rfl, rfl⟩ := hp_30
    refine ⟨rfl, ?_⟩
    refine z_eq (ws2 := [eX1 h0 ha (nI 3), eQ t ha 8 (fun j => some (ad j)), eX0 (ad 0) (nI (g 0)) (nI (g 1)) (nI (g 2)) (nI (g 3)) (nI (g 4)), eX0 (ad 1) (nI (g 5)) (nI (g 6)) (nI (g 7)) (nI (g 8)) (nI (g 9)), eX0 (ad 2) (nI (g 10)) (nI (g 11)) (nI (g 12)) (nI (g 13)) (nI (g 14)), eX0 (ad 3) (nI (g 15)) (nI (g 16)) (nI (g 17)) (nI (g 18)) (nI (g 19)), eX0 (ad 4) (nI (g 20)) (nI (g 21)) (nI (g 22)) (nI (g 23)) (nI (g 24)), eX0 (ad 5) (nI (g 25)) (nI (g 26)) (nI (g 27)) (nI (g 28)) (nI (g 29)), eX0 (ad 6) (nI (g 30)) (nI (g 31)) (nI (g 32)) (nI (g 33)) (nI (g 34)), eX0 (ad 7) (nI (g 35)) (nI (g 36)) (nI (g 37)) (nI (g 38)) (nI (g 39)), eX0 hc (nI (s 0)) (nI (s 1)) (nI (s 2)) (nI (s 3)) (nI (s 4))]) (st2 := [.int (zb (8 ≤ 3))]) rfl rfl rfl ?_
    refine z_if_eqB X (pc := 4) 11 dX1_put_4 (by decide) (fun c_4 => ?_) (fun c_4 => absurd c_4 (by decide))
    refine z_aload_n X (pc := 11) 0 dX1_put_11 rfl ?_
    refine z_get X (pc := 12) 0 1 (.int (nI 3)) tu_1 tw_95 dX1_put_12 rfl rfl (by decide) rfl rfl ?_
    refine z_iconst X (pc := 15) (nI 0) dX1_put_15 (by decide) ?_
    refine z_aload_n X (pc := 16) 0 dX1_put_16 rfl ?_
    refine z_get X (pc := 17) 0 0 (.ref ha) tu_1 tw_94 dX1_put_17 rfl rfl (by decide) rfl rfl ?_
    refine z_alen_q X (pc := 20) 1 dX1_put_20 rfl ?_
    refine z_iconst X (pc := 21) (nI 1) dX1_put_21 (by decide) ?_
    refine z_isub X (pc := 22) (v := (nI 7)) dX1_put_22 (pk_sub (by omega)) ?_
    refine zc_SN (as := [.int (nI 3), .int (nI 0), .int (nI 7)]) X (pc := 23) (c_X4_within lq D t (nI 3) (nI 0) (nI 7) ) tw_319 tw_182 tw_1 tw_181 [] rfl rfl dX1_put_23 rfl zdX4_within ⟨rfl, rfl, Nat.le_of_ble_eq_true rfl, Nat.le_of_ble_eq_true rfl⟩ (Nat.le_of_ble_eq_true rfl) (Nat.zero_le _) (Nat.zero_le _) (fun v_31 w_32 hp_33 => ?_)
    obtain ⟨rfl, rfl⟩ := hp_33
    refine ⟨rfl, ?_⟩
    refine z_eq (ws2 := [eX1 h0 ha (nI 3), eQ t ha 8 (fun j => some (ad j)), eX0 (ad 0) (nI (g 0)) (nI (g 1)) (nI (g 2)) (nI (g 3)) (nI (g 4)), eX0 (ad 1) (nI (g 5)) (nI (g 6)) (nI (g 7)) (nI (g 8)) (nI (g 9)), eX0 (ad 2) (nI (g 10)) (nI (g 11)) (nI (g 12)) (nI (g 13)) (nI (g 14)), eX0 (ad 3) (nI (g 15)) (nI (g 16)) (nI (g 17)) (nI (g 18)) (nI (g 19)), eX0 (ad 4) (nI (g 20)) (nI (g 21)) (nI (g 22)) (nI (g 23)) (nI (g 24)), eX0 (ad 5) (nI (g 25)) (nI (g 26)) (nI (g 27)) (nI (g 28)) (nI (g 29)), eX0 (ad 6) (nI (g 30)) (nI (g 31)) (nI (g 32)) (nI (g 33)) (nI (g 34)), eX0 (ad 7) (nI (g 35)) (nI (g 36)) (nI (g 37)) (nI (g 38)) (nI (g 39)), eX0 hc (nI (s 0)) (nI (s 1)) (nI (s 2)) (nI (s 3)) (nI (s 4))]) (st2 := [.int (zb ((nI 0) ≤ (nI 3) ∧ (nI 3) ≤ (nI 7)))]) rfl rfl rfl ?_
    refine z_if_eqB X (pc := 26) 52 dX1_put_26 (by decide) (fun c_26 => absurd c_26 (by decide)) (fun c_26 => ?_)
    refine z_aload_n X (pc := 29) 0 dX1_put_29 rfl ?_
    refine z_get X (pc := 30) 0 0 (.ref ha) tu_1 tw_94 dX1_put_30 rfl rfl (by decide) rfl rfl ?_
    refine z_aload_n X (pc := 33) 0 dX1_put_33 rfl ?_
    refine z_get X (pc := 34) 0 1 (.int (nI 3)) tu_1 tw_95 dX1_put_34 rfl rfl (by decide) rfl rfl ?_
    refine z_aald X (pc := 37) 1 3 (ad 3) dX1_put_37 rfl rfl (Nat.le_of_ble_eq_true rfl) (by decide) rfl ?_
    refine z_aload_n X (pc := 38) 1 dX1_put_38 rfl ?_
    refine zc_V (as := [.ref hc]) X (pc := 39) (c_X0_copyFrom lq D t (ad 3) hc (nI (g 15)) (nI (g 16)) (nI (g 17)) (nI (g 18)) (nI (g 19)) (nI (s 0)) (nI (s 1)) (nI (s 2)) (nI (s 3)) (nI (s 4)) ) tw_318 tw_270 tw_3 tw_268 tw_269 0 0 rfl rfl [5, 10] rfl rfl dX1_put_39 rfl zdX0_copyFrom ⟨rfl, rfl, Nat.le_of_ble_eq_true rfl, Nat.le_of_ble_eq_true rfl⟩ (Nat.le_of_ble_eq_true rfl) (Nat.zero_le _) (Nat.zero_le _) (fun v_34 w_35 hp_36 => ?_)
    obtain ⟨rfl, rfl⟩ := hp_36
    refine ⟨rfl, ?_⟩
    refine z_eq (ws2 := [eX1 h0 ha (nI 3), eQ t ha 8 (fun j => some (ad j)), eX0 (ad 0) (nI (g 0)) (nI (g 1)) (nI (g 2)) (nI (g 3)) (nI (g 4)), eX0 (ad 1) (nI (g 5)) (nI (g 6)) (nI (g 7)) (nI (g 8)) (nI (g 9)), eX0 (ad 2) (nI (g 10)) (nI (g 11)) (nI (g 12)) (nI (g 13)) (nI (g 14)), eX0 (ad 3) (nI (s 0)) (nI (s 1)) (nI (s 2)) (nI (s 3)) (nI (s 4)), eX0 (ad 4) (nI (g 20)) (nI (g 21)) (nI (g 22)) (nI (g 23)) (nI (g 24)), eX0 (ad 5) (nI (g 25)) (nI (g 26)) (nI (g 27)) (nI (g 28)) (nI (g 29)), eX0 (ad 6) (nI (g 30)) (nI (g 31)) (nI (g 32)) (nI (g 33)) (nI (g 34)), eX0 (ad 7) (nI (g 35)) (nI (g 36)) (nI (g 37)) (nI (g 38)) (nI (g 39)), eX0 hc (nI (s 0)) (nI (s 1)) (nI (s 2)) (nI (s 3)) (nI (s 4))]) (st2 := []) rfl rfl rfl ?_
    refine z_aload_n X (pc := 42) 0 dX1_put_42 rfl ?_
    refine z_dup X (pc := 43) dX1_put_43 rfl ?_
    refine z_get X (pc := 44) 0 1 (.int (nI 3)) tu_1 tw_95 dX1_put_44 rfl rfl (by decide) rfl rfl ?_
    refine z_iconst X (pc := 47) (nI 1) dX1_put_47 (by decide) ?_
    refine z_iadd X (pc := 48) (v := (nI 4)) dX1_put_48 (nI_add 3 1) ?_
    refine z_put X (pc := 49) 0 1 [eX1 h0 ha (nI 4), eQ t ha 8 (fun j => some (ad j)), eX0 (ad 0) (nI (g 0)) (nI (g 1)) (nI (g 2)) (nI (g 3)) (nI (g 4)), eX0 (ad 1) (nI (g 5)) (nI (g 6)) (nI (g 7)) (nI (g 8)) (nI (g 9)), eX0 (ad 2) (nI (g 10)) (nI (g 11)) (nI (g 12)) (nI (g 13)) (nI (g 14)), eX0 (ad 3) (nI (s 0)) (nI (s 1)) (nI (s 2)) (nI (s 3)) (nI (s 4)), eX0 (ad 4) (nI (g 20)) (nI (g 21)) (nI (g 22)) (nI (g 23)) (nI (g 24)), eX0 (ad 5) (nI (g 25)) (nI (g 26)) (nI (g 27)) (nI (g 28)) (nI (g 29)), eX0 (ad 6) (nI (g 30)) (nI (g 31)) (nI (g 32)) (nI (g 33)) (nI (g 34)), eX0 (ad 7) (nI (g 35)) (nI (g 36)) (nI (g 37)) (nI (g 38)) (nI (g 39)), eX0 hc (nI (s 0)) (nI (s 1)) (nI (s 2)) (nI (s 3)) (nI (s 4))] tu_1 tyX1_ok nmX1 tw_95 dX1_put_49 rfl rfl (by decide) rfl rfl rfl rfl (Nat.le_of_ble_eq_true rfl) rfl ?_
    exact hR.v dX1_put_52 ⟨rfl, rfl⟩
  · skip
    refine z_aload_n X (pc := 0) 0 dX1_put_0 rfl ?_
    refine zc_V (as := []) X (pc := 1) (c_X1_isFull lq D t h0 ha 4 8 (fun j => some (ad j)) (by decide) (by decide)) tw_310 tw_313 tw_4 tw_311 tw_312 0 1 rfl rfl [0, 1] rfl rfl dX1_put_1 rfl zdX1_isFull ⟨rfl, rfl, Nat.le_of_ble_eq_true rfl, Nat.le_of_ble_eq_true rfl⟩ (Nat.le_of_ble_eq_true rfl) (Nat.zero_le _) (Nat.zero_le _) (fun v_37 w_38 hp_39 => ?_)
    obtain ⟨rfl, rfl⟩ := hp_39
    refine ⟨rfl, ?_⟩
    refine z_eq (ws2 := [eX1 h0 ha (nI 4), eQ t ha 8 (fun j => some (ad j)), eX0 (ad 0) (nI (g 0)) (nI (g 1)) (nI (g 2)) (nI (g 3)) (nI (g 4)), eX0 (ad 1) (nI (g 5)) (nI (g 6)) (nI (g 7)) (nI (g 8)) (nI (g 9)), eX0 (ad 2) (nI (g 10)) (nI (g 11)) (nI (g 12)) (nI (g 13)) (nI (g 14)), eX0 (ad 3) (nI (g 15)) (nI (g 16)) (nI (g 17)) (nI (g 18)) (nI (g 19)), eX0 (ad 4) (nI (g 20)) (nI (g 21)) (nI (g 22)) (nI (g 23)) (nI (g 24)), eX0 (ad 5) (nI (g 25)) (nI (g 26)) (nI (g 27)) (nI (g 28)) (nI (g 29)), eX0 (ad 6) (nI (g 30)) (nI (g 31)) (nI (g 32)) (nI (g 33)) (nI (g 34)), eX0 (ad 7) (nI (g 35)) (nI (g 36)) (nI (g 37)) (nI (g 38)) (nI (g 39)), eX0 hc (nI (s 0)) (nI (s 1)) (nI (s 2)) (nI (s 3)) (nI (s 4))]) (st2 := [.int (zb (8 ≤ 4))]) rfl rfl rfl ?_
    refine z_if_eqB X (pc := 4) 11 dX1_put_4 (by decide) (fun c_4 => ?_) (fun c_4 => absurd c_4 (by decide))
    refine z_aload_n X (pc := 11) 0 dX1_put_11 rfl ?_
    refine z_get X (pc := 12) 0 1 (.int (nI 4)) tu_1 tw_95 dX1_put_12 rfl rfl (by decide) rfl rfl ?_
    refine z_iconst X (pc := 15) (nI 0) dX1_put_15 (by decide) ?_
    refine z_aload_n X (pc := 16) 0 dX1_put_16 rfl ?_
    refine z_get X (pc := 17) 0 0 (.ref ha) tu_1 tw_94 dX1_put_17 rfl rfl (by decide) rfl rfl ?_
    refine z_alen_q X (pc := 20) 1 dX1_put_20 rfl ?_
    refine z_iconst X (pc := 21) (nI 1) dX1_put_21 (by decide) ?_
    refine z_isub X (pc := 22) (v := (nI 7)) dX1_put_22 (pk_sub (by omega)) ?_
    refine zc_SN (as := [.int (nI 4), .int (nI 0), .int (nI 7)]) X (pc := 23) (c_X4_within lq D t (nI 4) (nI 0) (nI 7) ) tw_319 tw_182 tw_1 tw_181 [] rfl rfl dX1_put_23 rfl zdX4_within ⟨rfl, rfl, Nat.le_of_ble_eq_true rfl, Nat.le_of_ble_eq_true rfl⟩ (Nat.le_of_ble_eq_true rfl) (Nat.zero_le _) (Nat.zero_le _) (fun v_40 w_41 hp_42 => ?_)
    obtain ⟨rfl, rfl⟩ := hp_42
    refine ⟨rfl, ?_⟩
    refine z_eq (ws2 := [eX1 h0 ha (nI 4), eQ t ha 8 (fun j => some (ad j)), eX0 (ad 0) (nI (g 0)) (nI (g 1)) (nI (g 2)) (nI (g 3)) (nI (g 4)), eX0 (ad 1) (nI (g 5)) (nI (g 6)) (nI (g 7)) (nI (g 8)) (nI (g 9)), eX0 (ad 2) (nI (g 10)) (nI (g 11)) (nI (g 12)) (nI (g 13)) (nI (g 14)), eX0 (ad 3) (nI (g 15)) (nI (g 16)) (nI (g 17)) (nI (g 18)) (nI (g 19)), eX0 (ad 4) (nI (g 20)) (nI (g 21)) (nI (g 22)) (nI (g 23)) (nI (g 24)), eX0 (ad 5) (nI (g 25)) (nI (g 26)) (nI (g 27)) (nI (g 28)) (nI (g 29)), eX0 (ad 6) (nI (g 30)) (nI (g 31)) (nI (g 32)) (nI (g 33)) (nI (g 34)), eX0 (ad 7) (nI (g 35)) (nI (g 36)) (nI (g 37)) (nI (g 38)) (nI (g 39)), eX0 hc (nI (s 0)) (nI (s 1)) (nI (s 2)) (nI (s 3)) (nI (s 4))]) (st2 := [.int (zb ((nI 0) ≤ (nI 4) ∧ (nI 4) ≤ (nI 7)))]) rfl rfl rfl ?_
    refine z_if_eqB X (pc := 26) 52 dX1_put_26 (by decide) (fun c_26 => absurd c_26 (by decide)) (fun c_26 => ?_)
    refine z_aload_n X (pc := 29) 0 dX1_put_29 rfl ?_
    refine z_get X (pc := 30) 0 0 (.ref ha) tu_1 tw_94 dX1_put_30 rfl rfl (by decide) rfl rfl ?_
    refine z_aload_n X (pc := 33) 0 dX1_put_33 rfl ?_
    refine z_get X (pc := 34) 0 1 (.int (nI 4)) tu_1 tw_95 dX1_put_34 rfl rfl (by decide) rfl rfl ?_
    refine z_aald X (pc := 37) 1 4 (ad 4) dX1_put_37 rfl rfl (Nat.le_of_ble_eq_true rfl) (by decide) rfl ?_
    refine z_aload_n X (pc := 38) 1 dX1_put_38 rfl ?_
    refine zc_V (as := [.ref hc]) X (pc := 39) (c_X0_copyFrom lq D t (ad 4) hc (nI (g 20)) (nI (g 21)) (nI (g 22)) (nI (g 23)) (nI (g 24)) (nI (s 0)) (nI (s 1)) (nI (s 2)) (nI (s 3)) (nI (s 4)) ) tw_318 tw_270 tw_3 tw_268 tw_269 0 0 rfl rfl [6, 10] rfl rfl dX1_put_39 rfl zdX0_copyFrom ⟨rfl, rfl, Nat.le_of_ble_eq_true rfl, Nat.le_of_ble_eq_true rfl⟩ (Nat.le_of_ble_eq_true rfl) (Nat.zero_le _) (Nat.zero_le _) (fun v_43 w_44 hp_45 => ?_)
    obtain ⟨rfl, rfl⟩ := hp_45
    refine ⟨rfl, ?_⟩
    refine z_eq (ws2 := [eX1 h0 ha (nI 4), eQ t ha 8 (fun j => some (ad j)), eX0 (ad 0) (nI (g 0)) (nI (g 1)) (nI (g 2)) (nI (g 3)) (nI (g 4)), eX0 (ad 1) (nI (g 5)) (nI (g 6)) (nI (g 7)) (nI (g 8)) (nI (g 9)), eX0 (ad 2) (nI (g 10)) (nI (g 11)) (nI (g 12)) (nI (g 13)) (nI (g 14)), eX0 (ad 3) (nI (g 15)) (nI (g 16)) (nI (g 17)) (nI (g 18)) (nI (g 19)), eX0 (ad 4) (nI (s 0)) (nI (s 1)) (nI (s 2)) (nI (s 3)) (nI (s 4)), eX0 (ad 5) (nI (g 25)) (nI (g 26)) (nI (g 27)) (nI (g 28)) (nI (g 29)), eX0 (ad 6) (nI (g 30)) (nI (g 31)) (nI (g 32)) (nI (g 33)) (nI (g 34)), eX0 (ad 7) (nI (g 35)) (nI (g 36)) (nI (g 37)) (nI (g 38)) (nI (g 39)), eX0 hc (nI (s 0)) (nI (s 1)) (nI (s 2)) (nI (s 3)) (nI (s 4))]) (st2 := []) rfl rfl rfl ?_
    refine z_aload_n X (pc := 42) 0 dX1_put_42 rfl ?_
    refine z_dup X (pc := 43) dX1_put_43 rfl ?_
    refine z_get X (pc := 44) 0 1 (.int (nI 4)) tu_1 tw_95 dX1_put_44 rfl rfl (by decide) rfl rfl ?_
    refine z_iconst X (pc := 47) (nI 1) dX1_put_47 (by decide) ?_
    refine z_iadd X (pc := 48) (v := (nI 5)) dX1_put_48 (nI_add 4 1) ?_
    refine z_put X (pc := 49) 0 1 [eX1 h0 ha (nI 5), eQ t ha 8 (fun j => some (ad j)), eX0 (ad 0) (nI (g 0)) (nI (g 1)) (nI (g 2)) (nI (g 3)) (nI (g 4)), eX0 (ad 1) (nI (g 5)) (nI (g 6)) (nI (g 7)) (nI (g 8)) (nI (g 9)), eX0 (ad 2) (nI (g 10)) (nI (g 11)) (nI (g 12)) (nI (g 13)) (nI (g 14)), eX0 (ad 3) (nI (g 15)) (nI (g 16)) (nI (g 17)) (nI (g 18)) (nI (g 19)), eX0 (ad 4) (nI (s 0)) (nI (s 1)) (nI (s 2)) (nI (s 3)) (nI (s 4)), eX0 (ad 5) (nI (g 25)) (nI (g 26)) (nI (g 27)) (nI (g 28)) (nI (g 29)), eX0 (ad 6) (nI (g 30)) (nI (g 31)) (nI (g 32)) (nI (g 33)) (nI (g 34)), eX0 (ad 7) (nI (g 35)) (nI (g 36)) (nI (g 37)) (nI (g 38)) (nI (g 39)), eX0 hc (nI (s 0)) (nI (s 1)) (nI (s 2)) (nI (s 3)) (nI (s 4))] tu_1 tyX1_ok nmX1 tw_95 dX1_put_49 rfl rfl (by decide) rfl rfl rfl rfl (Nat.le_of_ble_eq_true rfl) rfl ?_
    exact hR.v dX1_put_52 ⟨rfl, rfl⟩
  · skip
    refine z_aload_n X (pc := 0) 0 dX1_put_0 rfl ?_
    refine zc_V (as := []) X (pc := 1) (c_X1_isFull lq D t h0 ha 5 8 (fun j => some (ad j)) (by decide) (by decide)) tw_310 tw_313 tw_4 tw_311 tw_312 0 1 rfl rfl [0, 1] rfl rfl dX1_put_1 rfl zdX1_isFull ⟨rfl, rfl, Nat.le_of_ble_eq_true rfl, Nat.le_of_ble_eq_true rfl⟩ (Nat.le_of_ble_eq_true rfl) (Nat.zero_le _) (Nat.zero_le _) (fun v_46 w_47 hp_48 => ?_)
    obtain ⟨rfl, rfl⟩ := hp_48
    refine ⟨rfl, ?_⟩
    refine z_eq (ws2 := [eX1 h0 ha (nI 5), eQ t ha 8 (fun j => some (ad j)), eX0 (ad 0) (nI (g 0)) (nI (g 1)) (nI (g 2)) (nI (g 3)) (nI (g 4)), eX0 (ad 1) (nI (g 5)) (nI (g 6)) (nI (g 7)) (nI (g 8)) (nI (g 9)), eX0 (ad 2) (nI (g 10)) (nI (g 11)) (nI (g 12)) (nI (g 13)) (nI (g 14)), eX0 (ad 3) (nI (g 15)) (nI (g 16)) (nI (g 17)) (nI (g 18)) (nI (g 19)), eX0 (ad 4) (nI (g 20)) (nI (g 21)) (nI (g 22)) (nI (g 23)) (nI (g 24)), eX0 (ad 5) (nI (g 25)) (nI (g 26)) (nI (g 27)) (nI (g 28)) (nI (g 29)), eX0 (ad 6) (nI (g 30)) (nI (g 31)) (nI (g 32)) (nI (g 33)) (nI (g 34)), eX0 (ad 7) (nI (g 35)) (nI (g 36)) (nI (g 37)) (nI (g 38)) (nI (g 39)), eX0 hc (nI (s 0)) (nI (s 1)) (nI (s 2)) (nI (s 3)) (nI (s 4))]) (st2 := [.int (zb (8 ≤ 5))]) rfl rfl rfl ?_
    refine z_if_eqB X (pc := 4) 11 dX1_put_4 (by decide) (fun c_4 => ?_) (fun c_4 => absurd c_4 (by decide))
    refine z_aload_n X (pc := 11) 0 dX1_put_11 rfl ?_
    refine z_get X (pc := 12) 0 1 (.int (nI 5)) tu_1 tw_95 dX1_put_12 rfl rfl (by decide) rfl rfl ?_
    refine z_iconst X (pc := 15) (nI 0) dX1_put_15 (by decide) ?_
    refine z_aload_n X (pc := 16) 0 dX1_put_16 rfl ?_
    refine z_get X (pc := 17) 0 0 (.ref ha) tu_1 tw_94 dX1_put_17 rfl rfl (by decide) rfl rfl ?_
    refine z_alen_q X (pc := 20) 1 dX1_put_20 rfl ?_
    refine z_iconst X (pc := 21) (nI 1) dX1_put_21 (by decide) ?_
    refine z_isub X (pc := 22) (v := (nI 7)) dX1_put_22 (pk_sub (by omega)) ?_
    refine zc_SN (as := [.int (nI 5), .int (nI 0), .int (nI 7)]) X (pc := 23) (c_X4_within lq D t (nI 5) (nI 0) (nI 7) ) tw_319 tw_182 tw_1 tw_181 [] rfl rfl dX1_put_23 rfl zdX4_within ⟨rfl, rfl, Nat.le_of_ble_eq_true rfl, Nat.le_of_ble_eq_true rfl⟩ (Nat.le_of_ble_eq_true rfl) (Nat.zero_le _) (Nat.zero_le _) (fun v_49 w_50 hp_51 => ?_)
    obtain ⟨rfl, rfl⟩ := hp_51
    refine ⟨rfl, ?_⟩
    refine z_eq (ws2 := [eX1 h0 ha (nI 5), eQ t ha 8 (fun j => some (ad j)), eX0 (ad 0) (nI (g 0)) (nI (g 1)) (nI (g 2)) (nI (g 3)) (nI (g 4)), eX0 (ad 1) (nI (g 5)) (nI (g 6)) (nI (g 7)) (nI (g 8)) (nI (g 9)), eX0 (ad 2) (nI (g 10)) (nI (g 11)) (nI (g 12)) (nI (g 13)) (nI (g 14)), eX0 (ad 3) (nI (g 15)) (nI (g 16)) (nI (g 17)) (nI (g 18)) (nI (g 19)), eX0 (ad 4) (nI (g 20)) (nI (g 21)) (nI (g 22)) (nI (g 23)) (nI (g 24)), eX0 (ad 5) (nI (g 25)) (nI (g 26)) (nI (g 27)) (nI (g 28)) (nI (g 29)), eX0 (ad 6) (nI (g 30)) (nI (g 31)) (nI (g 32)) (nI (g 33)) (nI (g 34)), eX0 (ad 7) (nI (g 35)) (nI (g 36)) (nI (g 37)) (nI (g 38)) (nI (g 39)), eX0 hc (nI (s 0)) (nI (s 1)) (nI (s 2)) (nI (s 3)) (nI (s 4))]) (st2 := [.int (zb ((nI 0) ≤ (nI 5) ∧ (nI 5) ≤ (nI 7)))]) rfl rfl rfl ?_
    refine z_if_eqB X (pc := 26) 52 dX1_put_26 (by decide) (fun c_26 => absurd c_26 (by decide)) (fun c_26 => ?_)
    refine z_aload_n X (pc := 29) 0 dX1_put_29 rfl ?_
    refine z_get X (pc := 30) 0 0 (.ref ha) tu_1 tw_94 dX1_put_30 rfl rfl (by decide) rfl rfl ?_
    refine z_aload_n X (pc := 33) 0 dX1_put_33 rfl ?_
    refine z_get X (pc := 34) 0 1 (.int (nI 5)) tu_1 tw_95 dX1_put_34 rfl rfl (by decide) rfl rfl ?_
    refine z_aald X (pc := 37) 1 5 (ad 5) dX1_put_37 rfl rfl (Nat.le_of_ble_eq_true rfl) (by decide) rfl ?_
    refine z_aload_n X (pc := 38) 1 dX1_put_38 rfl ?_
    refine zc_V (as := [.ref hc]) X (pc := 39) (c_X0_copyFrom lq D t (ad 5) hc (nI (g 25)) (nI (g 26)) (nI (g 27)) (nI (g 28)) (nI (g 29)) (nI (s 0)) (nI (s 1)) (nI (s 2)) (nI (s 3)) (nI (s 4)) ) tw_318 tw_270 tw_3 tw_268 tw_269 0 0 rfl rfl [7, 10] rfl rfl dX1_put_39 rfl zdX0_copyFrom ⟨rfl, rfl, Nat.le_of_ble_eq_true rfl, Nat.le_of_ble_eq_true rfl⟩ (Nat.le_of_ble_eq_true rfl) (Nat.zero_le _) (Nat.zero_le _) (fun v_52 w_53 hp_54 => ?_)
    obtain ⟨rfl, rfl⟩ := hp_54
    refine ⟨rfl, ?_⟩
    refine z_eq (ws2 := [eX1 h0 ha (nI 5), eQ t ha 8 (fun j => some (ad j)), eX0 (ad 0) (nI (g 0)) (nI (g 1)) (nI (g 2)) (nI (g 3)) (nI (g 4)), eX0 (ad 1) (nI (g 5)) (nI (g 6)) (nI (g 7)) (nI (g 8)) (nI (g 9)), eX0 (ad 2) (nI (g 10)) (nI (g 11)) (nI (g 12)) (nI (g 13)) (nI (g 14)), eX0 (ad 3) (nI (g 15)) (nI (g 16)) (nI (g 17)) (nI (g 18)) (nI (g 19)), eX0 (ad 4) (nI (g 20)) (nI (g 21)) (nI (g 22)) (nI (g 23)) (nI (g 24)), eX0 (ad 5) (nI (s 0)) (nI (s 1)) (nI (s 2)) (nI (s 3)) (nI (s 4)), eX0 (ad 6) (nI (g 30)) (nI (g 31)) (nI (g 32)) (nI (g 33)) (nI (g 34)), eX0 (ad 7) (nI (g 35)) (nI (g 36)) (nI (g 37)) (nI (g 38)) (nI (g 39)), eX0 hc (nI (s 0)) (nI (s 1)) (nI (s 2)) (nI (s 3)) (nI (s 4))]) (st2 := []) rfl rfl rfl ?_
    refine z_aload_n X (pc := 42) 0 dX1_put_42 rfl ?_
    refine z_dup X (pc := 43) dX1_put_43 rfl ?_
    refine z_get X (pc := 44) 0 1 (.int (nI 5)) tu_1 tw_95 dX1_put_44 rfl rfl (by decide) rfl rfl ?_
    refine z_iconst X (pc := 47) (nI 1) dX1_put_47 (by decide) ?_
    refine z_iadd X (pc := 48) (v := (nI 6)) dX1_put_48 (nI_add 5 1) ?_
    refine z_put X (pc := 49) 0 1 [eX1 h0 ha (nI 6), eQ t ha 8 (fun j => some (ad j)), eX0 (ad 0) (nI (g 0)) (nI (g 1)) (nI (g 2)) (nI (g 3)) (nI (g 4)), eX0 (ad 1) (nI (g 5)) (nI (g 6)) (nI (g 7)) (nI (g 8)) (nI (g 9)), eX0 (ad 2) (nI (g 10)) (nI (g 11)) (nI (g 12)) (nI (g 13)) (nI (g 14)), eX0 (ad 3) (nI (g 15)) (nI (g 16)) (nI (g 17)) (nI (g 18)) (nI (g 19)), eX0 (ad 4) (nI (g 20)) (nI (g 21)) (nI (g 22)) (nI (g 23)) (nI (g 24)), eX0 (ad 5) (nI (s 0)) (nI (s 1)) (nI (s 2)) (nI (s 3)) (nI (s 4)), eX0 (ad 6) (nI (g 30)) (nI (g 31)) (nI (g 32)) (nI (g 33)) (nI (g 34)), eX0 (ad 7) (nI (g 35)) (nI (g 36)) (nI (g 37)) (nI (g 38)) (nI (g 39)), eX0 hc (nI (s 0)) (nI (s 1)) (nI (s 2)) (nI (s 3)) (nI (s 4))] tu_1 tyX1_ok nmX1 tw_95 dX1_put_49 rfl rfl (by decide) rfl rfl rfl rfl (Nat.le_of_ble_eq_true rfl) rfl ?_
    exact hR.v dX1_put_52 ⟨rfl, rfl⟩
  · skip
    refine z_aload_n X (pc := 0) 0 dX1_put_0 rfl ?_
    refine zc_V (as := []) X (pc := 1) (c_X1_isFull lq D t h0 ha 6 8 (fun j => some (ad j)) (by decide) (by decide)) tw_310 tw_313 tw_4 tw_311 tw_312 0 1 rfl rfl [0, 1] rfl rfl dX1_put_1 rfl zdX1_isFull ⟨rfl, rfl, Nat.le_of_ble_eq_true rfl, Nat.le_of_ble_eq_true rfl⟩ (Nat.le_of_ble_eq_true rfl) (Nat.zero_le _) (Nat.zero_le _) (fun v_55 w_56 hp_57 => ?_)
    obtain ⟨rfl, rfl⟩ := hp_57
    refine ⟨rfl, ?_⟩
    refine z_eq (ws2 := [eX1 h0 ha (nI 6), eQ t ha 8 (fun j => some (ad j)), eX0 (ad 0) (nI (g 0)) (nI (g 1)) (nI (g 2)) (nI (g 3)) (nI (g 4)), eX0 (ad 1) (nI (g 5)) (nI (g 6)) (nI (g 7)) (nI (g 8)) (nI (g 9)), eX0 (ad 2) (nI (g 10)) (nI (g 11)) (nI (g 12)) (nI (g 13)) (nI (g 14)), eX0 (ad 3) (nI (g 15)) (nI (g 16)) (nI (g 17)) (nI (g 18)) (nI (g 19)), eX0 (ad 4) (nI (g 20)) (nI (g 21)) (nI (g 22)) (nI (g 23)) (nI (g 24)), eX0 (ad 5) (nI (g 25)) (nI (g 26)) (nI (g 27)) (nI (g 28)) (nI (g 29)), eX0 (ad 6) (nI (g 30)) (nI (g 31)) (nI (g 32)) (nI (g 33)) (nI (g 34)), eX0 (ad 7) (nI (g 35)) (nI (g 36)) (nI (g 37)) (nI (g 38)) (nI (g 39)), eX0 hc (nI (s 0)) (nI (s 1)) (nI (s 2)) (nI (s 3)) (nI (s 4))]) (st2 := [.int (zb (8 ≤ 6))]) rfl rfl rfl ?_
    refine z_if_eqB X (pc := 4) 11 dX1_put_4 (by decide) (fun c_4 => ?_) (fun c_4 => absurd c_4 (by decide))
    refine z_aload_n X (pc := 11) 0 dX1_put_11 rfl ?_
    refine z_get X (pc := 12) 0 1 (.int (nI 6)) tu_1 tw_95 dX1_put_12 rfl rfl (by decide) rfl rfl ?_
    refine z_iconst X (pc := 15) (nI 0) dX1_put_15 (by decide) ?_
    refine z_aload_n X (pc := 16) 0 dX1_put_16 rfl ?_
    refine z_get X (pc := 17) 0 0 (.ref ha) tu_1 tw_94 dX1_put_17 rfl rfl (by decide) rfl rfl ?_
    refine z_alen_q X (pc := 20) 1 dX1_put_20 rfl ?_
    refine z_iconst X (pc := 21) (nI 1) dX1_put_21 (by decide) ?_
    refine z_isub X (pc := 22) (v := (nI 7)) dX1_put_22 (pk_sub (by omega)) ?_
    refine zc_SN (as := [.int (nI 6), .int (nI 0), .int (nI 7)]) X (pc := 23) (c_X4_within lq D t (nI 6) (nI 0) (nI 7) ) tw_319 tw_182 tw_1 tw_181 [] rfl rfl dX1_put_23 rfl zdX4_within ⟨rfl, rfl, Nat.le_of_ble_eq_true rfl, Nat.le_of_ble_eq_true rfl⟩ (Nat.le_of_ble_eq_true rfl) (Nat.zero_le _) (Nat.zero_le _) (fun v_58 w_59 hp_60 => ?_)
    obtain ⟨rfl, rfl⟩ := hp_60
    refine ⟨rfl, ?_⟩
    refine z_eq (ws2 := [eX1 h0 ha (nI 6), eQ t ha 8 (fun j => some (ad j)), eX0 (ad 0) (nI (g 0)) (nI (g 1)) (nI (g 2)) (nI (g 3)) (nI (g 4)), eX0 (ad 1) (nI (g 5)) (nI (g 6)) (nI (g 7)) (nI (g 8)) (nI (g 9)), eX0 (ad 2) (nI (g 10)) (nI (g 11)) (nI (g 12)) (nI (g 13)) (nI (g 14)), eX0 (ad 3) (nI (g 15)) (nI (g 16)) (nI (g 17)) (nI (g 18)) (nI (g 19)), eX0 (ad 4) (nI (g 20)) (nI (g 21)) (nI (g 22)) (nI (g 23)) (nI (g 24)), eX0 (ad 5) (nI (g 25)) (nI (g 26)) (nI (g 27)) (nI (g 28)) (nI (g 29)), eX0 (ad 6) (nI (g 30)) (nI (g 31)) (nI (g 32)) (nI (g 33)) (nI (g 34)), eX0 (ad 7) (nI (g 35)) (nI (g 36)) (nI (g 37)) (nI (g 38)) (nI (g 39)), eX0 hc (nI (s 0)) (nI (s 1)) (nI (s 2)) (nI (s 3)) (nI (s 4))]) (st2 := [.int (zb ((nI 0) ≤ (nI 6) ∧ (nI 6) ≤ (nI 7)))]) rfl rfl rfl ?_
    refine z_if_eqB X (pc := 26) 52 dX1_put_26 (by decide) (fun c_26 => absurd c_26 (by decide)) (fun c_26 => ?_)
    refine z_aload_n X (pc := 29) 0 dX1_put_29 rfl ?_
    refine z_get X (pc := 30) 0 0 (.ref ha) tu_1 tw_94 dX1_put_30 rfl rfl (by decide) rfl rfl ?_
    refine z_aload_n X (pc := 33) 0 dX1_put_33 rfl ?_
    refine z_get X (pc := 34) 0 1 (.int (nI 6)) tu_1 tw_95 dX1_put_34 rfl rfl (by decide) rfl rfl ?_
    refine z_aald X (pc := 37) 1 6 (ad 6) dX1_put_37 rfl rfl (Nat.le_of_ble_eq_true rfl) (by decide) rfl ?_
    refine z_aload_n X (pc := 38) 1 dX1_put_38 rfl ?_
    refine zc_V (as := [.ref hc]) X (pc := 39) (c_X0_copyFrom lq D t (ad 6) hc (nI (g 30)) (nI (g 31)) (nI (g 32)) (nI (g 33)) (nI (g 34)) (nI (s 0)) (nI (s 1)) (nI (s 2)) (nI (s 3)) (nI (s 4)) ) tw_318 tw_270 tw_3 tw_268 tw_269 0 0 rfl rfl [8, 10] rfl rfl dX1_put_39 rfl zdX0_copyFrom ⟨rfl, rfl, Nat.le_of_ble_eq_true rfl, Nat.le_of_ble_eq_true rfl⟩ (Nat.le_of_ble_eq_true rfl) (Nat.zero_le _) (Nat.zero_le _) (fun v_61 w_62 hp_63 => ?_)
    obtain ⟨rfl, rfl⟩ := hp_63
    refine ⟨rfl, ?_⟩
    refine z_eq (ws2 := [eX1 h0 ha (nI 6), eQ t ha 8 (fun j => some (ad j)), eX0 (ad 0) (nI (g 0)) (nI (g 1)) (nI (g 2)) (nI (g 3)) (nI (g 4)), eX0 (ad 1) (nI (g 5)) (nI (g 6)) (nI (g 7)) (nI (g 8)) (nI (g 9)), eX0 (ad 2) (nI (g 10)) (nI (g 11)) (nI (g 12)) (nI (g 13)) (nI (g 14)), eX0 (ad 3) (nI (g 15)) (nI (g 16)) (nI (g 17)) (nI (g 18)) (nI (g 19)), eX0 (ad 4) (nI (g 20)) (nI (g 21)) (nI (g 22)) (nI (g 23)) (nI (g 24)), eX0 (ad 5) (nI (g 25)) (nI (g 26)) (nI (g 27)) (nI (g 28)) (nI (g 29)), eX0 (ad 6) (nI (s 0)) (nI (s 1)) (nI (s 2)) (nI (s 3)) (nI (s 4)), eX0 (ad 7) (nI (g 35)) (nI (g 36)) (nI (g 37)) (nI (g 38)) (nI (g 39)), eX0 hc (nI (s 0)) (nI (s 1)) (nI (s 2)) (nI (s 3)) (nI (s 4))]) (st2 := []) rfl rfl rfl ?_
    refine z_aload_n X (pc := 42) 0 dX1_put_42 rfl ?_
    refine z_dup X (pc := 43) dX1_put_43 rfl ?_
    refine z_get X (pc := 44) 0 1 (.int (nI 6)) tu_1 tw_95 dX1_put_44 rfl rfl (by decide) rfl rfl ?_
    refine z_iconst X (pc := 47) (nI 1) dX1_put_47 (by decide) ?_
    refine z_iadd X (pc := 48) (v := (nI 7)) dX1_put_48 (nI_add 6 1) ?_
    refine z_put X (pc := 49) 0 1 [eX1 h0 ha (nI 7), eQ t ha 8 (fun j => some (ad j)), eX0 (ad 0) (nI (g 0)) (nI (g 1)) (nI (g 2)) (nI (g 3)) (nI (g 4)), eX0 (ad 1) (nI (g 5)) (nI (g 6)) (nI (g 7)) (nI (g 8)) (nI (g 9)), eX0 (ad 2) (nI (g 10)) (nI (g 11)) (nI (g 12)) (nI (g 13)) (nI (g 14)), eX0 (ad 3) (nI (g 15)) (nI (g 16)) (nI (g 17)) (nI (g 18)) (nI (g 19)), eX0 (ad 4) (nI (g 20)) (nI (g 21)) (nI (g 22)) (nI (g 23)) (nI (g 24)), eX0 (ad 5) (nI (g 25)) (nI (g 26)) (nI (g 27)) (nI (g 28)) (nI (g 29)), eX0 (ad 6) (nI (s 0)) (nI (s 1)) (nI (s 2)) (nI (s 3)) (nI (s 4)), eX0 (ad 7) (nI (g 35)) (nI (g 36)) (nI (g 37)) (nI (g 38)) (nI (g 39)), eX0 hc (nI (s 0)) (nI (s 1)) (nI (s 2)) (nI (s 3)) (nI (s 4))] tu_1 tyX1_ok nmX1 tw_95 dX1_put_49 rfl rfl (by decide) rfl rfl rfl rfl (Nat.le_of_ble_eq_true rfl) rfl ?_
    exact hR.v dX1_put_52 ⟨rfl, rfl⟩
  · skip
    refine z_aload_n X (pc := 0) 0 dX1_put_0 rfl ?_
    refine zc_V (as := []) X (pc := 1) (c_X1_isFull lq D t h0 ha 7 8 (fun j => some (ad j)) (by decide) (by decide)) tw_310 tw_313 tw_4 tw_311 tw_312 0 1 rfl rfl [0, 1] rfl rfl dX1_put_1 rfl zdX1_isFull ⟨rfl, rfl, Nat.le_of_ble_eq_true rfl, Nat.le_of_ble_eq_true rfl⟩ (Nat.le_of_ble_eq_true rfl) (Nat.zero_le _) (Nat.zero_le _) (fun v_64 w_65 hp_66 => ?_)
    obtain ⟨rfl, rfl⟩ := hp_66
    refine ⟨rfl, ?_⟩
    refine z_eq (ws2 := [eX1 h0 ha (nI 7), eQ t ha 8 (fun j => some (ad j)), eX0 (ad 0) (nI (g 0)) (nI (g 1)) (nI (g 2)) (nI (g 3)) (nI (g 4)), eX0 (ad 1) (nI (g 5)) (nI (g 6)) (nI (g 7)) (nI (g 8)) (nI (g 9)), eX0 (ad 2) (nI (g 10)) (nI (g 11)) (nI (g 12)) (nI (g 13)) (nI (g 14)), eX0 (ad 3) (nI (g 15)) (nI (g 16)) (nI (g 17)) (nI (g 18)) (nI (g 19)), eX0 (ad 4) (nI (g 20)) (nI (g 21)) (nI (g 22)) (nI (g 23)) (nI (g 24)), eX0 (ad 5) (nI (g 25)) (nI (g 26)) (nI (g 27)) (nI (g 28)) (nI (g 29)), eX0 (ad 6) (nI (g 30)) (nI (g 31)) (nI (g 32)) (nI (g 33)) (nI (g 34)), eX0 (ad 7) (nI (g 35)) (nI (g 36)) (nI (g 37)) (nI (g 38)) (nI (g 39)), eX0 hc (nI (s 0)) (nI (s 1)) (nI (s 2)) (nI (s 3)) (nI (s 4))]) (st2 := [.int (zb (8 ≤ 7))]) rfl rfl rfl ?_
    refine z_if_eqB X (pc := 4) 11 dX1_put_4 (by decide) (fun c_4 => ?_) (fun c_4 => absurd c_4 (by decide))
    refine z_aload_n X (pc := 11) 0 dX1_put_11 rfl ?_
    refine z_get X (pc := 12) 0 1 (.int (nI 7)) tu_1 tw_95 dX1_put_12 rfl rfl (by decide) rfl rfl ?_
    refine z_iconst X (pc := 15) (nI 0) dX1_put_15 (by decide) ?_
    refine z_aload_n X (pc := 16) 0 dX1_put_16 rfl ?_
    refine z_get X (pc := 17) 0 0 (.ref ha) tu_1 tw_94 dX1_put_17 rfl rfl (by decide) rfl rfl ?_
    refine z_alen_q X (pc := 20) 1 dX1_put_20 rfl ?_
    refine z_iconst X (pc := 21) (nI 1) dX1_put_21 (by decide) ?_
    refine z_isub X (pc := 22) (v := (nI 7)) dX1_put_22 (pk_sub (by omega)) ?_
    refine zc_SN (as := [.int (nI 7), .int (nI 0), .int (nI 7)]) X (pc := 23) (c_X4_within lq D t (nI 7) (nI 0) (nI 7) ) tw_319 tw_182 tw_1 tw_181 [] rfl rfl dX1_put_23 rfl zdX4_within ⟨rfl, rfl, Nat.le_of_ble_eq_true rfl, Nat.le_of_ble_eq_true rfl⟩ (Nat.le_of_ble_eq_true rfl) (Nat.zero_le _) (Nat.zero_le _) (fun v_67 w_68 hp_69 => ?_)
    obtain ⟨rfl, rfl⟩ := hp_69
    refine ⟨rfl, ?_⟩
    refine z_eq (ws2 := [eX1 h0 ha (nI 7), eQ t ha 8 (fun j => some (ad j)), eX0 (ad 0) (nI (g 0)) (nI (g 1)) (nI (g 2)) (nI (g 3)) (nI (g 4)), eX0 (ad 1) (nI (g 5)) (nI (g 6)) (nI (g 7)) (nI (g 8)) (nI (g 9)), eX0 (ad 2) (nI (g 10)) (nI (g 11)) (nI (g 12)) (nI (g 13)) (nI (g 14)), eX0 (ad 3) (nI (g 15)) (nI (g 16)) (nI (g 17)) (nI (g 18)) (nI (g 19)), eX0 (ad 4) (nI (g 20)) (nI (g 21)) (nI (g 22)) (nI (g 23)) (nI (g 24)), eX0 (ad 5) (nI (g 25)) (nI (g 26)) (nI (g 27)) (nI (g 28)) (nI (g 29)), eX0 (ad 6) (nI (g 30)) (nI (g 31)) (nI (g 32)) (nI (g 33)) (nI (g 34)), eX0 (ad 7) (nI (g 35)) (nI (g 36)) (nI (g 37)) (nI (g 38)) (nI (g 39)), eX0 hc (nI (s 0)) (nI (s 1)) (nI (s 2)) (nI (s 3)) (nI (s 4))]) (st2 := [.int (zb ((nI 0) ≤ (nI 7) ∧ (nI 7) ≤ (nI 7)))]) rfl rfl rfl ?_
    refine z_if_eqB X (pc := 26) 52 dX1_put_26 (by decide) (fun c_26 => absurd c_26 (by decide)) (fun c_26 => ?_)
    refine z_aload_n X (pc := 29) 0 dX1_put_29 rfl ?_
    refine z_get X (pc := 30) 0 0 (.ref ha) tu_1 tw_94 dX1_put_30 rfl rfl (by decide) rfl rfl ?_
    refine z_aload_n X (pc := 33) 0 dX1_put_33 rfl ?_
    refine z_get X (pc := 34) 0 1 (.int (nI 7)) tu_1 tw_95 dX1_put_34 rfl rfl (by decide) rfl rfl ?_
    refine z_aald X (pc := 37) 1 7 (ad 7) dX1_put_37 rfl rfl (Nat.le_of_ble_eq_true rfl) (by decide) rfl ?_
    refine z_aload_n X (pc := 38) 1 dX1_put_38 rfl ?_
    refine zc_V (as := [.ref hc]) X (pc := 39) (c_X0_copyFrom lq D t (ad 7) hc (nI (g 35)) (nI (g 36)) (nI (g 37)) (nI (g 38)) (nI (g 39)) (nI (s 0)) (nI (s 1)) (nI (s 2)) (nI (s 3)) (nI (s 4)) ) tw_318 tw_270 tw_3 tw_268 tw_269 0 0 rfl rfl [9, 10] rfl rfl dX1_put_39 rfl zdX0_copyFrom ⟨rfl, rfl, Nat.le_of_ble_eq_true rfl, Nat.le_of_ble_eq_true rfl⟩ (Nat.le_of_ble_eq_true rfl) (Nat.zero_le _) (Nat.zero_le _) (fun v_70 w_71 hp_72 => ?_)
    obtain ⟨rfl, rfl⟩ := hp_72
    refine ⟨rfl, ?_⟩
    refine z_eq (ws2 := [eX1 h0 ha (nI 7), eQ t ha 8 (fun j => some (ad j)), eX0 (ad 0) (nI (g 0)) (nI (g 1)) (nI (g 2)) (nI (g 3)) (nI (g 4)), eX0 (ad 1) (nI (g 5)) (nI (g 6)) (nI (g 7)) (nI (g 8)) (nI (g 9)), eX0 (ad 2) (nI (g 10)) (nI (g 11)) (nI (g 12)) (nI (g 13)) (nI (g 14)), eX0 (ad 3) (nI (g 15)) (nI (g 16)) (nI (g 17)) (nI (g 18)) (nI (g 19)), eX0 (ad 4) (nI (g 20)) (nI (g 21)) (nI (g 22)) (nI (g 23)) (nI (g 24)), eX0 (ad 5) (nI (g 25)) (nI (g 26)) (nI (g 27)) (nI (g 28)) (nI (g 29)), eX0 (ad 6) (nI (g 30)) (nI (g 31)) (nI (g 32)) (nI (g 33)) (nI (g 34)), eX0 (ad 7) (nI (s 0)) (nI (s 1)) (nI (s 2)) (nI (s 3)) (nI (s 4)), eX0 hc (nI (s 0)) (nI (s 1)) (nI (s 2)) (nI (s 3)) (nI (s 4))]) (st2 := []) rfl rfl rfl ?_
    refine z_aload_n X (pc := 42) 0 dX1_put_42 rfl ?_
    refine z_dup X (pc := 43) dX1_put_43 rfl ?_
    refine z_get X (pc := 44) 0 1 (.int (nI 7)) tu_1 tw_95 dX1_put_44 rfl rfl (by decide) rfl rfl ?_
    refine z_iconst X (pc := 47) (nI 1) dX1_put_47 (by decide) ?_
    refine z_iadd X (pc := 48) (v := (nI 8)) dX1_put_48 (nI_add 7 1) ?_
    refine z_put X (pc := 49) 0 1 [eX1 h0 ha (nI 8), eQ t ha 8 (fun j => some (ad j)), eX0 (ad 0) (nI (g 0)) (nI (g 1)) (nI (g 2)) (nI (g 3)) (nI (g 4)), eX0 (ad 1) (nI (g 5)) (nI (g 6)) (nI (g 7)) (nI (g 8)) (nI (g 9)), eX0 (ad 2) (nI (g 10)) (nI (g 11)) (nI (g 12)) (nI (g 13)) (nI (g 14)), eX0 (ad 3) (nI (g 15)) (nI (g 16)) (nI (g 17)) (nI (g 18)) (nI (g 19)), eX0 (ad 4) (nI (g 20)) (nI (g 21)) (nI (g 22)) (nI (g 23)) (nI (g 24)), eX0 (ad 5) (nI (g 25)) (nI (g 26)) (nI (g 27)) (nI (g 28)) (nI (g 29)), eX0 (ad 6) (nI (g 30)) (nI (g 31)) (nI (g 32)) (nI (g 33)) (nI (g 34)), eX0 (ad 7) (nI (s 0)) (nI (s 1)) (nI (s 2)) (nI (s 3)) (nI (s 4)), eX0 hc (nI (s 0)) (nI (s 1)) (nI (s 2)) (nI (s 3)) (nI (s 4))] tu_1 tyX1_ok nmX1 tw_95 dX1_put_49 rfl rfl (by decide) rfl rfl rfl rfl (Nat.le_of_ble_eq_true rfl) rfl ?_
    exact hR.v dX1_put_52 ⟨rfl, rfl⟩
  · skip
    refine z_aload_n X (pc := 0) 0 dX1_put_0 rfl ?_
    refine zc_V (as := []) X (pc := 1) (c_X1_isFull lq D t h0 ha 8 8 (fun j => some (ad j)) (by decide) (by decide)) tw_310 tw_313 tw_4 tw_311 tw_312 0 1 rfl rfl [0, 1] rfl rfl dX1_put_1 rfl zdX1_isFull ⟨rfl, rfl, Nat.le_of_ble_eq_true rfl, Nat.le_of_ble_eq_true rfl⟩ (Nat.le_of_ble_eq_true rfl) (Nat.zero_le _) (Nat.zero_le _) (fun v_73 w_74 hp_75 => ?_)
    obtain ⟨rfl, rfl⟩ := hp_75
    refine ⟨rfl, ?_⟩
    refine z_eq (ws2 := [eX1 h0 ha (nI 8), eQ t ha 8 (fun j => some (ad j)), eX0 (ad 0) (nI (g 0)) (nI (g 1)) (nI (g 2)) (nI (g 3)) (nI (g 4)), eX0 (ad 1) (nI (g 5)) (nI (g 6)) (nI (g 7)) (nI (g 8)) (nI (g 9)), eX0 (ad 2) (nI (g 10)) (nI (g 11)) (nI (g 12)) (nI (g 13)) (nI (g 14)), eX0 (ad 3) (nI (g 15)) (nI (g 16)) (nI (g 17)) (nI (g 18)) (nI (g 19)), eX0 (ad 4) (nI (g 20)) (nI (g 21)) (nI (g 22)) (nI (g 23)) (nI (g 24)), eX0 (ad 5) (nI (g 25)) (nI (g 26)) (nI (g 27)) (nI (g 28)) (nI (g 29)), eX0 (ad 6) (nI (g 30)) (nI (g 31)) (nI (g 32)) (nI (g 33)) (nI (g 34)), eX0 (ad 7) (nI (g 35)) (nI (g 36)) (nI (g 37)) (nI (g 38)) (nI (g 39)), eX0 hc (nI (s 0)) (nI (s 1)) (nI (s 2)) (nI (s 3)) (nI (s 4))]) (st2 := [.int (zb (8 ≤ 8))]) rfl rfl rfl ?_
    refine z_if_eqB X (pc := 4) 11 dX1_put_4 (by decide) (fun c_4 => absurd c_4 (by decide)) (fun c_4 => ?_)
    refine z_aload_n X (pc := 7) 0 dX1_put_7 rfl ?_
    refine zc_V (as := []) X (pc := 8) (c_X1_dropOldest lq D t h0 ha ad g 8 ) tw_314 tw_317 tw_4 tw_316 tw_1011 0 1 rfl rfl [0, 1, 2, 3, 4, 5, 6, 7, 8, 9] rfl rfl dX1_put_8 rfl zdX1_dropOldest ⟨rfl, rfl, Nat.le_of_ble_eq_true rfl, Nat.le_of_ble_eq_true rfl⟩ (Nat.le_of_ble_eq_true rfl) (Nat.zero_le _) (Nat.zero_le _) (fun v_76 w_77 hp_78 => ?_)
    obtain ⟨rfl, rfl⟩ := hp_78
    refine ⟨rfl, ?_⟩
    refine z_eq (ws2 := [eX1 h0 ha (nI 7), eQ t ha 8 (fun j => some (ad j)), eX0 (ad 0) (nI (g 5)) (nI (g 6)) (nI (g 7)) (nI (g 8)) (nI (g 9)), eX0 (ad 1) (nI (g 10)) (nI (g 11)) (nI (g 12)) (nI (g 13)) (nI (g 14)), eX0 (ad 2) (nI (g 15)) (nI (g 16)) (nI (g 17)) (nI (g 18)) (nI (g 19)), eX0 (ad 3) (nI (g 20)) (nI (g 21)) (nI (g 22)) (nI (g 23)) (nI (g 24)), eX0 (ad 4) (nI (g 25)) (nI (g 26)) (nI (g 27)) (nI (g 28)) (nI (g 29)), eX0 (ad 5) (nI (g 30)) (nI (g 31)) (nI (g 32)) (nI (g 33)) (nI (g 34)), eX0 (ad 6) (nI (g 35)) (nI (g 36)) (nI (g 37)) (nI (g 38)) (nI (g 39)), eX0 (ad 7) (nI (g 35)) (nI (g 36)) (nI (g 37)) (nI (g 38)) (nI (g 39)), eX0 hc (nI (s 0)) (nI (s 1)) (nI (s 2)) (nI (s 3)) (nI (s 4))]) (st2 := []) rfl rfl rfl ?_
    refine z_aload_n X (pc := 11) 0 dX1_put_11 rfl ?_
    refine z_get X (pc := 12) 0 1 (.int (nI 7)) tu_1 tw_95 dX1_put_12 rfl rfl (by decide) rfl rfl ?_
    refine z_iconst X (pc := 15) (nI 0) dX1_put_15 (by decide) ?_
    refine z_aload_n X (pc := 16) 0 dX1_put_16 rfl ?_
    refine z_get X (pc := 17) 0 0 (.ref ha) tu_1 tw_94 dX1_put_17 rfl rfl (by decide) rfl rfl ?_
    refine z_alen_q X (pc := 20) 1 dX1_put_20 rfl ?_
    refine z_iconst X (pc := 21) (nI 1) dX1_put_21 (by decide) ?_
    refine z_isub X (pc := 22) (v := (nI 7)) dX1_put_22 (pk_sub (by omega)) ?_
    refine zc_SN (as := [.int (nI 7), .int (nI 0), .int (nI 7)]) X (pc := 23) (c_X4_within lq D t (nI 7) (nI 0) (nI 7) ) tw_319 tw_182 tw_1 tw_181 [] rfl rfl dX1_put_23 rfl zdX4_within ⟨rfl, rfl, Nat.le_of_ble_eq_true rfl, Nat.le_of_ble_eq_true rfl⟩ (Nat.le_of_ble_eq_true rfl) (Nat.zero_le _) (Nat.zero_le _) (fun v_79 w_80 hp_81 => ?_)
    obtain ⟨rfl, rfl⟩ := hp_81
    refine ⟨rfl, ?_⟩
    refine z_eq (ws2 := [eX1 h0 ha (nI 7), eQ t ha 8 (fun j => some (ad j)), eX0 (ad 0) (nI (g 5)) (nI (g 6)) (nI (g 7)) (nI (g 8)) (nI (g 9)), eX0 (ad 1) (nI (g 10)) (nI (g 11)) (nI (g 12)) (nI (g 13)) (nI (g 14)), eX0 (ad 2) (nI (g 15)) (nI (g 16)) (nI (g 17)) (nI (g 18)) (nI (g 19)), eX0 (ad 3) (nI (g 20)) (nI (g 21)) (nI (g 22)) (nI (g 23)) (nI (g 24)), eX0 (ad 4) (nI (g 25)) (nI (g 26)) (nI (g 27)) (nI (g 28)) (nI (g 29)), eX0 (ad 5) (nI (g 30)) (nI (g 31)) (nI (g 32)) (nI (g 33)) (nI (g 34)), eX0 (ad 6) (nI (g 35)) (nI (g 36)) (nI (g 37)) (nI (g 38)) (nI (g 39)), eX0 (ad 7) (nI (g 35)) (nI (g 36)) (nI (g 37)) (nI (g 38)) (nI (g 39)), eX0 hc (nI (s 0)) (nI (s 1)) (nI (s 2)) (nI (s 3)) (nI (s 4))]) (st2 := [.int (zb ((nI 0) ≤ (nI 7) ∧ (nI 7) ≤ (nI 7)))]) rfl rfl rfl ?_
    refine z_if_eqB X (pc := 26) 52 dX1_put_26 (by decide) (fun c_26 => absurd c_26 (by decide)) (fun c_26 => ?_)
    refine z_aload_n X (pc := 29) 0 dX1_put_29 rfl ?_
    refine z_get X (pc := 30) 0 0 (.ref ha) tu_1 tw_94 dX1_put_30 rfl rfl (by decide) rfl rfl ?_
    refine z_aload_n X (pc := 33) 0 dX1_put_33 rfl ?_
    refine z_get X (pc := 34) 0 1 (.int (nI 7)) tu_1 tw_95 dX1_put_34 rfl rfl (by decide) rfl rfl ?_
    refine z_aald X (pc := 37) 1 7 (ad 7) dX1_put_37 rfl rfl (Nat.le_of_ble_eq_true rfl) (by decide) rfl ?_
    refine z_aload_n X (pc := 38) 1 dX1_put_38 rfl ?_
    refine zc_V (as := [.ref hc]) X (pc := 39) (c_X0_copyFrom lq D t (ad 7) hc (nI (g 35)) (nI (g 36)) (nI (g 37)) (nI (g 38)) (nI (g 39)) (nI (s 0)) (nI (s 1)) (nI (s 2)) (nI (s 3)) (nI (s 4)) ) tw_318 tw_270 tw_3 tw_268 tw_269 0 0 rfl rfl [9, 10] rfl rfl dX1_put_39 rfl zdX0_copyFrom ⟨rfl, rfl, Nat.le_of_ble_eq_true rfl, Nat.le_of_ble_eq_true rfl⟩ (Nat.le_of_ble_eq_true rfl) (Nat.zero_le _) (Nat.zero_le _) (fun v_82 w_83 hp_84 => ?_)
    obtain ⟨rfl, rfl⟩ := hp_84
    refine ⟨rfl, ?_⟩
    refine z_eq (ws2 := [eX1 h0 ha (nI 7), eQ t ha 8 (fun j => some (ad j)), eX0 (ad 0) (nI (g 5)) (nI (g 6)) (nI (g 7)) (nI (g 8)) (nI (g 9)), eX0 (ad 1) (nI (g 10)) (nI (g 11)) (nI (g 12)) (nI (g 13)) (nI (g 14)), eX0 (ad 2) (nI (g 15)) (nI (g 16)) (nI (g 17)) (nI (g 18)) (nI (g 19)), eX0 (ad 3) (nI (g 20)) (nI (g 21)) (nI (g 22)) (nI (g 23)) (nI (g 24)), eX0 (ad 4) (nI (g 25)) (nI (g 26)) (nI (g 27)) (nI (g 28)) (nI (g 29)), eX0 (ad 5) (nI (g 30)) (nI (g 31)) (nI (g 32)) (nI (g 33)) (nI (g 34)), eX0 (ad 6) (nI (g 35)) (nI (g 36)) (nI (g 37)) (nI (g 38)) (nI (g 39)), eX0 (ad 7) (nI (s 0)) (nI (s 1)) (nI (s 2)) (nI (s 3)) (nI (s 4)), eX0 hc (nI (s 0)) (nI (s 1)) (nI (s 2)) (nI (s 3)) (nI (s 4))]) (st2 := []) rfl rfl rfl ?_
    refine z_aload_n X (pc := 42) 0 dX1_put_42 rfl ?_
    refine z_dup X (pc := 43) dX1_put_43 rfl ?_
    refine z_get X (pc := 44) 0 1 (.int (nI 7)) tu_1 tw_95 dX1_put_44 rfl rfl (by decide) rfl rfl ?_
    refine z_iconst X (pc := 47) (nI 1) dX1_put_47 (by decide) ?_
    refine z_iadd X (pc := 48) (v := (nI 8)) dX1_put_48 (nI_add 7 1) ?_
    refine z_put X (pc := 49) 0 1 [eX1 h0 ha (nI 8), eQ t ha 8 (fun j => some (ad j)), eX0 (ad 0) (nI (g 5)) (nI (g 6)) (nI (g 7)) (nI (g 8)) (nI (g 9)), eX0 (ad 1) (nI (g 10)) (nI (g 11)) (nI (g 12)) (nI (g 13)) (nI (g 14)), eX0 (ad 2) (nI (g 15)) (nI (g 16)) (nI (g 17)) (nI (g 18)) (nI (g 19)), eX0 (ad 3) (nI (g 20)) (nI (g 21)) (nI (g 22)) (nI (g 23)) (nI (g 24)), eX0 (ad 4) (nI (g 25)) (nI (g 26)) (nI (g 27)) (nI (g 28)) (nI (g 29)), eX0 (ad 5) (nI (g 30)) (nI (g 31)) (nI (g 32)) (nI (g 33)) (nI (g 34)), eX0 (ad 6) (nI (g 35)) (nI (g 36)) (nI (g 37)) (nI (g 38)) (nI (g 39)), eX0 (ad 7) (nI (s 0)) (nI (s 1)) (nI (s 2)) (nI (s 3)) (nI (s 4)), eX0 hc (nI (s 0)) (nI (s 1)) (nI (s 2)) (nI (s 3)) (nI (s 4))] tu_1 tyX1_ok nmX1 tw_95 dX1_put_49 rfl rfl (by decide) rfl rfl rfl rfl (Nat.le_of_ble_eq_true rfl) rfl ?_
    exact hR.v dX1_put_52 ⟨rfl, rfl⟩

abbrev rm_X1_takeLast8 : Room := { frames := 1, cells := 0, slots := 0, locals := 22 }
set_option maxHeartbeats 4000000 in
set_option maxRecDepth 100000 in
theorem c_X1_takeLast8 (lq : Launch) (D : va_G) (t : zT) (h0 ha : Nat) (ad g : Nat → Nat) (sz : Nat) (hc : Nat) (s : Nat → Nat) (hsz : sz ≤ 8) : Ct lq D t yX1_takeLast cX1_takeLast 2 (some .boolean) rm_X1_takeLast8 [.ref h0, .ref hc] [eX1 h0 ha (nI sz), eQ t ha 8 (fun j => some (ad j)), eX0 (ad 0) (nI (g 0)) (nI (g 1)) (nI (g 2)) (nI (g 3)) (nI (g 4)), eX0 (ad 1) (nI (g 5)) (nI (g 6)) (nI (g 7)) (nI (g 8)) (nI (g 9)), eX0 (ad 2) (nI (g 10)) (nI (g 11)) (nI (g 12)) (nI (g 13)) (nI (g 14)), eX0 (ad 3) (nI (g 15)) (nI (g 16)) (nI (g 17)) (nI (g 18)) (nI (g 19)), eX0 (ad 4) (nI (g 20)) (nI (g 21)) (nI (g 22)) (nI (g 23)) (nI (g 24)), eX0 (ad 5) (nI (g 25)) (nI (g 26)) (nI (g 27)) (nI (g 28)) (nI (g 29)), eX0 (ad 6) (nI (g 30)) (nI (g 31)) (nI (g 32)) (nI (g 33)) (nI (g 34)), eX0 (ad 7) (nI (g 35)) (nI (g 36)) (nI (g 37)) (nI (g 38)) (nI (g 39)), eX0 hc (nI (s 0)) (nI (s 1)) (nI (s 2)) (nI (s 3)) (nI (s 4))] 0 0 (fun rv rw_ => rv = some (.int (zb (¬ sz = 0))) ∧ rw_ = [eX1 h0 ha (nI (sz - 1)), eQ t ha 8 (fun j => some (ad j)), eX0 (ad 0) (nI (g 0)) (nI (g 1)) (nI (g 2)) (nI (g 3)) (nI (g 4)), eX0 (ad 1) (nI (g 5)) (nI (g 6)) (nI (g 7)) (nI (g 8)) (nI (g 9)), eX0 (ad 2) (nI (g 10)) (nI (g 11)) (nI (g 12)) (nI (g 13)) (nI (g 14)), eX0 (ad 3) (nI (g 15)) (nI (g 16)) (nI (g 17)) (nI (g 18)) (nI (g 19)), eX0 (ad 4) (nI (g 20)) (nI (g 21)) (nI (g 22)) (nI (g 23)) (nI (g 24)), eX0 (ad 5) (nI (g 25)) (nI (g 26)) (nI (g 27)) (nI (g 28)) (nI (g 29)), eX0 (ad 6) (nI (g 30)) (nI (g 31)) (nI (g 32)) (nI (g 33)) (nI (g 34)), eX0 (ad 7) (nI (g 35)) (nI (g 36)) (nI (g 37)) (nI (g 38)) (nI (g 39)), eX0 hc (nI (if sz = 0 then s 0 else g (5 * (sz - 1) + 0))) (nI (if sz = 0 then s 1 else g (5 * (sz - 1) + 1))) (nI (if sz = 0 then s 2 else g (5 * (sz - 1) + 2))) (nI (if sz = 0 then s 3 else g (5 * (sz - 1) + 3))) (nI (if sz = 0 then s 4 else g (5 * (sz - 1) + 4)))]) := by
  refine Ct.of (by decide) (Nat.le_of_ble_eq_true rfl) (fun k X hR => ?_)
  have X : zX D t k cX1_takeLast 2 RX1 "takeLast" rm_X1_takeLast8 lq := X
  refine z_eq (lv2 := [(0, .ref h0), (1, .ref hc)]) rfl rfl rfl ?_
  rcases (show sz = 0 ∨ sz = 1 ∨ sz = 2 ∨ sz = 3 ∨ sz = 4 ∨ sz = 5 ∨ sz = 6 ∨ sz = 7 ∨ sz = 8 by omega) with rfl | rfl | rfl | rfl | rfl | rfl | rfl | rfl | rfl
  · skip
    refine z_aload_n X (pc := 0) 0 dX1_takeLast_0 rfl ?_
    refine z_get X (pc := 1) 0 1 (.int (nI 0)) tu_1 tw_95 dX1_takeLast_1 rfl rfl (by decide) rfl rfl ?_
    refine z_iconst X (pc := 4) (nI 1) dX1_takeLast_4 (by decide) ?_
    refine z_aload_n X (pc := 5) 0 dX1_takeLast_5 rfl ?_
    refine z_get X (pc := 6) 0 0 (.ref ha) tu_1 tw_94 dX1_takeLast_6 rfl rfl (by decide) rfl rfl ?_
    refine z_alen_q X (pc := 9) 1 dX1_takeLast_9 rfl ?_
    refine zc_SN (as := [.int (nI 0), .int (nI 1), .int (nI 8)]) X (pc := 10) (c_X4_within lq D t (nI 0) (nI 1) (nI 8) ) tw_319 tw_182 tw_1 tw_181 [] rfl rfl dX1_takeLast_10 rfl zdX4_within ⟨rfl, rfl, Nat.le_of_ble_eq_true rfl, Nat.le_of_ble_eq_true rfl⟩ (Nat.le_of_ble_eq_true rfl) (Nat.zero_le _) (Nat.zero_le _) (fun v_1 w_2 hp_3 => ?_)
    obtain ⟨rfl, rfl⟩ := hp_3
    refine ⟨rfl, ?_⟩
    refine z_eq (ws2 := [eX1 h0 ha (nI 0), eQ t ha 8 (fun j => some (ad j)), eX0 (ad 0) (nI (g 0)) (nI (g 1)) (nI (g 2)) (nI (g 3)) (nI (g 4)), eX0 (ad 1) (nI (g 5)) (nI (g 6)) (nI (g 7)) (nI (g 8)) (nI (g 9)), eX0 (ad 2) (nI (g 10)) (nI (g 11)) (nI (g 12)) (nI (g 13)) (nI (g 14)), eX0 (ad 3) (nI (g 15)) (nI (g 16)) (nI (g 17)) (nI (g 18)) (nI (g 19)), eX0 (ad 4) (nI (g 20)) (nI (g 21)) (nI (g 22)) (nI (g 23)) (nI (g 24)), eX0 (ad 5) (nI (g 25)) (nI (g 26)) (nI (g 27)) (nI (g 28)) (nI (g 29)), eX0 (ad 6) (nI (g 30)) (nI (g 31)) (nI (g 32)) (nI (g 33)) (nI (g 34)), eX0 (ad 7) (nI (g 35)) (nI (g 36)) (nI (g 37)) (nI (g 38)) (nI (g 39)), eX0 hc (nI (s 0)) (nI (s 1)) (nI (s 2)) (nI (s 3)) (nI (s 4))]) (st2 := [.int (zb ((nI 1) ≤ (nI 0) ∧ (nI 0) ≤ (nI 8)))]) rfl rfl rfl ?_
    refine z_if_neB X (pc := 13) 18 dX1_takeLast_13 (by decide) (fun c_13 => absurd c_13 (by decide)) (fun c_13 => ?_)
    refine z_iconst X (pc := 16) (nI 0) dX1_takeLast_16 (by decide) ?_
    exact hR.z dX1_takeLast_17 rfl ⟨some_zb_f (by decide), rfl⟩
  · skip
    refine z_aload_n X (pc := 0) 0 dX1_takeLast_0 rfl ?_
    refine z_get X (pc := 1) 0 1 (.int (nI 1)) tu_1 tw_95 dX1_takeLast_1 rfl rfl (by decide) rfl rfl ?_
    refine z_iconst X (pc := 4) (nI 1) dX1_takeLast_4 (by decide) ?_
    refine z_aload_n X (pc := 5) 0 dX1_takeLast_5 rfl ?_
    refine z_get X (pc := 6) 0 0 (.ref ha) tu_1 tw_94 dX1_takeLast_6 rfl rfl (by decide) rfl rfl ?_
    refine z_alen_q X (pc := 9) 1 dX1_takeLast_9 rfl ?_
    refine zc_SN (as := [.int (nI 1), .int (nI 1), .int (nI 8)]) X (pc := 10) (c_X4_within lq D t (nI 1) (nI 1) (nI 8) ) tw_319 tw_182 tw_1 tw_181 [] rfl rfl dX1_takeLast_10 rfl zdX4_within ⟨rfl, rfl, Nat.le_of_ble_eq_true rfl, Nat.le_of_ble_eq_true rfl⟩ (Nat.le_of_ble_eq_true rfl) (Nat.zero_le _) (Nat.zero_le _) (fun v_4 w_5 hp_6 => ?_)
    obtain ⟨rfl, rfl⟩ := hp_6
    refine ⟨rfl, ?_⟩
    refine z_eq (ws2 := [eX1 h0 ha (nI 1), eQ t ha 8 (fun j => some (ad j)), eX0 (ad 0) (nI (g 0)) (nI (g 1)) (nI (g 2)) (nI (g 3)) (nI (g 4)), eX0 (ad 1) (nI (g 5)) (nI (g 6)) (nI (g 7)) (nI (g 8)) (nI (g 9)), eX0 (ad 2) (nI (g 10)) (nI (g 11)) (nI (g 12)) (nI (g 13)) (nI (g 14)), eX0 (ad 3) (nI (g 15)) (nI (g 16)) (nI (g 17)) (nI (g 18)) (nI (g 19)), eX0 (ad 4) (nI (g 20)) (nI (g 21)) (nI (g 22)) (nI (g 23)) (nI (g 24)), eX0 (ad 5) (nI (g 25)) (nI (g 26)) (nI (g 27)) (nI (g 28)) (nI (g 29)), eX0 (ad 6) (nI (g 30)) (nI (g 31)) (nI (g 32)) (nI (g 33)) (nI (g 34)), eX0 (ad 7) (nI (g 35)) (nI (g 36)) (nI (g 37)) (nI (g 38)) (nI (g 39)), eX0 hc (nI (s 0)) (nI (s 1)) (nI (s 2)) (nI (s 3)) (nI (s 4))]) (st2 := [.int (zb ((nI 1) ≤ (nI 1) ∧ (nI 1) ≤ (nI 8)))]) rfl rfl rfl ?_
    refine z_if_neB X (pc := 13) 18 dX1_takeLast_13 (by decide) (fun c_13 => ?_) (fun c_13 => absurd c_13 (by decide))
    refine z_aload_n X (pc := 18) 0 dX1_takeLast_18 rfl ?_
    refine z_dup X (pc := 19) dX1_takeLast_19 rfl ?_
    refine z_get X (pc := 20) 0 1 (.int (nI 1)) tu_1 tw_95 dX1_takeLast_20 rfl rfl (by decide) rfl rfl ?_
    refine z_iconst X (pc := 23) (nI 1) dX1_takeLast_23 (by decide) ?_
    refine z_isub X (pc := 24) (v := (nI 0)) dX1_takeLast_24 (pk_sub (by omega)) ?_
    refine z_put X (pc := 25) 0 1 [eX1 h0 ha (nI 0), eQ t ha 8 (fun j => some (ad j)), eX0 (ad 0) (nI (g 0)) (nI (g 1)) (nI (g 2)) (nI (g 3)) (nI (g 4)), eX0 (ad 1) (nI (g 5)) (nI (g 6)) (nI (g 7)) (nI (g 8)) (nI (g 9)), eX0 (ad 2) (nI (g 10)) (nI (g 11)) (nI (g 12)) (nI (g 13)) (nI (g 14)), eX0 (ad 3) (nI (g 15)) (nI (g 16)) (nI (g 17)) (nI (g 18)) (nI (g 19)), eX0 (ad 4) (nI (g 20)) (nI (g 21)) (nI (g 22)) (nI (g 23)) (nI (g 24)), eX0 (ad 5) (nI (g 25)) (nI (g 26)) (nI (g 27)) (nI (g 28)) (nI (g 29)), eX0 (ad 6) (nI (g 30)) (nI (g 31)) (nI (g 32)) (nI (g 33)) (nI (g 34)), eX0 (ad 7) (nI (g 35)) (nI (g 36)) (nI (g 37)) (nI (g 38)) (nI (g 39)), eX0 hc (nI (s 0)) (nI (s 1)) (nI (s 2)) (nI (s 3)) (nI (s 4))] tu_1 tyX1_ok nmX1 tw_95 dX1_takeLast_25 rfl rfl (by decide) rfl rfl rfl rfl (Nat.le_of_ble_eq_true rfl) rfl ?_
    refine z_aload_n X (pc := 28) 1 dX1_takeLast_28 rfl ?_
    refine z_aload_n X (pc := 29) 0 dX1_takeLast_29 rfl ?_
    refine z_get X (pc := 30) 0 0 (.ref ha) tu_1 tw_94 dX1_takeLast_30 rfl rfl (by decide) rfl rfl ?_
    refine z_aload_n X (pc := 33) 0 dX1_takeLast_33 rfl ?_
    refine z_get X (pc := 34) 0 1 (.int (nI 0)) tu_1 tw_95 dX1_takeLast_34 rfl rfl (by decide) rfl rfl ?_
    refine z_aald X (pc := 37) 1 0 (ad 0) dX1_takeLast_37 rfl rfl (Nat.le_of_ble_eq_true rfl) (by decide) rfl ?_
    refine zc_V (as := [.ref (ad 0)]) X (pc := 38) (c_X0_copyFrom lq D t hc (ad 0) (nI (s 0)) (nI (s 1)) (nI (s 2)) (nI (s 3)) (nI (s 4)) (nI (g 0)) (nI (g 1)) (nI (g 2)) (nI (g 3)) (nI (g 4)) ) tw_318 tw_270 tw_3 tw_268 tw_269 0 0 rfl rfl [10, 2] rfl rfl dX1_takeLast_38 rfl zdX0_copyFrom ⟨rfl, rfl, Nat.le_of_ble_eq_true rfl, Nat.le_of_ble_eq_true rfl⟩ (Nat.le_of_ble_eq_true rfl) (Nat.zero_le _) (Nat.zero_le _) (fun v_7 w_8 hp_9 => ?_)
    obtain ⟨rfl, rfl⟩ := hp_9
    refine ⟨rfl, ?_⟩
    refine z_eq (ws2 := [eX1 h0 ha (nI 0), eQ t ha 8 (fun j => some (ad j)), eX0 (ad 0) (nI (g 0)) (nI (g 1)) (nI (g 2)) (nI (g 3)) (nI (g 4)), eX0 (ad 1) (nI (g 5)) (nI (g 6)) (nI (g 7)) (nI (g 8)) (nI (g 9)), eX0 (ad 2) (nI (g 10)) (nI (g 11)) (nI (g 12)) (nI (g 13)) (nI (g 14)), eX0 (ad 3) (nI (g 15)) (nI (g 16)) (nI (g 17)) (nI (g 18)) (nI (g 19)), eX0 (ad 4) (nI (g 20)) (nI (g 21)) (nI (g 22)) (nI (g 23)) (nI (g 24)), eX0 (ad 5) (nI (g 25)) (nI (g 26)) (nI (g 27)) (nI (g 28)) (nI (g 29)), eX0 (ad 6) (nI (g 30)) (nI (g 31)) (nI (g 32)) (nI (g 33)) (nI (g 34)), eX0 (ad 7) (nI (g 35)) (nI (g 36)) (nI (g 37)) (nI (g 38)) (nI (g 39)), eX0 hc (nI (g 0)) (nI (g 1)) (nI (g 2)) (nI (g 3)) (nI (g 4))]) (st2 := []) rfl rfl rfl ?_
    refine z_iconst X (pc := 41) (nI 1) dX1_takeLast_41 (by decide) ?_
    exact hR.z dX1_takeLast_42 rfl ⟨some_zb_t (by decide), rfl⟩
  · skip
    refine z_aload_n X (pc := 0) 0 dX1_takeLast_0 rfl ?_
    refine z_get X (pc := 1) 0 1 (.int (nI 2)) tu_1 tw_95 dX1_takeLast_1 rfl rfl (by decide) rfl rfl ?_
    refine z_iconst X (pc := 4) (nI 1) dX1_takeLast_4 (by decide) ?_
    refine z_aload_n X (pc := 5) 0 dX1_takeLast_5 rfl ?_
    refine z_get X (pc := 6) 0 0 (.ref ha) tu_1 tw_94 dX1_takeLast_6 rfl rfl (by decide) rfl rfl ?_
    refine z_alen_q X (pc := 9) 1 dX1_takeLast_9 rfl ?_
    refine zc_SN (as := [.int (nI 2), .int (nI 1), .int (nI 8)]) X (pc := 10) (c_X4_within lq D t (nI 2) (nI 1) (nI 8) ) tw_319 tw_182 tw_1 tw_181 [] rfl rfl dX1_takeLast_10 rfl zdX4_within ⟨rfl, rfl, Nat.le_of_ble_eq_true rfl, Nat.le_of_ble_eq_true rfl⟩ (Nat.le_of_ble_eq_true rfl) (Nat.zero_le _) (Nat.zero_le _) (fun v_10 w_11 hp_12 => ?_)
    obtain ⟨rfl, rfl⟩ := hp_12
    refine ⟨rfl, ?_⟩
    refine z_eq (ws2 := [eX1 h0 ha (nI 2), eQ t ha 8 (fun j => some (ad j)), eX0 (ad 0) (nI (g 0)) (nI (g 1)) (nI (g 2)) (nI (g 3)) (nI (g 4)), eX0 (ad 1) (nI (g 5)) (nI (g 6)) (nI (g 7)) (nI (g 8)) (nI (g 9)), eX0 (ad 2) (nI (g 10)) (nI (g 11)) (nI (g 12)) (nI (g 13)) (nI (g 14)), eX0 (ad 3) (nI (g 15)) (nI (g 16)) (nI (g 17)) (nI (g 18)) (nI (g 19)), eX0 (ad 4) (nI (g 20)) (nI (g 21)) (nI (g 22)) (nI (g 23)) (nI (g 24)), eX0 (ad 5) (nI (g 25)) (nI (g 26)) (nI (g 27)) (nI (g 28)) (nI (g 29)), eX0 (ad 6) (nI (g 30)) (nI (g 31)) (nI (g 32)) (nI (g 33)) (nI (g 34)), eX0 (ad 7) (nI (g 35)) (nI (g 36)) (nI (g 37)) (nI (g 38)) (nI (g 39)), eX0 hc (nI (s 0)) (nI (s 1)) (nI (s 2)) (nI (s 3)) (nI (s 4))]) (st2 := [.int (zb ((nI 1) ≤ (nI 2) ∧ (nI 2) ≤ (nI 8)))]) rfl rfl rfl ?_
    refine z_if_neB X (pc := 13) 18 dX1_takeLast_13 (by decide) (fun c_13 => ?_) (fun c_13 => absurd c_13 (by decide))
    refine z_aload_n X (pc := 18) 0 dX1_takeLast_18 rfl ?_
    refine z_dup X (pc := 19) dX1_takeLast_19 rfl ?_
    refine z_get X (pc := 20) 0 1 (.int (nI 2)) tu_1 tw_95 dX1_takeLast_20 rfl rfl (by decide) rfl rfl ?_
    refine z_iconst X (pc := 23) (nI 1) dX1_takeLast_23 (by decide) ?_
    refine z_isub X (pc := 24) (v := (nI 1)) dX1_takeLast_24 (pk_sub (by omega)) ?_
    refine z_put X (pc := 25) 0 1 [eX1 h0 ha (nI 1), eQ t ha 8 (fun j => some (ad j)), eX0 (ad 0) (nI (g 0)) (nI (g 1)) (nI (g 2)) (nI (g 3)) (nI (g 4)), eX0 (ad 1) (nI (g 5)) (nI (g 6)) (nI (g 7)) (nI (g 8)) (nI (g 9)), eX0 (ad 2) (nI (g 10)) (nI (g 11)) (nI (g 12)) (nI (g 13)) (nI (g 14)), eX0 (ad 3) (nI (g 15)) (nI (g 16)) (nI (g 17)) (nI (g 18)) (nI (g 19)), eX0 (ad 4) (nI (g 20)) (nI (g 21)) (nI (g 22)) (nI (g 23)) (nI (g 24)), eX0 (ad 5) (nI (g 25)) (nI (g 26)) (nI (g 27)) (nI (g 28)) (nI (g 29)), eX0 (ad 6) (nI (g 30)) (nI (g 31)) (nI (g 32)) (nI (g 33)) (nI (g 34)), eX0 (ad 7) (nI (g 35)) (nI (g 36)) (nI (g 37)) (nI (g 38)) (nI (g 39)), eX0 hc (nI (s 0)) (nI (s 1)) (nI (s 2)) (nI (s 3)) (nI (s 4))] tu_1 tyX1_ok nmX1 tw_95 dX1_takeLast_25 rfl rfl (by decide) rfl rfl rfl rfl (Nat.le_of_ble_eq_true rfl) rfl ?_
    refine z_aload_n X (pc := 28) 1 dX1_takeLast_28 rfl ?_
    refine z_aload_n X (pc := 29) 0 dX1_takeLast_29 rfl ?_
    refine z_get X (pc := 30) 0 0 (.ref ha) tu_1 tw_94 dX1_takeLast_30 rfl rfl (by decide) rfl rfl ?_
    refine z_aload_n X (pc := 33) 0 dX1_takeLast_33 rfl ?_
    refine z_get X (pc := 34) 0 1 (.int (nI 1)) tu_1 tw_95 dX1_takeLast_34 rfl rfl (by decide) rfl rfl ?_
    refine z_aald X (pc := 37) 1 1 (ad 1) dX1_takeLast_37 rfl rfl (Nat.le_of_ble_eq_true rfl) (by decide) rfl ?_
    refine zc_V (as := [.ref (ad 1)]) X (pc := 38) (c_X0_copyFrom lq D t hc (ad 1) (nI (s 0)) (nI (s 1)) (nI (s 2)) (nI (s 3)) (nI (s 4)) (nI (g 5)) (nI (g 6)) (nI (g 7)) (nI (g 8)) (nI (g 9)) ) tw_318 tw_270 tw_3 tw_268 tw_269 0 0 rfl rfl [10, 3] rfl rfl dX1_takeLast_38 rfl zdX0_copyFrom ⟨rfl, rfl, Nat.le_of_ble_eq_true rfl, Nat.le_of_ble_eq_true rfl⟩ (Nat.le_of_ble_eq_true rfl) (Nat.zero_le _) (Nat.zero_le _) (fun v_13 w_14 hp_15 => ?_)
    obtain ⟨rfl, rfl⟩ := hp_15
    refine ⟨rfl, ?_⟩
    refine z_eq (ws2 := [eX1 h0 ha (nI 1), eQ t ha 8 (fun j => some (ad j)), eX0 (ad 0) (nI (g 0)) (nI (g 1)) (nI (g 2)) (nI (g 3)) (nI (g 4)), eX0 (ad 1) (nI (g 5)) (nI (g 6)) (nI (g 7)) (nI (g 8)) (nI (g 9)), eX0 (ad 2) (nI (g 10)) (nI (g 11)) (nI (g 12)) (nI (g 13)) (nI (g 14)), eX0 (ad 3) (nI (g 15)) (nI (g 16)) (nI (g 17)) (nI (g 18)) (nI (g 19)), eX0 (ad 4) (nI (g 20)) (nI (g 21)) (nI (g 22)) (nI (g 23)) (nI (g 24)), eX0 (ad 5) (nI (g 25)) (nI (g 26)) (nI (g 27)) (nI (g 28)) (nI (g 29)), eX0 (ad 6) (nI (g 30)) (nI (g 31)) (nI (g 32)) (nI (g 33)) (nI (g 34)), eX0 (ad 7) (nI (g 35)) (nI (g 36)) (nI (g 37)) (nI (g 38)) (nI (g 39)), eX0 hc (nI (g 5)) (nI (g 6)) (nI (g 7)) (nI (g 8)) (nI (g 9))]) (st2 := []) rfl rfl rfl ?_
    refine z_iconst X (pc := 41) (nI 1) dX1_takeLast_41 (by decide) ?_
    exact hR.z dX1_takeLast_42 rfl ⟨some_zb_t (by decide), rfl⟩
  · skip
    refine z_aload_n X (pc := 0) 0 dX1_takeLast_0 rfl ?_
    refine z_get X (pc := 1) 0 1 (.int (nI 3)) tu_1 tw_95 dX1_takeLast_1 rfl rfl (by decide) rfl rfl ?_
    refine z_iconst X (pc := 4) (nI 1) dX1_takeLast_4 (by decide) ?_
    refine z_aload_n X (pc := 5) 0 dX1_takeLast_5 rfl ?_
    refine z_get X (pc := 6) 0 0 (.ref ha) tu_1 tw_94 dX1_takeLast_6 rfl rfl (by decide) rfl rfl ?_
    refine z_alen_q X (pc := 9) 1 dX1_takeLast_9 rfl ?_
    refine zc_SN (as := [.int (nI 3), .int (nI 1), .int (nI 8)]) X (pc := 10) (c_X4_within lq D t (nI 3) (nI 1) (nI 8) ) tw_319 tw_182 tw_1 tw_181 [] rfl rfl dX1_takeLast_10 rfl zdX4_within ⟨rfl, rfl, Nat.le_of_ble_eq_true rfl, Nat.le_of_ble_eq_true rfl⟩ (Nat.le_of_ble_eq_true rfl) (Nat.zero_le _) (Nat.zero_le _) (fun v_16 w_17 hp_18 => ?_)
    obtain ⟨rfl, rfl⟩ := hp_18
    refine ⟨rfl, ?_⟩
    refine z_eq (ws2 := [eX1 h0 ha (nI 3), eQ t ha 8 (fun j => some (ad j)), eX0 (ad 0) (nI (g 0)) (nI (g 1)) (nI (g 2)) (nI (g 3)) (nI (g 4)), eX0 (ad 1) (nI (g 5)) (nI (g 6)) (nI (g 7)) (nI (g 8)) (nI (g 9)), eX0 (ad 2) (nI (g 10)) (nI (g 11)) (nI (g 12)) (nI (g 13)) (nI (g 14)), eX0 (ad 3) (nI (g 15)) (nI (g 16)) (nI (g 17)) (nI (g 18)) (nI (g 19)), eX0 (ad 4) (nI (g 20)) (nI (g 21)) (nI (g 22)) (nI (g 23)) (nI (g 24)), eX0 (ad 5) (nI (g 25)) (nI (g 26)) (nI (g 27)) (nI (g 28)) (nI (g 29)), eX0 (ad 6) (nI (g 30)) (nI (g 31)) (nI (g 32)) (nI (g 33)) (nI (g 34)), eX0 (ad 7) (nI (g 35)) (nI (g 36)) (nI (g 37)) (nI (g 38)) (nI (g 39)), eX0 hc (nI (s 0)) (nI (s 1)) (nI (s 2)) (nI (s 3)) (nI (s 4))]) (st2 := [.int (zb ((nI 1) ≤ (nI 3) ∧ (nI 3) ≤ (nI 8)))]) rfl rfl rfl ?_
    refine z_if_neB X (pc := 13) 18 dX1_takeLast_13 (by decide) (fun c_13 => ?_) (fun c_13 => absurd c_13 (by decide))
    refine z_aload_n X (pc := 18) 0 dX1_takeLast_18 rfl ?_
    refine z_dup X (pc := 19) dX1_takeLast_19 rfl ?_
    refine z_get X (pc := 20) 0 1 (.int (nI 3)) tu_1 tw_95 dX1_takeLast_20 rfl rfl (by decide) rfl rfl ?_
    refine z_iconst X (pc := 23) (nI 1) dX1_takeLast_23 (by decide) ?_
    refine z_isub X (pc := 24) (v := (nI 2)) dX1_takeLast_24 (pk_sub (by omega)) ?_
    refine z_put X (pc := 25) 0 1 [eX1 h0 ha (nI 2), eQ t ha 8 (fun j => some (ad j)), eX0 (ad 0) (nI (g 0)) (nI (g 1)) (nI (g 2)) (nI (g 3)) (nI (g 4)), eX0 (ad 1) (nI (g 5)) (nI (g 6)) (nI (g 7)) (nI (g 8)) (nI (g 9)), eX0 (ad 2) (nI (g 10)) (nI (g 11)) (nI (g 12)) (nI (g 13)) (nI (g 14)), eX0 (ad 3) (nI (g 15)) (nI (g 16)) (nI (g 17)) (nI (g 18)) (nI (g 19)), eX0 (ad 4) (nI (g 20)) (nI (g 21)) (nI (g 22)) (nI (g 23)) (nI (g 24)), eX0 (ad 5) (nI (g 25)) (nI (g 26)) (nI (g 27)) (nI (g 28)) (nI (g 29)), eX0 (ad 6) (nI (g 30)) (nI (g 31)) (nI (g 32)) (nI (g 33)) (nI (g 34)), eX0 (ad 7) (nI (g 35)) (nI (g 36)) (nI (g 37)) (nI (g 38)) (nI (g 39)), eX0 hc (nI (s 0)) (nI (s 1)) (nI (s 2)) (nI (s 3)) (nI (s 4))] tu_1 tyX1_ok nmX1 tw_95 dX1_takeLast_25 rfl rfl (by decide) rfl rfl rfl rfl (Nat.le_of_ble_eq_true rfl) rfl ?_
    refine z_aload_n X (pc := 28) 1 dX1_takeLast_28 rfl ?_
    refine z_aload_n X (pc := 29) 0 dX1_takeLast_29 rfl ?_
    refine z_get X (pc := 30) 0 0 (.ref ha) tu_1 tw_94 dX1_takeLast_30 rfl rfl (by decide) rfl rfl ?_
    refine z_aload_n X (pc := 33) 0 dX1_takeLast_33 rfl ?_
    refine z_get X (pc := 34) 0 1 (.int (nI 2)) tu_1 tw_95 dX1_takeLast_34 rfl rfl (by decide) rfl rfl ?_
    refine z_aald X (pc := 37) 1 2 (ad 2) dX1_takeLast_37 rfl rfl (Nat.le_of_ble_eq_true rfl) (by decide) rfl ?_
    refine zc_V (as := [.ref (ad 2)]) X (pc := 38) (c_X0_copyFrom lq D t hc (ad 2) (nI (s 0)) (nI (s 1)) (nI (s 2)) (nI (s 3)) (nI (s 4)) (nI (g 10)) (nI (g 11)) (nI (g 12)) (nI (g 13)) (nI (g 14)) ) tw_318 tw_270 tw_3 tw_268 tw_269 0 0 rfl rfl [10, 4] rfl rfl dX1_takeLast_38 rfl zdX0_copyFrom ⟨rfl, rfl, Nat.le_of_ble_eq_true rfl, Nat.le_of_ble_eq_true rfl⟩ (Nat.le_of_ble_eq_true rfl) (Nat.zero_le _) (Nat.zero_le _) (fun v_19 w_20 hp_21 => ?_)
    obtain ⟨rfl, rfl⟩ := hp_21
    refine ⟨rfl, ?_⟩
    refine z_eq (ws2 := [eX1 h0 ha (nI 2), eQ t ha 8 (fun j => some (ad j)), eX0 (ad 0) (nI (g 0)) (nI (g 1)) (nI (g 2)) (nI (g 3)) (nI (g 4)), eX0 (ad 1) (nI (g 5)) (nI (g 6)) (nI (g 7)) (nI (g 8)) (nI (g 9)), eX0 (ad 2) (nI (g 10)) (nI (g 11)) (nI (g 12)) (nI (g 13)) (nI (g 14)), eX0 (ad 3) (nI (g 15)) (nI (g 16)) (nI (g 17)) (nI (g 18)) (nI (g 19)), eX0 (ad 4) (nI (g 20)) (nI (g 21)) (nI (g 22)) (nI (g 23)) (nI (g 24)), eX0 (ad 5) (nI (g 25)) (nI (g 26)) (nI (g 27)) (nI (g 28)) (nI (g 29)), eX0 (ad 6) (nI (g 30)) (nI (g 31)) (nI (g 32)) (nI (g 33)) (nI (g 34)), eX0 (ad 7) (nI (g 35)) (nI (g 36)) (nI (g 37)) (nI (g 38)) (nI (g 39)), eX0 hc (nI (g 10)) (nI (g 11)) (nI (g 12)) (nI (g 13)) (nI (g 14))]) (st2 := []) rfl rfl rfl ?_
    refine z_iconst X (pc := 41) (nI 1) dX1_takeLast_41 (by decide) ?_
    exact hR.z dX1_takeLast_42 rfl ⟨some_zb_t (by decide), rfl⟩
  · skip
    refine z_aload_n X (pc := 0) 0 dX1_takeLast_0 rfl ?_
    refine z_get X (pc := 1) 0 1 (.int (nI 4)) tu_1 tw_95 dX1_takeLast_1 rfl rfl (by decide) rfl rfl ?_
    refine z_iconst X (pc := 4) (nI 1) dX1_takeLast_4 (by decide) ?_
    refine z_aload_n X (pc := 5) 0 dX1_takeLast_5 rfl ?_
    refine z_get X (pc := 6) 0 0 (.ref ha) tu_1 tw_94 dX1_takeLast_6 rfl rfl (by decide) rfl rfl ?_
    refine z_alen_q X (pc := 9) 1 dX1_takeLast_9 rfl ?_
    refine zc_SN (as := [.int (nI 4), .int (nI 1), .int (nI 8)]) X (pc := 10) (c_X4_within lq D t (nI 4) (nI 1) (nI 8) ) tw_319 tw_182 tw_1 tw_181 [] rfl rfl dX1_takeLast_10 rfl zdX4_within ⟨rfl, rfl, Nat.le_of_ble_eq_true rfl, Nat.le_of_ble_eq_true rfl⟩ (Nat.le_of_ble_eq_true rfl) (Nat.zero_le _) (Nat.zero_le _) (fun v_22 w_23 hp_24 => ?_)
    obtain ⟨rfl, rfl⟩ := hp_24
    refine ⟨rfl, ?_⟩
    refine z_eq (ws2 := [eX1 h0 ha (nI 4), eQ t ha 8 (fun j => some (ad j)), eX0 (ad 0) (nI (g 0)) (nI (g 1)) (nI (g 2)) (nI (g 3)) (nI (g 4)), eX0 (ad 1) (nI (g 5)) (nI (g 6)) (nI (g 7)) (nI (g 8)) (nI (g 9)), eX0 (ad 2) (nI (g 10)) (nI (g 11)) (nI (g 12)) (nI (g 13)) (nI (g 14)), eX0 (ad 3) (nI (g 15)) (nI (g 16)) (nI (g 17)) (nI (g 18)) (nI (g 19)), eX0 (ad 4) (nI (g 20)) (nI (g 21)) (nI (g 22)) (nI (g 23)) (nI (g 24)), eX0 (ad 5) (nI (g 25)) (nI (g 26)) (nI (g 27)) (nI (g 28)) (nI (g 29)), eX0 (ad 6) (nI (g 30)) (nI (g 31)) (nI (g 32)) (nI (g 33)) (nI (g 34)), eX0 (ad 7) (nI (g 35)) (nI (g 36)) (nI (g 37)) (nI (g 38)) (nI (g 39)), eX0 hc (nI (s 0)) (nI (s 1)) (nI (s 2)) (nI (s 3)) (nI (s 4))]) (st2 := [.int (zb ((nI 1) ≤ (nI 4) ∧ (nI 4) ≤ (nI 8)))]) rfl rfl rfl ?_
    refine z_if_neB X (pc := 13) 18 dX1_takeLast_13 (by decide) (fun c_13 => ?_) (fun c_13 => absurd c_13 (by decide))
    refine z_aload_n X (pc := 18) 0 dX1_takeLast_18 rfl ?_
    refine z_dup X (pc := 19) dX1_takeLast_19 rfl ?_
    refine z_get X (pc := 20) 0 1 (.int (nI 4)) tu_1 tw_95 dX1_takeLast_20 rfl rfl (by decide) rfl rfl ?_
    refine z_iconst X (pc := 23) (nI 1) dX1_takeLast_23 (by decide) ?_
    refine z_isub X (pc := 24) (v := (nI 3)) dX1_takeLast_24 (pk_sub (by omega)) ?_
    refine z_put X (pc := 25) 0 1 [eX1 h0 ha (nI 3), eQ t ha 8 (fun j => some (ad j)), eX0 (ad 0) (nI (g 0)) (nI (g 1)) (nI (g 2)) (nI (g 3)) (nI (g 4)), eX0 (ad 1) (nI (g 5)) (nI (g 6)) (nI (g 7)) (nI (g 8)) (nI (g 9)), eX0 (ad 2) (nI (g 10)) (nI (g 11)) (nI (g 12)) (nI (g 13)) (nI (g 14)), eX0 (ad 3) (nI (g 15)) (nI (g 16)) (nI (g 17)) (nI (g 18)) (nI (g 19)), eX0 (ad 4) (nI (g 20)) (nI (g 21)) (nI (g 22)) (nI (g 23)) (nI (g 24)), eX0 (ad 5) (nI (g 25)) (nI (g 26)) (nI (g 27)) (nI (g 28)) (nI (g 29)), eX0 (ad 6) (nI (g 30)) (nI (g 31)) (nI (g 32)) (nI (g 33)) (nI (g 34)), eX0 (ad 7) (nI (g 35)) (nI (g 36)) (nI (g 37)) (nI (g 38)) (nI (g 39)), eX0 hc (nI (s 0)) (nI (s 1)) (nI (s 2)) (nI (s 3)) (nI (s 4))] tu_1 tyX1_ok nmX1 tw_95 dX1_takeLast_25 rfl rfl (by decide) rfl rfl rfl rfl (Nat.le_of_ble_eq_true rfl) rfl ?_
    refine z_aload_n X (pc := 28) 1 dX1_takeLast_28 rfl ?_
    refine z_aload_n X (pc := 29) 0 dX1_takeLast_29 rfl ?_
    refine z_get X (pc := 30) 0 0 (.ref ha) tu_1 tw_94 dX1_takeLast_30 rfl rfl (by decide) rfl rfl ?_
    refine z_aload_n X (pc := 33) 0 dX1_takeLast_33 rfl ?_
    refine z_get X (pc := 34) 0 1 (.int (nI 3)) tu_1 tw_95 dX1_takeLast_34 rfl rfl (by decide) rfl rfl ?_
    refine z_aald X (pc := 37) 1 3 (ad 3) dX1_takeLast_37 rfl rfl (Nat.le_of_ble_eq_true rfl) (by decide) rfl ?_
    refine zc_V (as := [.ref (ad 3)]) X (pc := 38) (c_X0_copyFrom lq D t hc (ad 3) (nI (s 0)) (nI (s 1)) (nI (s 2)) (nI (s 3)) (nI (s 4)) (nI (g 15)) (nI (g 16)) (nI (g 17)) (nI (g 18)) (nI (g 19)) ) tw_318 tw_270 tw_3 tw_268 tw_269 0 0 rfl rfl [10, 5] rfl rfl dX1_takeLast_38 rfl zdX0_copyFrom ⟨rfl, rfl, Nat.le_of_ble_eq_true rfl, Nat.le_of_ble_eq_true rfl⟩ (Nat.le_of_ble_eq_true rfl) (Nat.zero_le _) (Nat.zero_le _) (fun v_25 w_26 hp_27 => ?_)
    obtain ⟨rfl, rfl⟩ := hp_27
    refine ⟨rfl, ?_⟩
    refine z_eq (ws2 := [eX1 h0 ha (nI 3), eQ t ha 8 (fun j => some (ad j)), eX0 (ad 0) (nI (g 0)) (nI (g 1)) (nI (g 2)) (nI (g 3)) (nI (g 4)), eX0 (ad 1) (nI (g 5)) (nI (g 6)) (nI (g 7)) (nI (g 8)) (nI (g 9)), eX0 (ad 2) (nI (g 10)) (nI (g 11)) (nI (g 12)) (nI (g 13)) (nI (g 14)), eX0 (ad 3) (nI (g 15)) (nI (g 16)) (nI (g 17)) (nI (g 18)) (nI (g 19)), eX0 (ad 4) (nI (g 20)) (nI (g 21)) (nI (g 22)) (nI (g 23)) (nI (g 24)), eX0 (ad 5) (nI (g 25)) (nI (g 26)) (nI (g 27)) (nI (g 28)) (nI (g 29)), eX0 (ad 6) (nI (g 30)) (nI (g 31)) (nI (g 32)) (nI (g 33)) (nI (g 34)), eX0 (ad 7) (nI (g 35)) (nI (g 36)) (nI (g 37)) (nI (g 38)) (nI (g 39)), eX0 hc (nI (g 15)) (nI (g 16)) (nI (g 17)) (nI (g 18)) (nI (g 19))]) (st2 := []) rfl rfl rfl ?_
    refine z_iconst X (pc := 41) (nI 1) dX1_takeLast_41 (by decide) ?_
    exact hR.z dX1_takeLast_42 rfl ⟨some_zb_t (by decide), rfl⟩
  · skip
    refine z_aload_n X (pc := 0) 0 dX1_takeLast_0 rfl ?_
    refine z_get X (pc := 1) 0 1 (.int (nI 5)) tu_1 tw_95 dX1_takeLast_1 rfl rfl (by decide) rfl rfl ?_
    refine z_iconst X (pc := 4) (nI 1) dX1_takeLast_4 (by decide) ?_
    refine z_aload_n X (pc := 5) 0 dX1_takeLast_5 rfl ?_
    refine z_get X (pc := 6) 0 0 (.ref ha) tu_1 tw_94 dX1_takeLast_6 rfl rfl (by decide) rfl rfl ?_
    refine z_alen_q X (pc := 9) 1 dX1_takeLast_9 rfl ?_
    refine zc_SN (as := [.int (nI 5), .int (nI 1), .int (nI 8)]) X (pc := 10) (c_X4_within lq D t (nI 5) (nI 1) (nI 8) ) tw_319 tw_182 tw_1 tw_181 [] rfl rfl dX1_takeLast_10 rfl zdX4_within ⟨rfl, rfl, Nat.le_of_ble_eq_true rfl, Nat.le_of_ble_eq_true rfl⟩ (Nat.le_of_ble_eq_true rfl) (Nat.zero_le _) (Nat.zero_le _) (fun v_28 w_29 hp_30 => ?_)
    obtain ⟨rfl, rfl⟩ := hp_30
    refine ⟨rfl, ?_⟩
    refine z_eq (ws2 := [eX1 h0 ha (nI 5), eQ t ha 8 (fun j => some (ad j)), eX0 (ad 0) (nI (g 0)) (nI (g 1)) (nI (g 2)) (nI (g 3)) (nI (g 4)), eX0 (ad 1) (nI (g 5)) (nI (g 6)) (nI (g 7)) (nI (g 8)) (nI (g 9)), eX0 (ad 2) (nI (g 10)) (nI (g 11)) (nI (g 12)) (nI (g 13)) (nI (g 14)), eX0 (ad 3) (nI (g 15)) (nI (g 16)) (nI (g 17)) (nI (g 18)) (nI (g 19)), eX0 (ad 4) (nI (g 20)) (nI (g 21)) (nI (g 22)) (nI (g 23)) (nI (g 24)), eX0 (ad 5) (nI (g 25)) (nI (g 26)) (nI (g 27)) (nI (g 28)) (nI (g 29)), eX0 (ad 6) (nI (g 30)) (nI (g 31)) (nI (g 32)) (nI (g 33)) (nI (g 34)), eX0 (ad 7) (nI (g 35)) (nI (g 36)) (nI (g 37)) (nI (g 38)) (nI (g 39)), eX0 hc (nI (s 0)) (nI (s 1)) (nI (s 2)) (nI (s 3)) (nI (s 4))]) (st2 := [.int (zb ((nI 1) ≤ (nI 5) ∧ (nI 5) ≤ (nI 8)))]) rfl rfl rfl ?_
    refine z_if_neB X (pc := 13) 18 dX1_takeLast_13 (by decide) (fun c_13 => ?_) (fun c_13 => absurd c_13 (by decide))
    refine z_aload_n X (pc := 18) 0 dX1_takeLast_18 rfl ?_
    refine z_dup X (pc := 19) dX1_takeLast_19 rfl ?_
    refine z_get X (pc := 20) 0 1 (.int (nI 5)) tu_1 tw_95 dX1_takeLast_20 rfl rfl (by decide) rfl rfl ?_
    refine z_iconst X (pc := 23) (nI 1) dX1_takeLast_23 (by decide) ?_
    refine z_isub X (pc := 24) (v := (nI 4)) dX1_takeLast_24 (pk_sub (by omega)) ?_
    refine z_put X (pc := 25) 0 1 [eX1 h0 ha (nI 4), eQ t ha 8 (fun j => some (ad j)), eX0 (ad 0) (nI (g 0)) (nI (g 1)) (nI (g 2)) (nI (g 3)) (nI (g 4)), eX0 (ad 1) (nI (g 5)) (nI (g 6)) (nI (g 7)) (nI (g 8)) (nI (g 9)), eX0 (ad 2) (nI (g 10)) (nI (g 11)) (nI (g 12)) (nI (g 13)) (nI (g 14)), eX0 (ad 3) (nI (g 15)) (nI (g 16)) (nI (g 17)) (nI (g 18)) (nI (g 19)), eX0 (ad 4) (nI (g 20)) (nI (g 21)) (nI (g 22)) (nI (g 23)) (nI (g 24)), eX0 (ad 5) (nI (g 25)) (nI (g 26)) (nI (g 27)) (nI (g 28)) (nI (g 29)), eX0 (ad 6) (nI (g 30)) (nI (g 31)) (nI (g 32)) (nI (g 33)) (nI (g 34)), eX0 (ad 7) (nI (g 35)) (nI (g 36)) (nI (g 37)) (nI (g 38)) (nI (g 39)), eX0 hc (nI (s 0)) (nI (s 1)) (nI (s 2)) (nI (s 3)) (nI (s 4))] tu_1 tyX1_ok nmX1 tw_95 dX1_takeLast_25 rfl rfl (by decide) rfl rfl rfl rfl (Nat.le_of_ble_eq_true rfl) rfl ?_
    refine z_aload_n X (pc := 28) 1 dX1_takeLast_28 rfl ?_
    refine z_aload_n X (pc := 29) 0 dX1_takeLast_29 rfl ?_
    refine z_get X (pc := 30) 0 0 (.ref ha) tu_1 tw_94 dX1_takeLast_30 rfl rfl (by decide) rfl rfl ?_
    refine z_aload_n X (pc := 33) 0 dX1_takeLast_33 rfl ?_
    refine z_get X (pc := 34) 0 1 (.int (nI 4)) tu_1 tw_95 dX1_takeLast_34 rfl rfl (by decide) rfl rfl ?_
    refine z_aald X (pc := 37) 1 4 (ad 4) dX1_takeLast_37 rfl rfl (Nat.le_of_ble_eq_true rfl) (by decide) rfl ?_
    refine zc_V (as := [.ref (ad 4)]) X (pc := 38) (c_X0_copyFrom lq D t hc (ad 4) (nI (s 0)) (nI (s 1)) (nI (s 2)) (nI (s 3)) (nI (s 4)) (nI (g 20)) (nI (g 21)) (nI (g 22)) (nI (g 23)) (nI (g 24)) ) tw_318 tw_270 tw_3 tw_268 tw_269 0 0 rfl rfl [10, 6] rfl rfl dX1_takeLast_38 rfl zdX0_copyFrom ⟨rfl, rfl, Nat.le_of_ble_eq_true rfl, Nat.le_of_ble_eq_true rfl⟩ (Nat.le_of_ble_eq_true rfl) (Nat.zero_le _) (Nat.zero_le _) (fun v_31 w_32 hp_33 => ?_)
    obtain ⟨rfl, rfl⟩ := hp_33
    refine ⟨rfl, ?_⟩
    refine z_eq (ws2 := [eX1 h0 ha (nI 4), eQ t ha 8 (fun j => some (ad j)), eX0 (ad 0) (nI (g 0)) (nI (g 1)) (nI (g 2)) (nI (g 3)) (nI (g 4)), eX0 (ad 1) (nI (g 5)) (nI (g 6)) (nI (g 7)) (nI (g 8)) (nI (g 9)), eX0 (ad 2) (nI (g 10)) (nI (g 11)) (nI (g 12)) (nI (g 13)) (nI (g 14)), eX0 (ad 3) (nI (g 15)) (nI (g 16)) (nI (g 17)) (nI (g 18)) (nI (g 19)), eX0 (ad 4) (nI (g 20)) (nI (g 21)) (nI (g 22)) (nI (g 23)) (nI (g 24)), eX0 (ad 5) (nI (g 25)) (nI (g 26)) (nI (g 27)) (nI (g 28)) (nI (g 29)), eX0 (ad 6) (nI (g 30)) (nI (g 31)) (nI (g 32)) (nI (g 33)) (nI (g 34)), eX0 (ad 7) (nI (g 35)) (nI (g 36)) (nI (g 37)) (nI (g 38)) (nI (g 39)), eX0 hc (nI (g 20)) (nI (g 21)) (nI (g 22)) (nI (g 23)) (nI (g 24))]) (st2 := []) rfl rfl rfl ?_
    refine z_iconst X (pc := 41) (nI 1) dX1_takeLast_41 (by decide) ?_
    exact hR.z dX1_takeLast_42 rfl ⟨some_zb_t (by decide), rfl⟩
  · skip
    refine z_aload_n X (pc := 0) 0 dX1_takeLast_0 rfl ?_
    refine z_get X (pc := 1) 0 1 (.int (nI 6)) tu_1 tw_95 dX1_takeLast_1 rfl rfl (by decide) rfl rfl ?_
    refine z_iconst X (pc := 4) (nI 1) dX1_takeLast_4 (by decide) ?_
    refine z_aload_n X (pc := 5) 0 dX1_takeLast_5 rfl ?_
    refine z_get X (pc := 6) 0 0 (.ref ha) tu_1 tw_94 dX1_takeLast_6 rfl rfl (by decide) rfl rfl ?_
    refine z_alen_q X (pc := 9) 1 dX1_takeLast_9 rfl ?_
    refine zc_SN (as := [.int (nI 6), .int (nI 1), .int (nI 8)]) X (pc := 10) (c_X4_within lq D t (nI 6) (nI 1) (nI 8) ) tw_319 tw_182 tw_1 tw_181 [] rfl rfl dX1_takeLast_10 rfl zdX4_within ⟨rfl, rfl, Nat.le_of_ble_eq_true rfl, Nat.le_of_ble_eq_true rfl⟩ (Nat.le_of_ble_eq_true rfl) (Nat.zero_le _) (Nat.zero_le _) (fun v_34 w_35 hp_36 => ?_)
    obtain ⟨rfl, rfl⟩ := hp_36
    refine ⟨rfl, ?_⟩
    refine z_eq (ws2 := [eX1 h0 ha (nI 6), eQ t ha 8 (fun j => some (ad j)), eX0 (ad 0) (nI (g 0)) (nI (g 1)) (nI (g 2)) (nI (g 3)) (nI (g 4)), eX0 (ad 1) (nI (g 5)) (nI (g 6)) (nI (g 7)) (nI (g 8)) (nI (g 9)), eX0 (ad 2) (nI (g 10)) (nI (g 11)) (nI (g 12)) (nI (g 13)) (nI (g 14)), eX0 (ad 3) (nI (g 15)) (nI (g 16)) (nI (g 17)) (nI (g 18)) (nI (g 19)), eX0 (ad 4) (nI (g 20)) (nI (g 21)) (nI (g 22)) (nI (g 23)) (nI (g 24)), eX0 (ad 5) (nI (g 25)) (nI (g 26)) (nI (g 27)) (nI (g 28)) (nI (g 29)), eX0 (ad 6) (nI (g 30)) (nI (g 31)) (nI (g 32)) (nI (g 33)) (nI (g 34)), eX0 (ad 7) (nI (g 35)) (nI (g 36)) (nI (g 37)) (nI (g 38)) (nI (g 39)), eX0 hc (nI (s 0)) (nI (s 1)) (nI (s 2)) (nI (s 3)) (nI (s 4))]) (st2 := [.int (zb ((nI 1) ≤ (nI 6) ∧ (nI 6) ≤ (nI 8)))]) rfl rfl rfl ?_
    refine z_if_neB X (pc := 13) 18 dX1_takeLast_13 (by decide) (fun c_13 => ?_) (fun c_13 => absurd c_13 (by decide))
    refine z_aload_n X (pc := 18) 0 dX1_takeLast_18 rfl ?_
    refine z_dup X (pc := 19) dX1_takeLast_19 rfl ?_
    refine z_get X (pc := 20) 0 1 (.int (nI 6)) tu_1 tw_95 dX1_takeLast_20 rfl rfl (by decide) rfl rfl ?_
    refine z_iconst X (pc := 23) (nI 1) dX1_takeLast_23 (by decide) ?_
    refine z_isub X (pc := 24) (v := (nI 5)) dX1_takeLast_24 (pk_sub (by omega)) ?_
    refine z_put X (pc := 25) 0 1 [eX1 h0 ha (nI 5), eQ t ha 8 (fun j => some (ad j)), eX0 (ad 0) (nI (g 0)) (nI (g 1)) (nI (g 2)) (nI (g 3)) (nI (g 4)), eX0 (ad 1) (nI (g 5)) (nI (g 6)) (nI (g 7)) (nI (g 8)) (nI (g 9)), eX0 (ad 2) (nI (g 10)) (nI (g 11)) (nI (g 12)) (nI (g 13)) (nI (g 14)), eX0 (ad 3) (nI (g 15)) (nI (g 16)) (nI (g 17)) (nI (g 18)) (nI (g 19)), eX0 (ad 4) (nI (g 20)) (nI (g 21)) (nI (g 22)) (nI (g 23)) (nI (g 24)), eX0 (ad 5) (nI (g 25)) (nI (g 26)) (nI (g 27)) (nI (g 28)) (nI (g 29)), eX0 (ad 6) (nI (g 30)) (nI (g 31)) (nI (g 32)) (nI (g 33)) (nI (g 34)), eX0 (ad 7) (nI (g 35)) (nI (g 36)) (nI (g 37)) (nI (g 38)) (nI (g 39)), eX0 hc (nI (s 0)) (nI (s 1)) (nI (s 2)) (nI (s 3)) (nI (s 4))] tu_1 tyX1_ok nmX1 tw_95 dX1_takeLast_25 rfl rfl (by decide) rfl rfl rfl rfl (Nat.le_of_ble_eq_true rfl) rfl ?_
    refine z_aload_n X (pc := 28) 1 dX1_takeLast_28 rfl ?_
    refine z_aload_n X (pc := 29) 0 dX1_takeLast_29 rfl ?_
    refine z_get X (pc := 30) 0 0 (.ref ha) tu_1 tw_94 dX1_takeLast_30 rfl rfl (by decide) rfl rfl ?_
    refine z_aload_n X (pc := 33) 0 dX1_takeLast_33 rfl ?_
    refine z_get X (pc := 34) 0 1 (.int (nI 5)) tu_1 tw_95 dX1_takeLast_34 rfl rfl (by decide) rfl rfl ?_
    refine z_aald X (pc := 37) 1 5 (ad 5) dX1_takeLast_37 rfl rfl (Nat.le_of_ble_eq_true rfl) (by decide) rfl ?_
    refine zc_V (as := [.ref (ad 5)]) X (pc := 38) (c_X0_copyFrom lq D t hc (ad 5) (nI (s 0)) (nI (s 1)) (nI (s 2)) (nI (s 3)) (nI (s 4)) (nI (g 25)) (nI (g 26)) (nI (g 27)) (nI (g 28)) (nI (g 29)) ) tw_318 tw_270 tw_3 tw_268 tw_269 0 0 rfl rfl [10, 7] rfl rfl dX1_takeLast_38 rfl zdX0_copyFrom ⟨rfl, rfl, Nat.le_of_ble_eq_true rfl, Nat.le_of_ble_eq_true rfl⟩ (Nat.le_of_ble_eq_true rfl) (Nat.zero_le _) (Nat.zero_le _) (fun v_37 w_38 hp_39 => ?_)
    obtain ⟨rfl, rfl⟩ := hp_39
    refine ⟨rfl, ?_⟩
    refine z_eq (ws2 := [eX1 h0 ha (nI 5), eQ t ha 8 (fun j => some (ad j)), eX0 (ad 0) (nI (g 0)) (nI (g 1)) (nI (g 2)) (nI (g 3)) (nI (g 4)), eX0 (ad 1) (nI (g 5)) (nI (g 6)) (nI (g 7)) (nI (g 8)) (nI (g 9)), eX0 (ad 2) (nI (g 10)) (nI (g 11)) (nI (g 12)) (nI (g 13)) (nI (g 14)), eX0 (ad 3) (nI (g 15)) (nI (g 16)) (nI (g 17)) (nI (g 18)) (nI (g 19)), eX0 (ad 4) (nI (g 20)) (nI (g 21)) (nI (g 22)) (nI (g 23)) (nI (g 24)), eX0 (ad 5) (nI (g 25)) (nI (g 26)) (nI (g 27)) (nI (g 28)) (nI (g 29)), eX0 (ad 6) (nI (g 30)) (nI (g 31)) (nI (g 32)) (nI (g 33)) (nI (g 34)), eX0 (ad 7) (nI (g 35)) (nI (g 36)) (nI (g 37)) (nI (g 38)) (nI (g 39)), eX0 hc (nI (g 25)) (nI (g 26)) (nI (g 27)) (nI (g 28)) (nI (g 29))]) (st2 := []) rfl rfl rfl ?_
    refine z_iconst X (pc := 41) (nI 1) dX1_takeLast_41 (by decide) ?_
    exact hR.z dX1_takeLast_42 rfl ⟨some_zb_t (by decide), rfl⟩
  · skip
    refine z_aload_n X (pc := 0) 0 dX1_takeLast_0 rfl ?_
    refine z_get X (pc := 1) 0 1 (.int (nI 7)) tu_1 tw_95 dX1_takeLast_1 rfl rfl (by decide) rfl rfl ?_
    refine z_iconst X (pc := 4) (nI 1) dX1_takeLast_4 (by decide) ?_
    refine z_aload_n X (pc := 5) 0 dX1_takeLast_5 rfl ?_
    refine z_get X (pc := 6) 0 0 (.ref ha) tu_1 tw_94 dX1_takeLast_6 rfl rfl (by decide) rfl rfl ?_
    refine z_alen_q X (pc := 9) 1 dX1_takeLast_9 rfl ?_
    refine zc_SN (as := [.int (nI 7), .int (nI 1), .int (nI 8)]) X (pc := 10) (c_X4_within lq D t (nI 7) (nI 1) (nI 8) ) tw_319 tw_182 tw_1 tw_181 [] rfl rfl dX1_takeLast_10 rfl zdX4_within ⟨rfl, rfl, Nat.le_of_ble_eq_true rfl, Nat.le_of_ble_eq_true rfl⟩ (Nat.le_of_ble_eq_true rfl) (Nat.zero_le _) (Nat.zero_le _) (fun v_40 w_41 hp_42 => ?_)
    obtain ⟨rfl, rfl⟩ := hp_42
    refine ⟨rfl, ?_⟩
    refine z_eq (ws2 := [eX1 h0 ha (nI 7), eQ t ha 8 (fun j => some (ad j)), eX0 (ad 0) (nI (g 0)) (nI (g 1)) (nI (g 2)) (nI (g 3)) (nI (g 4)), eX0 (ad 1) (nI (g 5)) (nI (g 6)) (nI (g 7)) (nI (g 8)) (nI (g 9)), eX0 (ad 2) (nI (g 10)) (nI (g 11)) (nI (g 12)) (nI (g 13)) (nI (g 14)), eX0 (ad 3) (nI (g 15)) (nI (g 16)) (nI (g 17)) (nI (g 18)) (nI (g 19)), eX0 (ad 4) (nI (g 20)) (nI (g 21)) (nI (g 22)) (nI (g 23)) (nI (g 24)), eX0 (ad 5) (nI (g 25)) (nI (g 26)) (nI (g 27)) (nI (g 28)) (nI (g 29)), eX0 (ad 6) (nI (g 30)) (nI (g 31)) (nI (g 32)) (nI (g 33)) (nI (g 34)), eX0 (ad 7) (nI (g 35)) (nI (g 36)) (nI (g 37)) (nI (g 38)) (nI (g 39)), eX0 hc (nI (s 0)) (nI (s 1)) (nI (s 2)) (nI (s 3)) (nI (s 4))]) (st2 := [.int (zb ((nI 1) ≤ (nI 7) ∧ (nI 7) ≤ (nI 8)))]) rfl rfl rfl ?_
    refine z_if_neB X (pc := 13) 18 dX1_takeLast_13 (by decide) (fun c_13 => ?_) (fun c_13 => absurd c_13 (by decide))
    refine z_aload_n X (pc := 18) 0 dX1_takeLast_18 rfl ?_
    refine z_dup X (pc := 19) dX1_takeLast_19 rfl ?_
    refine z_get X (pc := 20) 0 1 (.int (nI 7)) tu_1 tw_95 dX1_takeLast_20 rfl rfl (by decide) rfl rfl ?_
    refine z_iconst X (pc := 23) (nI 1) dX1_takeLast_23 (by decide) ?_
    refine z_isub X (pc := 24) (v := (nI 6)) dX1_takeLast_24 (pk_sub (by omega)) ?_
    refine z_put X (pc := 25) 0 1 [eX1 h0 ha (nI 6), eQ t ha 8 (fun j => some (ad j)), eX0 (ad 0) (nI (g 0)) (nI (g 1)) (nI (g 2)) (nI (g 3)) (nI (g 4)), eX0 (ad 1) (nI (g 5)) (nI (g 6)) (nI (g 7)) (nI (g 8)) (nI (g 9)), eX0 (ad 2) (nI (g 10)) (nI (g 11)) (nI (g 12)) (nI (g 13)) (nI (g 14)), eX0 (ad 3) (nI (g 15)) (nI (g 16)) (nI (g 17)) (nI (g 18)) (nI (g 19)), eX0 (ad 4) (nI (g 20)) (nI (g 21)) (nI (g 22)) (nI (g 23)) (nI (g 24)), eX0 (ad 5) (nI (g 25)) (nI (g 26)) (nI (g 27)) (nI (g 28)) (nI (g 29)), eX0 (ad 6) (nI (g 30)) (nI (g 31)) (nI (g 32)) (nI (g 33)) (nI (g 34)), eX0 (ad 7) (nI (g 35)) (nI (g 36)) (nI (g 37)) (nI (g 38)) (nI (g 39)), eX0 hc (nI (s 0)) (nI (s 1)) (nI (s 2)) (nI (s 3)) (nI (s 4))] tu_1 tyX1_ok nmX1 tw_95 dX1_takeLast_25 rfl rfl (by decide) rfl rfl rfl rfl (Nat.le_of_ble_eq_true rfl) rfl ?_
    refine z_aload_n X (pc := 28) 1 dX1_takeLast_28 rfl ?_
    refine z_aload_n X (pc := 29) 0 dX1_takeLast_29 rfl ?_
    refine z_get X (pc := 30) 0 0 (.ref ha) tu_1 tw_94 dX1_takeLast_30 rfl rfl (by decide) rfl rfl ?_
    refine z_aload_n X (pc := 33) 0 dX1_takeLast_33 rfl ?_
    refine z_get X (pc := 34) 0 1 (.int (nI 6)) tu_1 tw_95 dX1_takeLast_34 rfl rfl (by decide) rfl rfl ?_
    refine z_aald X (pc := 37) 1 6 (ad 6) dX1_takeLast_37 rfl rfl (Nat.le_of_ble_eq_true rfl) (by decide) rfl ?_
    refine zc_V (as := [.ref (ad 6)]) X (pc := 38) (c_X0_copyFrom lq D t hc (ad 6) (nI (s 0)) (nI (s 1)) (nI (s 2)) (nI (s 3)) (nI (s 4)) (nI (g 30)) (nI (g 31)) (nI (g 32)) (nI (g 33)) (nI (g 34)) ) tw_318 tw_270 tw_3 tw_268 tw_269 0 0 rfl rfl [10, 8] rfl rfl dX1_takeLast_38 rfl zdX0_copyFrom ⟨rfl, rfl, Nat.le_of_ble_eq_true rfl, Nat.le_of_ble_eq_true rfl⟩ (Nat.le_of_ble_eq_true rfl) (Nat.zero_le _) (Nat.zero_le _) (fun v_43 w_44 hp_45 => ?_)
    obtain ⟨rfl, rfl⟩ := hp_45
    refine ⟨rfl, ?_⟩
    refine z_eq (ws2 := [eX1 h0 ha (nI 6), eQ t ha 8 (fun j => some (ad j)), eX0 (ad 0) (nI (g 0)) (nI (g 1)) (nI (g 2)) (nI (g 3)) (nI (g 4)), eX0 (ad 1) (nI (g 5)) (nI (g 6)) (nI (g 7)) (nI (g 8)) (nI (g 9)), eX0 (ad 2) (nI (g 10)) (nI (g 11)) (nI (g 12)) (nI (g 13)) (nI (g 14)), eX0 (ad 3) (nI (g 15)) (nI (g 16)) (nI (g 17)) (nI (g 18)) (nI (g 19)), eX0 (ad 4) (nI (g 20)) (nI (g 21)) (nI (g 22)) (nI (g 23)) (nI (g 24)), eX0 (ad 5) (nI (g 25)) (nI (g 26)) (nI (g 27)) (nI (g 28)) (nI (g 29)), eX0 (ad 6) (nI (g 30)) (nI (g 31)) (nI (g 32)) (nI (g 33)) (nI (g 34)), eX0 (ad 7) (nI (g 35)) (nI (g 36)) (nI (g 37)) (nI (g 38)) (nI (g 39)), eX0 hc (nI (g 30)) (nI (g 31)) (nI (g 32)) (nI (g 33)) (nI (g 34))]) (st2 := []) rfl rfl rfl ?_
    refine z_iconst X (pc := 41) (nI 1) dX1_takeLast_41 (by decide) ?_
    exact hR.z dX1_takeLast_42 rfl ⟨some_zb_t (by decide), rfl⟩
  · skip
    refine z_aload_n X (pc := 0) 0 dX1_takeLast_0 rfl ?_
    refine z_get X (pc := 1) 0 1 (.int (nI 8)) tu_1 tw_95 dX1_takeLast_1 rfl rfl (by decide) rfl rfl ?_
    refine z_iconst X (pc := 4) (nI 1) dX1_takeLast_4 (by decide) ?_
    refine z_aload_n X (pc := 5) 0 dX1_takeLast_5 rfl ?_
    refine z_get X (pc := 6) 0 0 (.ref ha) tu_1 tw_94 dX1_takeLast_6 rfl rfl (by decide) rfl rfl ?_
    refine z_alen_q X (pc := 9) 1 dX1_takeLast_9 rfl ?_
    refine zc_SN (as := [.int (nI 8), .int (nI 1), .int (nI 8)]) X (pc := 10) (c_X4_within lq D t (nI 8) (nI 1) (nI 8) ) tw_319 tw_182 tw_1 tw_181 [] rfl rfl dX1_takeLast_10 rfl zdX4_within ⟨rfl, rfl, Nat.le_of_ble_eq_true rfl, Nat.le_of_ble_eq_true rfl⟩ (Nat.le_of_ble_eq_true rfl) (Nat.zero_le _) (Nat.zero_le _) (fun v_46 w_47 hp_48 => ?_)
    obtain ⟨rfl, rfl⟩ := hp_48
    refine ⟨rfl, ?_⟩
    refine z_eq (ws2 := [eX1 h0 ha (nI 8), eQ t ha 8 (fun j => some (ad j)), eX0 (ad 0) (nI (g 0)) (nI (g 1)) (nI (g 2)) (nI (g 3)) (nI (g 4)), eX0 (ad 1) (nI (g 5)) (nI (g 6)) (nI (g 7)) (nI (g 8)) (nI (g 9)), eX0 (ad 2) (nI (g 10)) (nI (g 11)) (nI (g 12)) (nI (g 13)) (nI (g 14)), eX0 (ad 3) (nI (g 15)) (nI (g 16)) (nI (g 17)) (nI (g 18)) (nI (g 19)), eX0 (ad 4) (nI (g 20)) (nI (g 21)) (nI (g 22)) (nI (g 23)) (nI (g 24)), eX0 (ad 5) (nI (g 25)) (nI (g 26)) (nI (g 27)) (nI (g 28)) (nI (g 29)), eX0 (ad 6) (nI (g 30)) (nI (g 31)) (nI (g 32)) (nI (g 33)) (nI (g 34)), eX0 (ad 7) (nI (g 35)) (nI (g 36)) (nI (g 37)) (nI (g 38)) (nI (g 39)), eX0 hc (nI (s 0)) (nI (s 1)) (nI (s 2)) (nI (s 3)) (nI (s 4))]) (st2 := [.int (zb ((nI 1) ≤ (nI 8) ∧ (nI 8) ≤ (nI 8)))]) rfl rfl rfl ?_
    refine z_if_neB X (pc := 13) 18 dX1_takeLast_13 (by decide) (fun c_13 => ?_) (fun c_13 => absurd c_13 (by decide))
    refine z_aload_n X (pc := 18) 0 dX1_takeLast_18 rfl ?_
    refine z_dup X (pc := 19) dX1_takeLast_19 rfl ?_
    refine z_get X (pc := 20) 0 1 (.int (nI 8)) tu_1 tw_95 dX1_takeLast_20 rfl rfl (by decide) rfl rfl ?_
    refine z_iconst X (pc := 23) (nI 1) dX1_takeLast_23 (by decide) ?_
    refine z_isub X (pc := 24) (v := (nI 7)) dX1_takeLast_24 (pk_sub (by omega)) ?_
    refine z_put X (pc := 25) 0 1 [eX1 h0 ha (nI 7), eQ t ha 8 (fun j => some (ad j)), eX0 (ad 0) (nI (g 0)) (nI (g 1)) (nI (g 2)) (nI (g 3)) (nI (g 4)), eX0 (ad 1) (nI (g 5)) (nI (g 6)) (nI (g 7)) (nI (g 8)) (nI (g 9)), eX0 (ad 2) (nI (g 10)) (nI (g 11)) (nI (g 12)) (nI (g 13)) (nI (g 14)), eX0 (ad 3) (nI (g 15)) (nI (g 16)) (nI (g 17)) (nI (g 18)) (nI (g 19)), eX0 (ad 4) (nI (g 20)) (nI (g 21)) (nI (g 22)) (nI (g 23)) (nI (g 24)), eX0 (ad 5) (nI (g 25)) (nI (g 26)) (nI (g 27)) (nI (g 28)) (nI (g 29)), eX0 (ad 6) (nI (g 30)) (nI (g 31)) (nI (g 32)) (nI (g 33)) (nI (g 34)), eX0 (ad 7) (nI (g 35)) (nI (g 36)) (nI (g 37)) (nI (g 38)) (nI (g 39)), eX0 hc (nI (s 0)) (nI (s 1)) (nI (s 2)) (nI (s 3)) (nI (s 4))] tu_1 tyX1_ok nmX1 tw_95 dX1_takeLast_25 rfl rfl (by decide) rfl rfl rfl rfl (Nat.le_of_ble_eq_true rfl) rfl ?_
    refine z_aload_n X (pc := 28) 1 dX1_takeLast_28 rfl ?_
    refine z_aload_n X (pc := 29) 0 dX1_takeLast_29 rfl ?_
    refine z_get X (pc := 30) 0 0 (.ref ha) tu_1 tw_94 dX1_takeLast_30 rfl rfl (by decide) rfl rfl ?_
    refine z_aload_n X (pc := 33) 0 dX1_takeLast_33 rfl ?_
    refine z_get X (pc := 34) 0 1 (.int (nI 7)) tu_1 tw_95 dX1_takeLast_34 rfl rfl (by decide) rfl rfl ?_
    refine z_aald X (pc := 37) 1 7 (ad 7) dX1_takeLast_37 rfl rfl (Nat.le_of_ble_eq_true rfl) (by decide) rfl ?_
    refine zc_V (as := [.ref (ad 7)]) X (pc := 38) (c_X0_copyFrom lq D t hc (ad 7) (nI (s 0)) (nI (s 1)) (nI (s 2)) (nI (s 3)) (nI (s 4)) (nI (g 35)) (nI (g 36)) (nI (g 37)) (nI (g 38)) (nI (g 39)) ) tw_318 tw_270 tw_3 tw_268 tw_269 0 0 rfl rfl [10, 9] rfl rfl dX1_takeLast_38 rfl zdX0_copyFrom ⟨rfl, rfl, Nat.le_of_ble_eq_true rfl, Nat.le_of_ble_eq_true rfl⟩ (Nat.le_of_ble_eq_true rfl) (Nat.zero_le _) (Nat.zero_le _) (fun v_49 w_50 hp_51 => ?_)
    obtain ⟨rfl, rfl⟩ := hp_51
    refine ⟨rfl, ?_⟩
    refine z_eq (ws2 := [eX1 h0 ha (nI 7), eQ t ha 8 (fun j => some (ad j)), eX0 (ad 0) (nI (g 0)) (nI (g 1)) (nI (g 2)) (nI (g 3)) (nI (g 4)), eX0 (ad 1) (nI (g 5)) (nI (g 6)) (nI (g 7)) (nI (g 8)) (nI (g 9)), eX0 (ad 2) (nI (g 10)) (nI (g 11)) (nI (g 12)) (nI (g 13)) (nI (g 14)), eX0 (ad 3) (nI (g 15)) (nI (g 16)) (nI (g 17)) (nI (g 18)) (nI (g 19)), eX0 (ad 4) (nI (g 20)) (nI (g 21)) (nI (g 22)) (nI (g 23)) (nI (g 24)), eX0 (ad 5) (nI (g 25)) (nI (g 26)) (nI (g 27)) (nI (g 28)) (nI (g 29)), eX0 (ad 6) (nI (g 30)) (nI (g 31)) (nI (g 32)) (nI (g 33)) (nI (g 34)), eX0 (ad 7) (nI (g 35)) (nI (g 36)) (nI (g 37)) (nI (g 38)) (nI (g 39)), eX0 hc (nI (g 35)) (nI (g 36)) (nI (g 37)) (nI (g 38)) (nI (g 39))]) (st2 := []) rfl rfl rfl ?_
    refine z_iconst X (pc := 41) (nI 1) dX1_takeLast_41 (by decide) ?_
    exact hR.z dX1_takeLast_42 rfl ⟨some_zb_t (by decide), rfl⟩

abbrev rm_X1_put2 : Room := { frames := 1, cells := 0, slots := 0, locals := 22 }
set_option maxHeartbeats 4000000 in
set_option maxRecDepth 100000 in
theorem c_X1_put2 (lq : Launch) (D : va_G) (t : zT) (h0 ha : Nat) (ad g : Nat → Nat) (sz : Nat) (hc : Nat) (s : Nat → Nat) (hsz : sz ≤ 1) : Ct lq D t yX1_put cX1_put 2 none rm_X1_put2 [.ref h0, .ref hc] [eX1 h0 ha (nI sz), eQ t ha 2 (fun j => some (ad j)), eX0 (ad 0) (nI (g 0)) (nI (g 1)) (nI (g 2)) (nI (g 3)) (nI (g 4)), eX0 (ad 1) (nI (g 5)) (nI (g 6)) (nI (g 7)) (nI (g 8)) (nI (g 9)), eX0 hc (nI (s 0)) (nI (s 1)) (nI (s 2)) (nI (s 3)) (nI (s 4))] 0 0 (fun rv rw_ => rv = none ∧ rw_ = [eX1 h0 ha (nI (sz + 1)), eQ t ha 2 (fun j => some (ad j)), eX0 (ad 0) (nI (kput g sz s 0)) (nI (kput g sz s 1)) (nI (kput g sz s 2)) (nI (kput g sz s 3)) (nI (kput g sz s 4)), eX0 (ad 1) (nI (kput g sz s 5)) (nI (kput g sz s 6)) (nI (kput g sz s 7)) (nI (kput g sz s 8)) (nI (kput g sz s 9)), eX0 hc (nI (s 0)) (nI (s 1)) (nI (s 2)) (nI (s 3)) (nI (s 4))]) := by
  refine Ct.of (by decide) (Nat.le_of_ble_eq_true rfl) (fun k X hR => ?_)
  have X : zX D t k cX1_put 2 RX1 "put" rm_X1_put2 lq := X
  refine z_eq (lv2 := [(0, .ref h0), (1, .ref hc)]) rfl rfl rfl ?_
  rcases (show sz = 0 ∨ sz = 1 by omega) with rfl | rfl
  · skip
    refine z_aload_n X (pc := 0) 0 dX1_put_0 rfl ?_
    refine zc_V (as := []) X (pc := 1) (c_X1_isFull lq D t h0 ha 0 2 (fun j => some (ad j)) (by decide) (by decide)) tw_310 tw_313 tw_4 tw_311 tw_312 0 1 rfl rfl [0, 1] rfl rfl dX1_put_1 rfl zdX1_isFull ⟨rfl, rfl, Nat.le_of_ble_eq_true rfl, Nat.le_of_ble_eq_true rfl⟩ (Nat.le_of_ble_eq_true rfl) (Nat.zero_le _) (Nat.zero_le _) (fun v_1 w_2 hp_3 => ?_)
    obtain ⟨rfl, rfl⟩ := hp_3
    refine ⟨rfl, ?_⟩
    refine z_eq (ws2 := [eX1 h0 ha (nI 0), eQ t ha 2 (fun j => some (ad j)), eX0 (ad 0) (nI (g 0)) (nI (g 1)) (nI (g 2)) (nI (g 3)) (nI (g 4)), eX0 (ad 1) (nI (g 5)) (nI (g 6)) (nI (g 7)) (nI (g 8)) (nI (g 9)), eX0 hc (nI (s 0)) (nI (s 1)) (nI (s 2)) (nI (s 3)) (nI (s 4))]) (st2 := [.int (zb (2 ≤ 0))]) rfl rfl rfl ?_
    refine z_if_eqB X (pc := 4) 11 dX1_put_4 (by decide) (fun c_4 => ?_) (fun c_4 => absurd c_4 (by decide))
    refine z_aload_n X (pc := 11) 0 dX1_put_11 rfl ?_
    refine z_get X (pc := 12) 0 1 (.int (nI 0)) tu_1 tw_95 dX1_put_12 rfl rfl (by decide) rfl rfl ?_
    refine z_iconst X (pc := 15) (nI 0) dX1_put_15 (by decide) ?_
    refine z_aload_n X (pc := 16) 0 dX1_put_16 rfl ?_
    refine z_get X (pc := 17) 0 0 (.ref ha) tu_1 tw_94 dX1_put_17 rfl rfl (by decide) rfl rfl ?_
    refine z_alen_q X (pc := 20) 1 dX1_put_20 rfl ?_
    refine z_iconst X (pc := 21) (nI 1) dX1_put_21 (by decide) ?_
    refine z_isub X (pc := 22) (v := (nI 1)) dX1_put_22 (pk_sub (by omega)) ?_
    refine zc_SN (as := [.int (nI 0), .int (nI 0), .int (nI 1)]) X (pc := 23) (c_X4_within lq D t (nI 0) (nI 0) (nI 1) ) tw_319 tw_182 tw_1 tw_181 [] rfl rfl dX1_put_23 rfl zdX4_within ⟨rfl, rfl, Nat.le_of_ble_eq_true rfl, Nat.le_of_ble_eq_true rfl⟩ (Nat.le_of_ble_eq_true rfl) (Nat.zero_le _) (Nat.zero_le _) (fun v_4 w_5 hp_6 => ?_)
    obtain ⟨rfl, rfl⟩ := hp_6
    refine ⟨rfl, ?_⟩
    refine z_eq (ws2 := [eX1 h0 ha (nI 0), eQ t ha 2 (fun j => some (ad j)), eX0 (ad 0) (nI (g 0)) (nI (g 1)) (nI (g 2)) (nI (g 3)) (nI (g 4)), eX0 (ad 1) (nI (g 5)) (nI (g 6)) (nI (g 7)) (nI (g 8)) (nI (g 9)), eX0 hc (nI (s 0)) (nI (s 1)) (nI (s 2)) (nI (s 3)) (nI (s 4))]) (st2 := [.int (zb ((nI 0) ≤ (nI 0) ∧ (nI 0) ≤ (nI 1)))]) rfl rfl rfl ?_
    refine z_if_eqB X (pc := 26) 52 dX1_put_26 (by decide) (fun c_26 => absurd c_26 (by decide)) (fun c_26 => ?_)
    refine z_aload_n X (pc := 29) 0 dX1_put_29 rfl ?_
    refine z_get X (pc := 30) 0 0 (.ref ha) tu_1 tw_94 dX1_put_30 rfl rfl (by decide) rfl rfl ?_
    refine z_aload_n X (pc := 33) 0 dX1_put_33 rfl ?_
    refine z_get X (pc := 34) 0 1 (.int (nI 0)) tu_1 tw_95 dX1_put_34 rfl rfl (by decide) rfl rfl ?_
    refine z_aald X (pc := 37) 1 0 (ad 0) dX1_put_37 rfl rfl (Nat.le_of_ble_eq_true rfl) (by decide) rfl ?_
    refine z_aload_n X (pc := 38) 1 dX1_put_38 rfl ?_
    refine zc_V (as := [.ref hc]) X (pc := 39) (c_X0_copyFrom lq D t (ad 0) hc (nI (g 0)) (nI (g 1)) (nI (g 2)) (nI (g 3)) (nI (g 4)) (nI (s 0)) (nI (s 1)) (nI (s 2)) (nI (s 3)) (nI (s 4)) ) tw_318 tw_270 tw_3 tw_268 tw_269 0 0 rfl rfl [2, 4] rfl rfl dX1_put_39 rfl zdX0_copyFrom ⟨rfl, rfl, Nat.le_of_ble_eq_true rfl, Nat.le_of_ble_eq_true rfl⟩ (Nat.le_of_ble_eq_true rfl) (Nat.zero_le _) (Nat.zero_le _) (fun v_7 w_8 hp_9 => ?_)
    obtain ⟨rfl, rfl⟩ := hp_9
    refine ⟨rfl, ?_⟩
    refine z_eq (ws2 := [eX1 h0 ha (nI 0), eQ t ha 2 (fun j => some (ad j)), eX0 (ad 0) (nI (s 0)) (nI (s 1)) (nI (s 2)) (nI (s 3)) (nI (s 4)), eX0 (ad 1) (nI (g 5)) (nI (g 6)) (nI (g 7)) (nI (g 8)) (nI (g 9)), eX0 hc (nI (s 0)) (nI (s 1)) (nI (s 2)) (nI (s 3)) (nI (s 4))]) (st2 := []) rfl rfl rfl ?_
    refine z_aload_n X (pc := 42) 0 dX1_put_42 rfl ?_
    refine z_dup X (pc := 43) dX1_put_43 rfl ?_
    refine z_get X (pc := 44) 0 1 (.int (nI 0)) tu_1 tw_95 dX1_put_44 rfl rfl (by decide) rfl rfl ?_
    refine z_iconst X (pc := 47) (nI 1) dX1_put_47 (by decide) ?_
    refine z_iadd X (pc := 48) (v := (nI 1)) dX1_put_48 (nI_add 0 1) ?_
    refine z_put X (pc := 49) 0 1 [eX1 h0 ha (nI 1), eQ t ha 2 (fun j => some (ad j)), eX0 (ad 0) (nI (s 0)) (nI (s 1)) (nI (s 2)) (nI (s 3)) (nI (s 4)), eX0 (ad 1) (nI (g 5)) (nI (g 6)) (nI (g 7)) (nI (g 8)) (nI (g 9)), eX0 hc (nI (s 0)) (nI (s 1)) (nI (s 2)) (nI (s 3)) (nI (s 4))] tu_1 tyX1_ok nmX1 tw_95 dX1_put_49 rfl rfl (by decide) rfl rfl rfl rfl (Nat.le_of_ble_eq_true rfl) rfl ?_
    exact hR.v dX1_put_52 ⟨rfl, rfl⟩
  · skip
    refine z_aload_n X (pc := 0) 0 dX1_put_0 rfl ?_
    refine zc_V (as := []) X (pc := 1) (c_X1_isFull lq D t h0 ha 1 2 (fun j => some (ad j)) (by decide) (by decide)) tw_310 tw_313 tw_4 tw_311 tw_312 0 1 rfl rfl [0, 1] rfl rfl dX1_put_1 rfl zdX1_isFull ⟨rfl, rfl, Nat.le_of_ble_eq_true rfl, Nat.le_of_ble_eq_true rfl⟩ (Nat.le_of_ble_eq_true rfl) (Nat.zero_le _) (Nat.zero_le _) (fun v_10 w_11 hp_12 => ?_)
    obtain ⟨rfl, rfl⟩ := hp_12
    refine ⟨rfl, ?_⟩
    refine z_eq (ws2 := [eX1 h0 ha (nI 1), eQ t ha 2 (fun j => some (ad j)), eX0 (ad 0) (nI (g 0)) (nI (g 1)) (nI (g 2)) (nI (g 3)) (nI (g 4)), eX0 (ad 1) (nI (g 5)) (nI (g 6)) (nI (g 7)) (nI (g 8)) (nI (g 9)), eX0 hc (nI (s 0)) (nI (s 1)) (nI (s 2)) (nI (s 3)) (nI (s 4))]) (st2 := [.int (zb (2 ≤ 1))]) rfl rfl rfl ?_
    refine z_if_eqB X (pc := 4) 11 dX1_put_4 (by decide) (fun c_4 => ?_) (fun c_4 => absurd c_4 (by decide))
    refine z_aload_n X (pc := 11) 0 dX1_put_11 rfl ?_
    refine z_get X (pc := 12) 0 1 (.int (nI 1)) tu_1 tw_95 dX1_put_12 rfl rfl (by decide) rfl rfl ?_
    refine z_iconst X (pc := 15) (nI 0) dX1_put_15 (by decide) ?_
    refine z_aload_n X (pc := 16) 0 dX1_put_16 rfl ?_
    refine z_get X (pc := 17) 0 0 (.ref ha) tu_1 tw_94 dX1_put_17 rfl rfl (by decide) rfl rfl ?_
    refine z_alen_q X (pc := 20) 1 dX1_put_20 rfl ?_
    refine z_iconst X (pc := 21) (nI 1) dX1_put_21 (by decide) ?_
    refine z_isub X (pc := 22) (v := (nI 1)) dX1_put_22 (pk_sub (by omega)) ?_
    refine zc_SN (as := [.int (nI 1), .int (nI 0), .int (nI 1)]) X (pc := 23) (c_X4_within lq D t (nI 1) (nI 0) (nI 1) ) tw_319 tw_182 tw_1 tw_181 [] rfl rfl dX1_put_23 rfl zdX4_within ⟨rfl, rfl, Nat.le_of_ble_eq_true rfl, Nat.le_of_ble_eq_true rfl⟩ (Nat.le_of_ble_eq_true rfl) (Nat.zero_le _) (Nat.zero_le _) (fun v_13 w_14 hp_15 => ?_)
    obtain ⟨rfl, rfl⟩ := hp_15
    refine ⟨rfl, ?_⟩
    refine z_eq (ws2 := [eX1 h0 ha (nI 1), eQ t ha 2 (fun j => some (ad j)), eX0 (ad 0) (nI (g 0)) (nI (g 1)) (nI (g 2)) (nI (g 3)) (nI (g 4)), eX0 (ad 1) (nI (g 5)) (nI (g 6)) (nI (g 7)) (nI (g 8)) (nI (g 9)), eX0 hc (nI (s 0)) (nI (s 1)) (nI (s 2)) (nI (s 3)) (nI (s 4))]) (st2 := [.int (zb ((nI 0) ≤ (nI 1) ∧ (nI 1) ≤ (nI 1)))]) rfl rfl rfl ?_
    refine z_if_eqB X (pc := 26) 52 dX1_put_26 (by decide) (fun c_26 => absurd c_26 (by decide)) (fun c_26 => ?_)
    refine z_aload_n X (pc := 29) 0 dX1_put_29 rfl ?_
    refine z_get X (pc := 30) 0 0 (.ref ha) tu_1 tw_94 dX1_put_30 rfl rfl (by decide) rfl rfl ?_
    refine z_aload_n X (pc := 33) 0 dX1_put_33 rfl ?_
    refine z_get X (pc := 34) 0 1 (.int (nI 1)) tu_1 tw_95 dX1_put_34 rfl rfl (by decide) rfl rfl ?_
    refine z_aald X (pc := 37) 1 1 (ad 1) dX1_put_37 rfl rfl (Nat.le_of_ble_eq_true rfl) (by decide) rfl ?_
    refine z_aload_n X (pc := 38) 1 dX1_put_38 rfl ?_
    refine zc_V (as := [.ref hc]) X (pc := 39) (c_X0_copyFrom lq D t (ad 1) hc (nI (g 5)) (nI (g 6)) (nI (g 7)) (nI (g 8)) (nI (g 9)) (nI (s 0)) (nI (s 1)) (nI (s 2)) (nI (s 3)) (nI (s 4)) ) tw_318 tw_270 tw_3 tw_268 tw_269 0 0 rfl rfl [3, 4] rfl rfl dX1_put_39 rfl zdX0_copyFrom ⟨rfl, rfl, Nat.le_of_ble_eq_true rfl, Nat.le_of_ble_eq_true rfl⟩ (Nat.le_of_ble_eq_true rfl) (Nat.zero_le _) (Nat.zero_le _) (fun v_16 w_17 hp_18 => ?_)
    obtain ⟨rfl, rfl⟩ := hp_18
    refine ⟨rfl, ?_⟩
    refine z_eq (ws2 := [eX1 h0 ha (nI 1), eQ t ha 2 (fun j => some (ad j)), eX0 (ad 0) (nI (g 0)) (nI (g 1)) (nI (g 2)) (nI (g 3)) (nI (g 4)), eX0 (ad 1) (nI (s 0)) (nI (s 1)) (nI (s 2)) (nI (s 3)) (nI (s 4)), eX0 hc (nI (s 0)) (nI (s 1)) (nI (s 2)) (nI (s 3)) (nI (s 4))]) (st2 := []) rfl rfl rfl ?_
    refine z_aload_n X (pc := 42) 0 dX1_put_42 rfl ?_
    refine z_dup X (pc := 43) dX1_put_43 rfl ?_
    refine z_get X (pc := 44) 0 1 (.int (nI 1)) tu_1 tw_95 dX1_put_44 rfl rfl (by decide) rfl rfl ?_
    refine z_iconst X (pc := 47) (nI 1) dX1_put_47 (by decide) ?_
    refine z_iadd X (pc := 48) (v := (nI 2)) dX1_put_48 (nI_add 1 1) ?_
    refine z_put X (pc := 49) 0 1 [eX1 h0 ha (nI 2), eQ t ha 2 (fun j => some (ad j)), eX0 (ad 0) (nI (g 0)) (nI (g 1)) (nI (g 2)) (nI (g 3)) (nI (g 4)), eX0 (ad 1) (nI (s 0)) (nI (s 1)) (nI (s 2)) (nI (s 3)) (nI (s 4)), eX0 hc (nI (s 0)) (nI (s 1)) (nI (s 2)) (nI (s 3)) (nI (s 4))] tu_1 tyX1_ok nmX1 tw_95 dX1_put_49 rfl rfl (by decide) rfl rfl rfl rfl (Nat.le_of_ble_eq_true rfl) rfl ?_
    exact hR.v dX1_put_52 ⟨rfl, rfl⟩

abbrev rm_X1_takeLast2 : Room := { frames := 1, cells := 0, slots := 0, locals := 22 }
set_option maxHeartbeats 4000000 in
set_option maxRecDepth 100000 in
theorem c_X1_takeLast2 (lq : Launch) (D : va_G) (t : zT) (h0 ha : Nat) (ad g : Nat → Nat) (sz : Nat) (hc : Nat) (s : Nat → Nat) (hsz : sz ≤ 2) : Ct lq D t yX1_takeLast cX1_takeLast 2 (some .boolean) rm_X1_takeLast2 [.ref h0, .ref hc] [eX1 h0 ha (nI sz), eQ t ha 2 (fun j => some (ad j)), eX0 (ad 0) (nI (g 0)) (nI (g 1)) (nI (g 2)) (nI (g 3)) (nI (g 4)), eX0 (ad 1) (nI (g 5)) (nI (g 6)) (nI (g 7)) (nI (g 8)) (nI (g 9)), eX0 hc (nI (s 0)) (nI (s 1)) (nI (s 2)) (nI (s 3)) (nI (s 4))] 0 0 (fun rv rw_ => rv = some (.int (zb (¬ sz = 0))) ∧ rw_ = [eX1 h0 ha (nI (sz - 1)), eQ t ha 2 (fun j => some (ad j)), eX0 (ad 0) (nI (g 0)) (nI (g 1)) (nI (g 2)) (nI (g 3)) (nI (g 4)), eX0 (ad 1) (nI (g 5)) (nI (g 6)) (nI (g 7)) (nI (g 8)) (nI (g 9)), eX0 hc (nI (if sz = 0 then s 0 else g (5 * (sz - 1) + 0))) (nI (if sz = 0 then s 1 else g (5 * (sz - 1) + 1))) (nI (if sz = 0 then s 2 else g (5 * (sz - 1) + 2))) (nI (if sz = 0 then s 3 else g (5 * (sz - 1) + 3))) (nI (if sz = 0 then s 4 else g (5 * (sz - 1) + 4)))]) := by
  refine Ct.of (by decide) (Nat.le_of_ble_eq_true rfl) (fun k X hR => ?_)
  have X : zX D t k cX1_takeLast 2 RX1 "takeLast" rm_X1_takeLast2 lq := X
  refine z_eq (lv2 := [(0, .ref h0), (1, .ref hc)]) rfl rfl rfl ?_
  rcases (show sz = 0 ∨ sz = 1 ∨ sz = 2 by omega) with rfl | rfl | rfl
  · skip
    refine z_aload_n X (pc := 0) 0 dX1_takeLast_0 rfl ?_
    refine z_get X (pc := 1) 0 1 (.int (nI 0)) tu_1 tw_95 dX1_takeLast_1 rfl rfl (by decide) rfl rfl ?_
    refine z_iconst X (pc := 4) (nI 1) dX1_takeLast_4 (by decide) ?_
    refine z_aload_n X (pc := 5) 0 dX1_takeLast_5 rfl ?_
    refine z_get X (pc := 6) 0 0 (.ref ha) tu_1 tw_94 dX1_takeLast_6 rfl rfl (by decide) rfl rfl ?_
    refine z_alen_q X (pc := 9) 1 dX1_takeLast_9 rfl ?_
    refine zc_SN (as := [.int (nI 0), .int (nI 1), .int (nI 2)]) X (pc := 10) (c_X4_within lq D t (nI 0) (nI 1) (nI 2) ) tw_319 tw_182 tw_1 tw_181 [] rfl rfl dX1_takeLast_10 rfl zdX4_within ⟨rfl, rfl, Nat.le_of_ble_eq_true rfl, Nat.le_of_ble_eq_true rfl⟩ (Nat.le_of_ble_eq_true rfl) (Nat.zero_le _) (Nat.zero_le _) (fun v_1 w_2 hp_3 => ?_)
    obtain ⟨rfl, rfl⟩ := hp_3
    refine ⟨rfl, ?_⟩
    refine z_eq (ws2 := [eX1 h0 ha (nI 0), eQ t ha 2 (fun j => some (ad j)), eX0 (ad 0) (nI (g 0)) (nI (g 1)) (nI (g 2)) (nI (g 3)) (nI (g 4)), eX0 (ad 1) (nI (g 5)) (nI (g 6)) (nI (g 7)) (nI (g 8)) (nI (g 9)), eX0 hc (nI (s 0)) (nI (s 1)) (nI (s 2)) (nI (s 3)) (nI (s 4))]) (st2 := [.int (zb ((nI 1) ≤ (nI 0) ∧ (nI 0) ≤ (nI 2)))]) rfl rfl rfl ?_
    refine z_if_neB X (pc := 13) 18 dX1_takeLast_13 (by decide) (fun c_13 => absurd c_13 (by decide)) (fun c_13 => ?_)
    refine z_iconst X (pc := 16) (nI 0) dX1_takeLast_16 (by decide) ?_
    exact hR.z dX1_takeLast_17 rfl ⟨some_zb_f (by decide), rfl⟩
  · skip
    refine z_aload_n X (pc := 0) 0 dX1_takeLast_0 rfl ?_
    refine z_get X (pc := 1) 0 1 (.int (nI 1)) tu_1 tw_95 dX1_takeLast_1 rfl rfl (by decide) rfl rfl ?_
    refine z_iconst X (pc := 4) (nI 1) dX1_takeLast_4 (by decide) ?_
    refine z_aload_n X (pc := 5) 0 dX1_takeLast_5 rfl ?_
    refine z_get X (pc := 6) 0 0 (.ref ha) tu_1 tw_94 dX1_takeLast_6 rfl rfl (by decide) rfl rfl ?_
    refine z_alen_q X (pc := 9) 1 dX1_takeLast_9 rfl ?_
    refine zc_SN (as := [.int (nI 1), .int (nI 1), .int (nI 2)]) X (pc := 10) (c_X4_within lq D t (nI 1) (nI 1) (nI 2) ) tw_319 tw_182 tw_1 tw_181 [] rfl rfl dX1_takeLast_10 rfl zdX4_within ⟨rfl, rfl, Nat.le_of_ble_eq_true rfl, Nat.le_of_ble_eq_true rfl⟩ (Nat.le_of_ble_eq_true rfl) (Nat.zero_le _) (Nat.zero_le _) (fun v_4 w_5 hp_6 => ?_)
    obtain ⟨rfl, rfl⟩ := hp_6
    refine ⟨rfl, ?_⟩
    refine z_eq (ws2 := [eX1 h0 ha (nI 1), eQ t ha 2 (fun j => some (ad j)), eX0 (ad 0) (nI (g 0)) (nI (g 1)) (nI (g 2)) (nI (g 3)) (nI (g 4)), eX0 (ad 1) (nI (g 5)) (nI (g 6)) (nI (g 7)) (nI (g 8)) (nI (g 9)), eX0 hc (nI (s 0)) (nI (s 1)) (nI (s 2)) (nI (s 3)) (nI (s 4))]) (st2 := [.int (zb ((nI 1) ≤ (nI 1) ∧ (nI 1) ≤ (nI 2)))]) rfl rfl rfl ?_
    refine z_if_neB X (pc := 13) 18 dX1_takeLast_13 (by decide) (fun c_13 => ?_) (fun c_13 => absurd c_13 (by decide))
    refine z_aload_n X (pc := 18) 0 dX1_takeLast_18 rfl ?_
    refine z_dup X (pc := 19) dX1_takeLast_19 rfl ?_
    refine z_get X (pc := 20) 0 1 (.int (nI 1)) tu_1 tw_95 dX1_takeLast_20 rfl rfl (by decide) rfl rfl ?_
    refine z_iconst X (pc := 23) (nI 1) dX1_takeLast_23 (by decide) ?_
    refine z_isub X (pc := 24) (v := (nI 0)) dX1_takeLast_24 (pk_sub (by omega)) ?_
    refine z_put X (pc := 25) 0 1 [eX1 h0 ha (nI 0), eQ t ha 2 (fun j => some (ad j)), eX0 (ad 0) (nI (g 0)) (nI (g 1)) (nI (g 2)) (nI (g 3)) (nI (g 4)), eX0 (ad 1) (nI (g 5)) (nI (g 6)) (nI (g 7)) (nI (g 8)) (nI (g 9)), eX0 hc (nI (s 0)) (nI (s 1)) (nI (s 2)) (nI (s 3)) (nI (s 4))] tu_1 tyX1_ok nmX1 tw_95 dX1_takeLast_25 rfl rfl (by decide) rfl rfl rfl rfl (Nat.le_of_ble_eq_true rfl) rfl ?_
    refine z_aload_n X (pc := 28) 1 dX1_takeLast_28 rfl ?_
    refine z_aload_n X (pc := 29) 0 dX1_takeLast_29 rfl ?_
    refine z_get X (pc := 30) 0 0 (.ref ha) tu_1 tw_94 dX1_takeLast_30 rfl rfl (by decide) rfl rfl ?_
    refine z_aload_n X (pc := 33) 0 dX1_takeLast_33 rfl ?_
    refine z_get X (pc := 34) 0 1 (.int (nI 0)) tu_1 tw_95 dX1_takeLast_34 rfl rfl (by decide) rfl rfl ?_
    refine z_aald X (pc := 37) 1 0 (ad 0) dX1_takeLast_37 rfl rfl (Nat.le_of_ble_eq_true rfl) (by decide) rfl ?_
    refine zc_V (as := [.ref (ad 0)]) X (pc := 38) (c_X0_copyFrom lq D t hc (ad 0) (nI (s 0)) (nI (s 1)) (nI (s 2)) (nI (s 3)) (nI (s 4)) (nI (g 0)) (nI (g 1)) (nI (g 2)) (nI (g 3)) (nI (g 4)) ) tw_318 tw_270 tw_3 tw_268 tw_269 0 0 rfl rfl [4, 2] rfl rfl dX1_takeLast_38 rfl zdX0_copyFrom ⟨rfl, rfl, Nat.le_of_ble_eq_true rfl, Nat.le_of_ble_eq_true rfl⟩ (Nat.le_of_ble_eq_true rfl) (Nat.zero_le _) (Nat.zero_le _) (fun v_7 w_8 hp_9 => ?_)
    obtain ⟨rfl, rfl⟩ := hp_9
    refine ⟨rfl, ?_⟩
    refine z_eq (ws2 := [eX1 h0 ha (nI 0), eQ t ha 2 (fun j => some (ad j)), eX0 (ad 0) (nI (g 0)) (nI (g 1)) (nI (g 2)) (nI (g 3)) (nI (g 4)), eX0 (ad 1) (nI (g 5)) (nI (g 6)) (nI (g 7)) (nI (g 8)) (nI (g 9)), eX0 hc (nI (g 0)) (nI (g 1)) (nI (g 2)) (nI (g 3)) (nI (g 4))]) (st2 := []) rfl rfl rfl ?_
    refine z_iconst X (pc := 41) (nI 1) dX1_takeLast_41 (by decide) ?_
    exact hR.z dX1_takeLast_42 rfl ⟨some_zb_t (by decide), rfl⟩
  · skip
    refine z_aload_n X (pc := 0) 0 dX1_takeLast_0 rfl ?_
    refine z_get X (pc := 1) 0 1 (.int (nI 2)) tu_1 tw_95 dX1_takeLast_1 rfl rfl (by decide) rfl rfl ?_
    refine z_iconst X (pc := 4) (nI 1) dX1_takeLast_4 (by decide) ?_
    refine z_aload_n X (pc := 5) 0 dX1_takeLast_5 rfl ?_
    refine z_get X (pc := 6) 0 0 (.ref ha) tu_1 tw_94 dX1_takeLast_6 rfl rfl (by decide) rfl rfl ?_
    refine z_alen_q X (pc := 9) 1 dX1_takeLast_9 rfl ?_
    refine zc_SN (as := [.int (nI 2), .int (nI 1), .int (nI 2)]) X (pc := 10) (c_X4_within lq D t (nI 2) (nI 1) (nI 2) ) tw_319 tw_182 tw_1 tw_181 [] rfl rfl dX1_takeLast_10 rfl zdX4_within ⟨rfl, rfl, Nat.le_of_ble_eq_true rfl, Nat.le_of_ble_eq_true rfl⟩ (Nat.le_of_ble_eq_true rfl) (Nat.zero_le _) (Nat.zero_le _) (fun v_10 w_11 hp_12 => ?_)
    obtain ⟨rfl, rfl⟩ := hp_12
    refine ⟨rfl, ?_⟩
    refine z_eq (ws2 := [eX1 h0 ha (nI 2), eQ t ha 2 (fun j => some (ad j)), eX0 (ad 0) (nI (g 0)) (nI (g 1)) (nI (g 2)) (nI (g 3)) (nI (g 4)), eX0 (ad 1) (nI (g 5)) (nI (g 6)) (nI (g 7)) (nI (g 8)) (nI (g 9)), eX0 hc (nI (s 0)) (nI (s 1)) (nI (s 2)) (nI (s 3)) (nI (s 4))]) (st2 := [.int (zb ((nI 1) ≤ (nI 2) ∧ (nI 2) ≤ (nI 2)))]) rfl rfl rfl ?_
    refine z_if_neB X (pc := 13) 18 dX1_takeLast_13 (by decide) (fun c_13 => ?_) (fun c_13 => absurd c_13 (by decide))
    refine z_aload_n X (pc := 18) 0 dX1_takeLast_18 rfl ?_
    refine z_dup X (pc := 19) dX1_takeLast_19 rfl ?_
    refine z_get X (pc := 20) 0 1 (.int (nI 2)) tu_1 tw_95 dX1_takeLast_20 rfl rfl (by decide) rfl rfl ?_
    refine z_iconst X (pc := 23) (nI 1) dX1_takeLast_23 (by decide) ?_
    refine z_isub X (pc := 24) (v := (nI 1)) dX1_takeLast_24 (pk_sub (by omega)) ?_
    refine z_put X (pc := 25) 0 1 [eX1 h0 ha (nI 1), eQ t ha 2 (fun j => some (ad j)), eX0 (ad 0) (nI (g 0)) (nI (g 1)) (nI (g 2)) (nI (g 3)) (nI (g 4)), eX0 (ad 1) (nI (g 5)) (nI (g 6)) (nI (g 7)) (nI (g 8)) (nI (g 9)), eX0 hc (nI (s 0)) (nI (s 1)) (nI (s 2)) (nI (s 3)) (nI (s 4))] tu_1 tyX1_ok nmX1 tw_95 dX1_takeLast_25 rfl rfl (by decide) rfl rfl rfl rfl (Nat.le_of_ble_eq_true rfl) rfl ?_
    refine z_aload_n X (pc := 28) 1 dX1_takeLast_28 rfl ?_
    refine z_aload_n X (pc := 29) 0 dX1_takeLast_29 rfl ?_
    refine z_get X (pc := 30) 0 0 (.ref ha) tu_1 tw_94 dX1_takeLast_30 rfl rfl (by decide) rfl rfl ?_
    refine z_aload_n X (pc := 33) 0 dX1_takeLast_33 rfl ?_
    refine z_get X (pc := 34) 0 1 (.int (nI 1)) tu_1 tw_95 dX1_takeLast_34 rfl rfl (by decide) rfl rfl ?_
    refine z_aald X (pc := 37) 1 1 (ad 1) dX1_takeLast_37 rfl rfl (Nat.le_of_ble_eq_true rfl) (by decide) rfl ?_
    refine zc_V (as := [.ref (ad 1)]) X (pc := 38) (c_X0_copyFrom lq D t hc (ad 1) (nI (s 0)) (nI (s 1)) (nI (s 2)) (nI (s 3)) (nI (s 4)) (nI (g 5)) (nI (g 6)) (nI (g 7)) (nI (g 8)) (nI (g 9)) ) tw_318 tw_270 tw_3 tw_268 tw_269 0 0 rfl rfl [4, 3] rfl rfl dX1_takeLast_38 rfl zdX0_copyFrom ⟨rfl, rfl, Nat.le_of_ble_eq_true rfl, Nat.le_of_ble_eq_true rfl⟩ (Nat.le_of_ble_eq_true rfl) (Nat.zero_le _) (Nat.zero_le _) (fun v_13 w_14 hp_15 => ?_)
    obtain ⟨rfl, rfl⟩ := hp_15
    refine ⟨rfl, ?_⟩
    refine z_eq (ws2 := [eX1 h0 ha (nI 1), eQ t ha 2 (fun j => some (ad j)), eX0 (ad 0) (nI (g 0)) (nI (g 1)) (nI (g 2)) (nI (g 3)) (nI (g 4)), eX0 (ad 1) (nI (g 5)) (nI (g 6)) (nI (g 7)) (nI (g 8)) (nI (g 9)), eX0 hc (nI (g 5)) (nI (g 6)) (nI (g 7)) (nI (g 8)) (nI (g 9))]) (st2 := []) rfl rfl rfl ?_
    refine z_iconst X (pc := 41) (nI 1) dX1_takeLast_41 (by decide) ?_
    exact hR.z dX1_takeLast_42 rfl ⟨some_zb_t (by decide), rfl⟩
