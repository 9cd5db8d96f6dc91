/-! PART 19: EitherPocket: how likely -/
theorem sm_mono {f : Nat → Nat} {i : Nat} : ∀ {n : Nat}, i ≤ n → sm f i ≤ sm f n
  | 0, h => by rw [show i = 0 by omega]; exact Nat.le_refl _
  | n + 1, h => by
    rcases Nat.lt_or_ge n i with q | q
    · rw [show i = n + 1 by omega]; exact Nat.le_refl _
    · have := sm_mono (f := f) q
      rw [sm_s]; omega
theorem sm_three (f : Nat → Nat) {p : Nat} (h : p + 3 ≤ 33) : 0 + f (p + 0) + f (p + 1) + f (p + 2) ≤ sm f 33 := by
  have h1 := sm_mono (f := f) h
  have e1 : sm f (p + 2 + 1) = sm f (p + 2) + f (p + 2) := sm_s f (p + 2)
  have e2 : sm f (p + 1 + 1) = sm f (p + 1) + f (p + 1) := sm_s f (p + 1)
  have e3 : sm f (p + 1) = sm f p + f p := sm_s f p
  have h2 : sm f (p + 2 + 1) ≤ sm f 33 := h1
  have h3 : sm f (p + 1 + 1) = sm f (p + 2) := rfl
  show 0 + f p + f (p + 1) + f (p + 2) ≤ sm f 33
  omega
theorem lev_bd {m s : Nat} {a : wA} (hm : m ≤ 20) (h : wok m s a) : lev m a.1 * 4 ^ s ≤ 4398046511104 := by
  have h1 := h.2.1
  have h2 : lev m a.1 ≤ sm a.1 33 := by
    unfold lev; split
    · have e1 := sm_s (fun j => a.1 (m / 2 * 3 + j)) 2
      have e2 := sm_s (fun j => a.1 (m / 2 * 3 + j)) 1
      have e3 := sm_s (fun j => a.1 (m / 2 * 3 + j)) 0
      rw [sm_z] at e3
      rw [e1, e2, e3]
      exact sm_three a.1 (p := m / 2 * 3) (by omega)
    · exact Nat.zero_le _
  have h3 := Nat.mul_le_mul_right (4 ^ s) h2
  omega
abbrev rm_X4_tenThousandthsN : Room := { frames := 0, cells := 0, slots := 0, locals := 0 }
set_option maxHeartbeats 4000000 in
set_option maxRecDepth 100000 in
theorem c_X4_tenThousandthsN (lq : Launch) (D : va_G) (t : zT) (c : Nat) (hc : c ≤ 4398046511104) : Ct lq D t yX4_tenThousandths cX4_tenThousandths 2 (some .int) rm_X4_tenThousandthsN [.long (lN c)] [] 0 0 (fun rv rw_ => rv = some (.int (nI (c * 10000 / 4398046511104))) ∧ rw_ = []) := by
  refine Ct.of (by decide) (Nat.le_of_ble_eq_true rfl) (fun k X hRet => ?_)
  have X : zX D t k cX4_tenThousandths 2 RX4 "tenThousandths" rm_X4_tenThousandthsN lq := X
  refine z_eq (lv2 := [(0, .long (lN c))]) rfl rfl rfl ?_
  refine z_lload_n X (pc := 0) 0 dX4_tenThousandths_0 rfl ?_
  refine z_ldc2 X (pc := 1) (10000) dX4_tenThousandths_1 tw_411 ?_
  refine z_topl (lN 10000) rfl ?_
  refine z_lmul X (pc := 4) (v := (lN (c * 10000))) dX4_tenThousandths_4 (lN_mul _ _) ?_
  refine z_ldc2 X (pc := 5) (4398046511104) dX4_tenThousandths_5 tw_412 ?_
  refine z_topl (lN 4398046511104) rfl ?_
  refine z_ldiv X (pc := 8) (v := (lN ((c * 10000) / 4398046511104))) dX4_tenThousandths_8 (by decide) (pk_lDiv (by omega) (by omega) (by omega)) ?_
  refine z_l2i X (pc := 9) (v := (nI ((c * 10000) / 4398046511104))) dX4_tenThousandths_9 (lN_i _) ?_
  exact hRet.i dX4_tenThousandths_10 ⟨rfl, rfl⟩

abbrev rm_X4_hundredfoldN : Room := { frames := 0, cells := 0, slots := 0, locals := 0 }
set_option maxHeartbeats 4000000 in
set_option maxRecDepth 100000 in
theorem c_X4_hundredfoldN (lq : Launch) (D : va_G) (t : zT) (c : Nat) (hc : c < 2 ^ 50) : Ct lq D t yX4_hundredfold cX4_hundredfold 2 (some .int) rm_X4_hundredfoldN [.long (lN c)] [] 0 0 (fun rv rw_ => rv = some (.int (nI (c * 100 / 4398046511104))) ∧ rw_ = []) := by
  refine Ct.of (by decide) (Nat.le_of_ble_eq_true rfl) (fun k X hRet => ?_)
  have X : zX D t k cX4_hundredfold 2 RX4 "hundredfold" rm_X4_hundredfoldN lq := X
  refine z_eq (lv2 := [(0, .long (lN c))]) rfl rfl rfl ?_
  refine z_lload_n X (pc := 0) 0 dX4_hundredfold_0 rfl ?_
  refine z_ldc2 X (pc := 1) (100) dX4_hundredfold_1 tw_420 ?_
  refine z_topl (lN 100) rfl ?_
  refine z_lmul X (pc := 4) (v := (lN (c * 100))) dX4_hundredfold_4 (lN_mul _ _) ?_
  refine z_ldc2 X (pc := 5) (4398046511104) dX4_hundredfold_5 tw_412 ?_
  refine z_topl (lN 4398046511104) rfl ?_
  refine z_ldiv X (pc := 8) (v := (lN ((c * 100) / 4398046511104))) dX4_hundredfold_8 (by decide) (pk_lDiv (by omega) (by omega) (by omega)) ?_
  refine z_l2i X (pc := 9) (v := (nI ((c * 100) / 4398046511104))) dX4_hundredfold_9 (lN_i _) ?_
  exact hRet.i dX4_hundredfold_10 ⟨rfl, rfl⟩

abbrev rm_X4_startFrom : Room := { frames := 2, cells := 0, slots := 0, locals := 47 }
set_option maxHeartbeats 4000000 in
set_option maxRecDepth 100000 in
theorem c_X4_startFrom (lq : Launch) (D : va_G) (t : zT) (h hT hN hU hA hK hW hL hZ sg ev : Nat) (s : Nat → Nat) (hr hn ho : Nat) (b0 b1 b2 b3 b4 g0 g1 g2 g3 : Int32) (g4 g5 : Int64) (f1 f2 f3 : Nat → Int64) (il ir en : Nat) (hs : sOk s) (hil : il ≤ 10) (hir : ir ≤ 10) (hen : en ≤ 1) : Ct lq D t yX4_startFrom cX4_startFrom 4 none rm_X4_startFrom [.ref h, .int (nI il), .int (nI ir), .int (nI en)] [eX4 h hT hN hU hA hK hW hL hZ (nI sg) (nI ev), eX0 hN (nI (s 0)) (nI (s 1)) (nI (s 2)) (nI (s 3)) (nI (s 4)), eX0 hU b0 b1 b2 b3 b4, eX3 hW hr hn ho g0 g1 g2 g3 g4 g5, eL t hr 33 f1, eL t hn 33 f2, eL t ho 11 f3] 0 0 (fun rv rw_ => rv = none ∧ rw_ = [eX4 h hT hN hU hA hK hW hL hZ (nI sg) (nI ev), eX0 hN (nI (s 0)) (nI (s 1)) (nI (s 2)) (nI (s 3)) (nI (s 4)), eX0 hU (nI il) (nI ir) (nI (s 2)) (nI (s 3)) (nI (s 4)), eX3 hW hr hn ho (nI en) (nI (s 3)) (nI (s 4)) (nI (il + ir)) (lN 4398046511104 - lN ((wst0 en il ir (s 2)).2.2.1)) (lN ((wst0 en il ir (s 2)).2.2.2)), eL t hr 33 (lf (fun j => (wst0 en il ir (s 2)).1 j * 4 ^ 21)), eL t hn 33 f2, eL t ho 11 (lf ((wst0 en il ir (s 2)).2.1))]) := by
  refine Ct.of (by decide) (Nat.le_of_ble_eq_true rfl) (fun k X hRet => ?_)
  have X : zX D t k cX4_startFrom 4 RX4 "startFrom" rm_X4_startFrom lq := X
  refine z_eq (lv2 := [(0, .ref h), (1, .int (nI il)), (2, .int (nI ir)), (3, .int (nI en))]) rfl rfl rfl ?_
  obtain ⟨hs0, hs1, hs2, hs3, hs4⟩ := hs
  refine z_aload_n X (pc := 0) 0 dX4_startFrom_0 rfl ?_
  refine z_get X (pc := 1) 0 2 (.ref hU) tu_4 tw_146 dX4_startFrom_1 rfl rfl (by decide) rfl rfl ?_
  refine z_aload_n X (pc := 4) 0 dX4_startFrom_4 rfl ?_
  refine z_get X (pc := 5) 0 1 (.ref hN) tu_4 tw_145 dX4_startFrom_5 rfl rfl (by decide) rfl rfl ?_
  refine zc_V (as := [.ref hN]) X (pc := 8) (c_X0_copyFrom lq D t hU hN b0 b1 b2 b3 b4 (nI (s 0)) (nI (s 1)) (nI (s 2)) (nI (s 3)) (nI (s 4)) ) tw_267 tw_270 tw_3 tw_268 tw_269 0 0 rfl rfl [2, 1] rfl rfl dX4_startFrom_8 rfl zdX0_copyFrom ⟨rfl, rfl, Nat.le_of_ble_eq_true rfl, Nat.le_of_ble_eq_true rfl⟩ (Nat.le_of_ble_eq_true rfl) (Nat.zero_le _) (Nat.zero_le _) (fun v_1 w_2 hp_3 => ?_)
  obtain ⟨rfl, rfl⟩ := hp_3
  refine ⟨rfl, ?_⟩
  refine z_eq (ws2 := [eX4 h hT hN hU hA hK hW hL hZ (nI sg) (nI ev), eX0 hN (nI (s 0)) (nI (s 1)) (nI (s 2)) (nI (s 3)) (nI (s 4)), eX0 hU (nI (s 0)) (nI (s 1)) (nI (s 2)) (nI (s 3)) (nI (s 4)), eX3 hW hr hn ho g0 g1 g2 g3 g4 g5, eL t hr 33 f1, eL t hn 33 f2, eL t ho 11 f3]) (st2 := []) rfl rfl rfl ?_
  refine z_aload_n X (pc := 11) 0 dX4_startFrom_11 rfl ?_
  refine z_get X (pc := 12) 0 2 (.ref hU) tu_4 tw_146 dX4_startFrom_12 rfl rfl (by decide) rfl rfl ?_
  refine z_iload_n X (pc := 15) 1 dX4_startFrom_15 rfl ?_
  refine z_iload_n X (pc := 16) 2 dX4_startFrom_16 rfl ?_
  refine zc_V (as := [.int (nI il), .int (nI ir)]) X (pc := 17) (c_X0_setBoxes lq D t hU (nI (s 0)) (nI (s 1)) (nI (s 2)) (nI (s 3)) (nI (s 4)) (nI il) (nI ir) ) tw_136 tw_139 tw_3 tw_137 tw_138 0 0 rfl rfl [2] rfl rfl dX4_startFrom_17 rfl zdX0_setBoxes ⟨rfl, rfl, Nat.le_of_ble_eq_true rfl, Nat.le_of_ble_eq_true rfl⟩ (Nat.le_of_ble_eq_true rfl) (Nat.zero_le _) (Nat.zero_le _) (fun v_4 w_5 hp_6 => ?_)
  obtain ⟨rfl, rfl⟩ := hp_6
  refine ⟨rfl, ?_⟩
  refine z_eq (ws2 := [eX4 h hT hN hU hA hK hW hL hZ (nI sg) (nI ev), eX0 hN (nI (s 0)) (nI (s 1)) (nI (s 2)) (nI (s 3)) (nI (s 4)), eX0 hU (nI il) (nI ir) (nI (s 2)) (nI (s 3)) (nI (s 4)), eX3 hW hr hn ho g0 g1 g2 g3 g4 g5, eL t hr 33 f1, eL t hn 33 f2, eL t ho 11 f3]) (st2 := []) rfl rfl rfl ?_
  refine z_aload_n X (pc := 20) 0 dX4_startFrom_20 rfl ?_
  refine z_get X (pc := 21) 0 5 (.ref hW) tu_4 tw_149 dX4_startFrom_21 rfl rfl (by decide) rfl rfl ?_
  refine z_aload_n X (pc := 24) 0 dX4_startFrom_24 rfl ?_
  refine z_get X (pc := 25) 0 2 (.ref hU) tu_4 tw_146 dX4_startFrom_25 rfl rfl (by decide) rfl rfl ?_
  refine z_iload_n X (pc := 28) 3 dX4_startFrom_28 rfl ?_
  refine zc_V (as := [.ref hU, .int (nI en)]) X (pc := 29) (c_X3_start lq D t hW hr hn ho hU g0 g1 g2 g3 g4 g5 f1 f2 f3 en il ir (s 2) (s 3) (s 4) hen (by omega) (by omega) hs2) tw_373 tw_376 tw_6 tw_374 tw_375 0 3 rfl rfl [3, 4, 5, 6, 2] rfl rfl dX4_startFrom_29 rfl zdX3_start ⟨rfl, rfl, Nat.le_of_ble_eq_true rfl, Nat.le_of_ble_eq_true rfl⟩ (Nat.le_of_ble_eq_true rfl) (Nat.zero_le _) (Nat.zero_le _) (fun v_7 w_8 hp_9 => ?_)
  obtain ⟨rfl, rfl⟩ := hp_9
  refine ⟨rfl, ?_⟩
  refine z_eq (ws2 := [eX4 h hT hN hU hA hK hW hL hZ (nI sg) (nI ev), eX0 hN (nI (s 0)) (nI (s 1)) (nI (s 2)) (nI (s 3)) (nI (s 4)), eX0 hU (nI il) (nI ir) (nI (s 2)) (nI (s 3)) (nI (s 4)), eX3 hW hr hn ho (nI en) (nI (s 3)) (nI (s 4)) (nI (il + ir)) (lN 4398046511104 - lN ((wst0 en il ir (s 2)).2.2.1)) (lN ((wst0 en il ir (s 2)).2.2.2)), eL t hr 33 (lf (fun j => (wst0 en il ir (s 2)).1 j * 4 ^ 21)), eL t hn 33 f2, eL t ho 11 (lf ((wst0 en il ir (s 2)).2.1))]) (st2 := []) rfl rfl rfl ?_
  exact hRet.v dX4_startFrom_32 ⟨rfl, rfl⟩

abbrev rm_X4_startByHand : Room := { frames := 2, cells := 0, slots := 0, locals := 47 }
set_option maxHeartbeats 4000000 in
set_option maxRecDepth 100000 in
theorem c_X4_startByHand (lq : Launch) (D : va_G) (t : zT) (h hT hN hU hA hK hW hL hZ sg ev : Nat) (s : Nat → Nat) (hr hn ho : Nat) (b0 b1 b2 b3 b4 g0 g1 g2 g3 : Int32) (g4 g5 : Int64) (f1 f2 f3 : Nat → Int64) (kd x : Nat) (hs : sOk s) (hkd : kd ≤ 3) (hx : x ≤ 4) : Ct lq D t yX4_startByHand cX4_startByHand 3 none rm_X4_startByHand [.ref h, .int (nI kd), .int (nI x)] [eX4 h hT hN hU hA hK hW hL hZ (nI sg) (nI ev), eX0 hN (nI (s 0)) (nI (s 1)) (nI (s 2)) (nI (s 3)) (nI (s 4)), eX0 hU b0 b1 b2 b3 b4, eX3 hW hr hn ho g0 g1 g2 g3 g4 g5, eL t hr 33 f1, eL t hn 33 f2, eL t ho 11 f3] 0 0 (fun rv rw_ => rv = none ∧ rw_ = [eX4 h hT hN hU hA hK hW hL hZ (nI sg) (nI ev), eX0 hN (nI (s 0)) (nI (s 1)) (nI (s 2)) (nI (s 3)) (nI (s 4)), eX0 hU (nI (s 0)) (nI (s 1)) (nI (s 2)) (nI kd) (nI x), eX3 hW hr hn ho (nI 0) (nI kd) (nI x) (nI (s 0 + s 1)) (lN 4398046511104 - lN ((wst0 0 (s 0) (s 1) (s 2)).2.2.1)) (lN ((wst0 0 (s 0) (s 1) (s 2)).2.2.2)), eL t hr 33 (lf (fun j => (wst0 0 (s 0) (s 1) (s 2)).1 j * 4 ^ 21)), eL t hn 33 f2, eL t ho 11 (lf ((wst0 0 (s 0) (s 1) (s 2)).2.1))]) := by
  refine Ct.of (by decide) (Nat.le_of_ble_eq_true rfl) (fun k X hRet => ?_)
  have X : zX D t k cX4_startByHand 3 RX4 "startByHand" rm_X4_startByHand lq := X
  refine z_eq (lv2 := [(0, .ref h), (1, .int (nI kd)), (2, .int (nI x))]) rfl rfl rfl ?_
  obtain ⟨hs0, hs1, hs2, hs3, hs4⟩ := hs
  refine z_aload_n X (pc := 0) 0 dX4_startByHand_0 rfl ?_
  refine z_get X (pc := 1) 0 2 (.ref hU) tu_4 tw_146 dX4_startByHand_1 rfl rfl (by decide) rfl rfl ?_
  refine z_aload_n X (pc := 4) 0 dX4_startByHand_4 rfl ?_
  refine z_get X (pc := 5) 0 1 (.ref hN) tu_4 tw_145 dX4_startByHand_5 rfl rfl (by decide) rfl rfl ?_
  refine zc_V (as := [.ref hN]) X (pc := 8) (c_X0_copyFrom lq D t hU hN b0 b1 b2 b3 b4 (nI (s 0)) (nI (s 1)) (nI (s 2)) (nI (s 3)) (nI (s 4)) ) tw_267 tw_270 tw_3 tw_268 tw_269 0 0 rfl rfl [2, 1] rfl rfl dX4_startByHand_8 rfl zdX0_copyFrom ⟨rfl, rfl, Nat.le_of_ble_eq_true rfl, Nat.le_of_ble_eq_true rfl⟩ (Nat.le_of_ble_eq_true rfl) (Nat.zero_le _) (Nat.zero_le _) (fun v_1 w_2 hp_3 => ?_)
  obtain ⟨rfl, rfl⟩ := hp_3
  refine ⟨rfl, ?_⟩
  refine z_eq (ws2 := [eX4 h hT hN hU hA hK hW hL hZ (nI sg) (nI ev), eX0 hN (nI (s 0)) (nI (s 1)) (nI (s 2)) (nI (s 3)) (nI (s 4)), eX0 hU (nI (s 0)) (nI (s 1)) (nI (s 2)) (nI (s 3)) (nI (s 4)), eX3 hW hr hn ho g0 g1 g2 g3 g4 g5, eL t hr 33 f1, eL t hn 33 f2, eL t ho 11 f3]) (st2 := []) rfl rfl rfl ?_
  refine z_aload_n X (pc := 11) 0 dX4_startByHand_11 rfl ?_
  refine z_get X (pc := 12) 0 2 (.ref hU) tu_4 tw_146 dX4_startByHand_12 rfl rfl (by decide) rfl rfl ?_
  refine z_iload_n X (pc := 15) 1 dX4_startByHand_15 rfl ?_
  refine z_iload_n X (pc := 16) 2 dX4_startByHand_16 rfl ?_
  refine zc_V (as := [.int (nI kd), .int (nI x)]) X (pc := 17) (c_X0_setHand lq D t hU (nI (s 0)) (nI (s 1)) (nI (s 2)) (nI (s 3)) (nI (s 4)) (nI kd) (nI x) ) tw_140 tw_143 tw_3 tw_141 tw_142 0 0 rfl rfl [2] rfl rfl dX4_startByHand_17 rfl zdX0_setHand ⟨rfl, rfl, Nat.le_of_ble_eq_true rfl, Nat.le_of_ble_eq_true rfl⟩ (Nat.le_of_ble_eq_true rfl) (Nat.zero_le _) (Nat.zero_le _) (fun v_4 w_5 hp_6 => ?_)
  obtain ⟨rfl, rfl⟩ := hp_6
  refine ⟨rfl, ?_⟩
  refine z_eq (ws2 := [eX4 h hT hN hU hA hK hW hL hZ (nI sg) (nI ev), eX0 hN (nI (s 0)) (nI (s 1)) (nI (s 2)) (nI (s 3)) (nI (s 4)), eX0 hU (nI (s 0)) (nI (s 1)) (nI (s 2)) (nI kd) (nI x), eX3 hW hr hn ho g0 g1 g2 g3 g4 g5, eL t hr 33 f1, eL t hn 33 f2, eL t ho 11 f3]) (st2 := []) rfl rfl rfl ?_
  refine z_aload_n X (pc := 20) 0 dX4_startByHand_20 rfl ?_
  refine z_get X (pc := 21) 0 5 (.ref hW) tu_4 tw_149 dX4_startByHand_21 rfl rfl (by decide) rfl rfl ?_
  refine z_aload_n X (pc := 24) 0 dX4_startByHand_24 rfl ?_
  refine z_get X (pc := 25) 0 2 (.ref hU) tu_4 tw_146 dX4_startByHand_25 rfl rfl (by decide) rfl rfl ?_
  refine z_iconst X (pc := 28) (nI 0) dX4_startByHand_28 (by decide) ?_
  refine zc_V (as := [.ref hU, .int (nI 0)]) X (pc := 29) (c_X3_start lq D t hW hr hn ho hU g0 g1 g2 g3 g4 g5 f1 f2 f3 0 (s 0) (s 1) (s 2) kd x (by decide) (by omega) (by omega) hs2) tw_373 tw_376 tw_6 tw_374 tw_375 0 3 rfl rfl [3, 4, 5, 6, 2] rfl rfl dX4_startByHand_29 rfl zdX3_start ⟨rfl, rfl, Nat.le_of_ble_eq_true rfl, Nat.le_of_ble_eq_true rfl⟩ (Nat.le_of_ble_eq_true rfl) (Nat.zero_le _) (Nat.zero_le _) (fun v_7 w_8 hp_9 => ?_)
  obtain ⟨rfl, rfl⟩ := hp_9
  refine ⟨rfl, ?_⟩
  refine z_eq (ws2 := [eX4 h hT hN hU hA hK hW hL hZ (nI sg) (nI ev), eX0 hN (nI (s 0)) (nI (s 1)) (nI (s 2)) (nI (s 3)) (nI (s 4)), eX0 hU (nI (s 0)) (nI (s 1)) (nI (s 2)) (nI kd) (nI x), eX3 hW hr hn ho (nI 0) (nI kd) (nI x) (nI ((s 0) + (s 1))) (lN 4398046511104 - lN ((wst0 0 (s 0) (s 1) (s 2)).2.2.1)) (lN ((wst0 0 (s 0) (s 1) (s 2)).2.2.2)), eL t hr 33 (lf (fun j => (wst0 0 (s 0) (s 1) (s 2)).1 j * 4 ^ 21)), eL t hn 33 f2, eL t ho 11 (lf ((wst0 0 (s 0) (s 1) (s 2)).2.1))]) (st2 := []) rfl rfl rfl ?_
  exact hRet.v dX4_startByHand_32 ⟨rfl, rfl⟩

abbrev rm_X4_walkToEnd : Room := { frames := 4, cells := 0, slots := 0, locals := 102 }
set_option maxHeartbeats 4000000 in
set_option maxRecDepth 100000 in
theorem c_X4_walkToEnd (lq : Launch) (D : va_G) (t : zT) (h hT hN hU hA hK hW hL hZ sg ev : Nat) (s : Nat → Nat) (hr hn ho : Nat) (b0 b1 b2 b3 b4 g0 g1 g2 g3 : Int32) (g4 g5 : Int64) (f1 f2 f3 : Nat → Int64) (en : Nat) (hs : sOk s) (hen : en ≤ 1) : Ct lq D t yX4_walkToEnd cX4_walkToEnd 2 (some .long) rm_X4_walkToEnd [.ref h, .int (nI en)] [eX4 h hT hN hU hA hK hW hL hZ (nI sg) (nI ev), eX0 hN (nI (s 0)) (nI (s 1)) (nI (s 2)) (nI (s 3)) (nI (s 4)), eX0 hU b0 b1 b2 b3 b4, eX3 hW hr hn ho g0 g1 g2 g3 g4 g5, eL t hr 33 f1, eL t hn 33 f2, eL t ho 11 f3] 0 0 (fun rv rw_ => ∃ (mt2 : Int32) (hr2 : Nat) (hn2 : Nat) (F2 : Nat → Int64), rv = some (.long (lN (rch (s 3) (s 4) en (s 0) (s 1) (s 2)))) ∧ rw_ = [eX4 h hT hN hU hA hK hW hL hZ (nI sg) (nI ev), eX0 hN (nI (s 0)) (nI (s 1)) (nI (s 2)) (nI (s 3)) (nI (s 4)), eX0 hU (nI (s 0)) (nI (s 1)) (nI (s 2)) (nI (s 3)) (nI (s 4)), eX3 hW hr2 hn2 ho (nI en) (nI (s 3)) (nI (s 4)) mt2 (lN 4398046511104 - lN ((wrun (s 3) (s 4) en (s 0 + s 1) 21 (wst0 en (s 0) (s 1) (s 2)) 21).2.2.1)) (lN ((wrun (s 3) (s 4) en (s 0 + s 1) 21 (wst0 en (s 0) (s 1) (s 2)) 21).2.2.2)), eL t hr2 33 (lf (fun j => (wrun (s 3) (s 4) en (s 0 + s 1) 21 (wst0 en (s 0) (s 1) (s 2)) 21).1 j * 4 ^ (21 - 21))), eL t hn2 33 F2, eL t ho 11 (lf ((wrun (s 3) (s 4) en (s 0 + s 1) 21 (wst0 en (s 0) (s 1) (s 2)) 21).2.1))]) := by
  refine Ct.of (by decide) (Nat.le_of_ble_eq_true rfl) (fun k X hRet => ?_)
  have X : zX D t k cX4_walkToEnd 2 RX4 "walkToEnd" rm_X4_walkToEnd lq := X
  refine z_eq (lv2 := [(0, .ref h), (1, .int (nI en))]) rfl rfl rfl ?_
  have hsk := hs
  obtain ⟨hs0, hs1, hs2, hs3, hs4⟩ := hs
  refine z_aload_n X (pc := 0) 0 dX4_walkToEnd_0 rfl ?_
  refine z_aload_n X (pc := 1) 0 dX4_walkToEnd_1 rfl ?_
  refine z_get X (pc := 2) 0 1 (.ref hN) tu_4 tw_145 dX4_walkToEnd_2 rfl rfl (by decide) rfl rfl ?_
  refine z_get X (pc := 5) 1 0 (.int (nI (s 0))) tu_0 tw_30 dX4_walkToEnd_5 rfl rfl (by decide) rfl rfl ?_
  refine z_aload_n X (pc := 8) 0 dX4_walkToEnd_8 rfl ?_
  refine z_get X (pc := 9) 0 1 (.ref hN) tu_4 tw_145 dX4_walkToEnd_9 rfl rfl (by decide) rfl rfl ?_
  refine z_get X (pc := 12) 1 1 (.int (nI (s 1))) tu_0 tw_33 dX4_walkToEnd_12 rfl rfl (by decide) rfl rfl ?_
  refine z_iload_n X (pc := 15) 1 dX4_walkToEnd_15 rfl ?_
  refine zc_V (as := [.int (nI (s 0)), .int (nI (s 1)), .int (nI en)]) X (pc := 16) (c_X4_startFrom lq D t h hT hN hU hA hK hW hL hZ sg ev s hr hn ho b0 b1 b2 b3 b4 g0 g1 g2 g3 g4 g5 f1 f2 f3 (s 0) (s 1) en hsk (by omega) (by omega) hen) tw_369 tw_372 tw_1 tw_371 tw_1013 0 4 rfl rfl [0, 1, 2, 3, 4, 5, 6] rfl rfl dX4_walkToEnd_16 rfl zdX4_startFrom ⟨rfl, rfl, Nat.le_of_ble_eq_true rfl, Nat.le_of_ble_eq_true rfl⟩ (Nat.le_of_ble_eq_true rfl) (Nat.zero_le _) (Nat.zero_le _) (fun v_1 w_2 hp_3 => ?_)
  obtain ⟨rfl, rfl⟩ := hp_3
  refine ⟨rfl, ?_⟩
  refine z_eq (ws2 := [eX4 h hT hN hU hA hK hW hL hZ (nI sg) (nI ev), eX0 hN (nI (s 0)) (nI (s 1)) (nI (s 2)) (nI (s 3)) (nI (s 4)), eX0 hU (nI (s 0)) (nI (s 1)) (nI (s 2)) (nI (s 3)) (nI (s 4)), eX3 hW hr hn ho (nI en) (nI (s 3)) (nI (s 4)) (nI ((s 0) + (s 1))) (lN 4398046511104 - lN ((wst0 en (s 0) (s 1) (s 2)).2.2.1)) (lN ((wst0 en (s 0) (s 1) (s 2)).2.2.2)), eL t hr 33 (lf (fun j => (wst0 en (s 0) (s 1) (s 2)).1 j * 4 ^ 21)), eL t hn 33 f2, eL t ho 11 (lf ((wst0 en (s 0) (s 1) (s 2)).2.1))]) (st2 := []) rfl rfl rfl ?_
  refine z_aload_n X (pc := 19) 0 dX4_walkToEnd_19 rfl ?_
  refine z_get X (pc := 20) 0 5 (.ref hW) tu_4 tw_149 dX4_walkToEnd_20 rfl rfl (by decide) rfl rfl ?_
  refine zc_V (as := []) X (pc := 23) (c_X3_reachesTillEnd lq D t hW hr hn ho en (s 3) (s 4) (s 0 + s 1) 21 (nI ((s 0) + (s 1))) (wst0 en (s 0) (s 1) (s 2)) f2 (by omega) (by omega) (by omega) (by omega) (by decide) (wok0 (by omega) (by omega) (by omega)) (fun _ => rfl)) tw_389 tw_392 tw_6 tw_390 tw_391 0 3 rfl rfl [3, 4, 5, 6] rfl rfl dX4_walkToEnd_23 rfl zdX3_reachesTillEnd ⟨rfl, rfl, Nat.le_of_ble_eq_true rfl, Nat.le_of_ble_eq_true rfl⟩ (Nat.le_of_ble_eq_true rfl) (Nat.zero_le _) (Nat.zero_le _) (fun v_4 w_5 hp_6 => ?_)
  obtain ⟨mt2_7, hr2_8, hn2_9, f2_10, rfl, rfl⟩ := hp_6
  refine ⟨rfl, ?_⟩
  refine z_eq (ws2 := [eX4 h hT hN hU hA hK hW hL hZ (nI sg) (nI ev), eX0 hN (nI (s 0)) (nI (s 1)) (nI (s 2)) (nI (s 3)) (nI (s 4)), eX0 hU (nI (s 0)) (nI (s 1)) (nI (s 2)) (nI (s 3)) (nI (s 4)), eX3 hW hr2_8 hn2_9 ho (nI en) (nI (s 3)) (nI (s 4)) mt2_7 (lN 4398046511104 - lN ((wrun (s 3) (s 4) en (s 0 + s 1) 21 (wst0 en (s 0) (s 1) (s 2)) 21).2.2.1)) (lN ((wrun (s 3) (s 4) en (s 0 + s 1) 21 (wst0 en (s 0) (s 1) (s 2)) 21).2.2.2)), eL t hr2_8 33 (lf (fun j => (wrun (s 3) (s 4) en (s 0 + s 1) 21 (wst0 en (s 0) (s 1) (s 2)) 21).1 j * 4 ^ (0))), eL t hn2_9 33 f2_10, eL t ho 11 (lf ((wrun (s 3) (s 4) en (s 0 + s 1) 21 (wst0 en (s 0) (s 1) (s 2)) 21).2.1))]) (st2 := [.long (lN (sm (fun j => 4398046511104 - (wrun (s 3) (s 4) en (s 0 + s 1) 21 (wst0 en (s 0) (s 1) (s 2)) j).2.2.1) 21))]) rfl rfl rfl ?_
  exact hRet.l dX4_walkToEnd_26 ⟨mt2_7, hr2_8, hn2_9, f2_10, rfl, rfl⟩

abbrev rm_X4_reachesWithy : Room := { frames := 4, cells := 0, slots := 0, locals := 102 }
set_option maxHeartbeats 4000000 in
set_option maxRecDepth 100000 in
theorem c_X4_reachesWithy (lq : Launch) (D : va_G) (t : zT) (h hT hN hU hA hK hW hL hZ sg ev : Nat) (s : Nat → Nat) (hr hn ho : Nat) (b0 b1 b2 b3 b4 g0 g1 g2 g3 : Int32) (g4 g5 : Int64) (f1 f2 f3 : Nat → Int64) (il ir : Nat) (hs : sOk s) (hil : il ≤ 10) (hir : ir ≤ 10) : Ct lq D t yX4_reachesWith cX4_reachesWith 3 (some .long) rm_X4_reachesWithy [.ref h, .int (nI il), .int (nI ir)] [eX4 h hT hN hU hA hK hW hL hZ (nI sg) (nI ev), eX0 hN (nI (s 0)) (nI (s 1)) (nI (s 2)) (nI (s 3)) (nI (s 4)), eX0 hU b0 b1 b2 b3 b4, eX3 hW hr hn ho g0 g1 g2 g3 g4 g5, eL t hr 33 f1, eL t hn 33 f2, eL t ho 11 f3] 0 0 (fun rv rw_ => ∃ (B0 : Int32) (B1 : Int32) (B2 : Int32) (B3 : Int32) (B4 : Int32) (hr2 : Nat) (hn2 : Nat) (G0 : Int32) (G1 : Int32) (G2 : Int32) (G3 : Int32) (G4 : Int64) (G5 : Int64) (F1 : Nat → Int64) (F2 : Nat → Int64) (F3 : Nat → Int64), rv = some (.long (lN (rch (s 3) (s 4) 0 il ir (s 2)))) ∧ rw_ = [eX4 h hT hN hU hA hK hW hL hZ (nI sg) (nI ev), eX0 hN (nI (s 0)) (nI (s 1)) (nI (s 2)) (nI (s 3)) (nI (s 4)), eX0 hU B0 B1 B2 B3 B4, eX3 hW hr2 hn2 ho G0 G1 G2 G3 G4 G5, eL t hr2 33 F1, eL t hn2 33 F2, eL t ho 11 F3]) := by
  refine Ct.of (by decide) (Nat.le_of_ble_eq_true rfl) (fun k X hRet => ?_)
  have X : zX D t k cX4_reachesWith 3 RX4 "reachesWith" rm_X4_reachesWithy lq := X
  refine z_eq (lv2 := [(0, .ref h), (1, .int (nI il)), (2, .int (nI ir))]) rfl rfl rfl ?_
  have hsk := hs
  obtain ⟨hs0, hs1, hs2, hs3, hs4⟩ := hs
  refine z_iload_n X (pc := 0) 1 dX4_reachesWith_0 rfl ?_
  refine z_iconst X (pc := 1) (nI 0) dX4_reachesWith_1 (by decide) ?_
  refine z_bipush X (pc := 2) (nI 10) dX4_reachesWith_2 (by decide) ?_
  refine zc_S (as := [.int (nI il), .int (nI 0), .int (nI 10)]) X (pc := 4) (c_X4_withinN lq D t il 0 10 (by omega) (by decide) (by decide)) tw_180 tw_182 tw_1 tw_181 [] rfl rfl dX4_reachesWith_4 rfl zdX4_within ⟨rfl, rfl, Nat.le_of_ble_eq_true rfl, Nat.le_of_ble_eq_true rfl⟩ (Nat.le_of_ble_eq_true rfl) (Nat.zero_le _) (Nat.zero_le _) (fun v_1 w_2 hp_3 => ?_)
  obtain ⟨rfl, rfl⟩ := hp_3
  refine ⟨rfl, ?_⟩
  refine z_eq (ws2 := [eX4 h hT hN hU hA hK hW hL hZ (nI sg) (nI ev), eX0 hN (nI (s 0)) (nI (s 1)) (nI (s 2)) (nI (s 3)) (nI (s 4)), eX0 hU b0 b1 b2 b3 b4, eX3 hW hr hn ho g0 g1 g2 g3 g4 g5, eL t hr 33 f1, eL t hn 33 f2, eL t ho 11 f3]) (st2 := [.int (zb (0 ≤ il ∧ il ≤ 10))]) rfl rfl rfl ?_
  refine z_if_eqB X (pc := 7) 20 dX4_reachesWith_7 (by decide) (fun c_7 => absurd c_7 (by omega)) (fun c_7 => ?_)
  refine z_iload_n X (pc := 10) 2 dX4_reachesWith_10 rfl ?_
  refine z_iconst X (pc := 11) (nI 0) dX4_reachesWith_11 (by decide) ?_
  refine z_bipush X (pc := 12) (nI 10) dX4_reachesWith_12 (by decide) ?_
  refine zc_S (as := [.int (nI ir), .int (nI 0), .int (nI 10)]) X (pc := 14) (c_X4_withinN lq D t ir 0 10 (by omega) (by decide) (by decide)) tw_180 tw_182 tw_1 tw_181 [] rfl rfl dX4_reachesWith_14 rfl zdX4_within ⟨rfl, rfl, Nat.le_of_ble_eq_true rfl, Nat.le_of_ble_eq_true rfl⟩ (Nat.le_of_ble_eq_true rfl) (Nat.zero_le _) (Nat.zero_le _) (fun v_4 w_5 hp_6 => ?_)
  obtain ⟨rfl, rfl⟩ := hp_6
  refine ⟨rfl, ?_⟩
  refine z_eq (ws2 := [eX4 h hT hN hU hA hK hW hL hZ (nI sg) (nI ev), eX0 hN (nI (s 0)) (nI (s 1)) (nI (s 2)) (nI (s 3)) (nI (s 4)), eX0 hU b0 b1 b2 b3 b4, eX3 hW hr hn ho g0 g1 g2 g3 g4 g5, eL t hr 33 f1, eL t hn 33 f2, eL t ho 11 f3]) (st2 := [.int (zb (0 ≤ ir ∧ ir ≤ 10))]) rfl rfl rfl ?_
  refine z_if_neB X (pc := 17) 24 dX4_reachesWith_17 (by decide) (fun c_17 => ?_) (fun c_17 => absurd c_17 (by omega))
  refine z_aload_n X (pc := 24) 0 dX4_reachesWith_24 rfl ?_
  refine z_iload_n X (pc := 25) 1 dX4_reachesWith_25 rfl ?_
  refine z_iload_n X (pc := 26) 2 dX4_reachesWith_26 rfl ?_
  refine z_iconst X (pc := 27) (nI 0) dX4_reachesWith_27 (by decide) ?_
  refine zc_V (as := [.int (nI il), .int (nI ir), .int (nI 0)]) X (pc := 28) (c_X4_startFrom lq D t h hT hN hU hA hK hW hL hZ sg ev s hr hn ho b0 b1 b2 b3 b4 g0 g1 g2 g3 g4 g5 f1 f2 f3 il ir 0 hsk (by omega) (by omega) (by decide)) tw_369 tw_372 tw_1 tw_371 tw_1013 0 4 rfl rfl [0, 1, 2, 3, 4, 5, 6] rfl rfl dX4_reachesWith_28 rfl zdX4_startFrom ⟨rfl, rfl, Nat.le_of_ble_eq_true rfl, Nat.le_of_ble_eq_true rfl⟩ (Nat.le_of_ble_eq_true rfl) (Nat.zero_le _) (Nat.zero_le _) (fun v_7 w_8 hp_9 => ?_)
  obtain ⟨rfl, rfl⟩ := hp_9
  refine ⟨rfl, ?_⟩
  refine z_eq (ws2 := [eX4 h hT hN hU hA hK hW hL hZ (nI sg) (nI ev), eX0 hN (nI (s 0)) (nI (s 1)) (nI (s 2)) (nI (s 3)) (nI (s 4)), eX0 hU (nI il) (nI ir) (nI (s 2)) (nI (s 3)) (nI (s 4)), eX3 hW hr hn ho (nI 0) (nI (s 3)) (nI (s 4)) (nI (il + ir)) (lN 4398046511104 - lN ((wst0 0 il ir (s 2)).2.2.1)) (lN ((wst0 0 il ir (s 2)).2.2.2)), eL t hr 33 (lf (fun j => (wst0 0 il ir (s 2)).1 j * 4 ^ 21)), eL t hn 33 f2, eL t ho 11 (lf ((wst0 0 il ir (s 2)).2.1))]) (st2 := []) rfl rfl rfl ?_
  refine z_aload_n X (pc := 31) 0 dX4_reachesWith_31 rfl ?_
  refine z_get X (pc := 32) 0 5 (.ref hW) tu_4 tw_149 dX4_reachesWith_32 rfl rfl (by decide) rfl rfl ?_
  refine zc_V (as := []) X (pc := 35) (c_X3_reachesTillEnd lq D t hW hr hn ho 0 (s 3) (s 4) (il + ir) 21 (nI (il + ir)) (wst0 0 il ir (s 2)) f2 (by decide) (by omega) (by omega) (by omega) (by decide) (wok0 (by omega) (by omega) (by omega)) (fun _ => rfl)) tw_389 tw_392 tw_6 tw_390 tw_391 0 3 rfl rfl [3, 4, 5, 6] rfl rfl dX4_reachesWith_35 rfl zdX3_reachesTillEnd ⟨rfl, rfl, Nat.le_of_ble_eq_true rfl, Nat.le_of_ble_eq_true rfl⟩ (Nat.le_of_ble_eq_true rfl) (Nat.zero_le _) (Nat.zero_le _) (fun v_10 w_11 hp_12 => ?_)
  obtain ⟨mt2_13, hr2_14, hn2_15, f2_16, rfl, rfl⟩ := hp_12
  refine ⟨rfl, ?_⟩
  refine z_eq (ws2 := [eX4 h hT hN hU hA hK hW hL hZ (nI sg) (nI ev), eX0 hN (nI (s 0)) (nI (s 1)) (nI (s 2)) (nI (s 3)) (nI (s 4)), eX0 hU (nI il) (nI ir) (nI (s 2)) (nI (s 3)) (nI (s 4)), eX3 hW hr2_14 hn2_15 ho (nI 0) (nI (s 3)) (nI (s 4)) mt2_13 (lN 4398046511104 - lN ((wrun (s 3) (s 4) 0 (il + ir) 21 (wst0 0 il ir (s 2)) 21).2.2.1)) (lN ((wrun (s 3) (s 4) 0 (il + ir) 21 (wst0 0 il ir (s 2)) 21).2.2.2)), eL t hr2_14 33 (lf (fun j => (wrun (s 3) (s 4) 0 (il + ir) 21 (wst0 0 il ir (s 2)) 21).1 j * 4 ^ (0))), eL t hn2_15 33 f2_16, eL t ho 11 (lf ((wrun (s 3) (s 4) 0 (il + ir) 21 (wst0 0 il ir (s 2)) 21).2.1))]) (st2 := [.long (lN (sm (fun j => 4398046511104 - (wrun (s 3) (s 4) 0 (il + ir) 21 (wst0 0 il ir (s 2)) j).2.2.1) 21))]) rfl rfl rfl ?_
  exact hRet.l dX4_reachesWith_38 ⟨(nI il), (nI ir), (nI (s 2)), (nI (s 3)), (nI (s 4)), hr2_14, hn2_15, (nI 0), (nI (s 3)), (nI (s 4)), mt2_13, (lN 4398046511104 - lN ((wrun (s 3) (s 4) 0 (il + ir) 21 (wst0 0 il ir (s 2)) 21).2.2.1)), (lN ((wrun (s 3) (s 4) 0 (il + ir) 21 (wst0 0 il ir (s 2)) 21).2.2.2)), (lf (fun j => (wrun (s 3) (s 4) 0 (il + ir) 21 (wst0 0 il ir (s 2)) 21).1 j * 4 ^ (0))), f2_16, (lf ((wrun (s 3) (s 4) 0 (il + ir) 21 (wst0 0 il ir (s 2)) 21).2.1)), rfl, rfl⟩

abbrev rm_X4_reachesWithn : Room := { frames := 1, cells := 0, slots := 0, locals := 22 }
set_option maxHeartbeats 4000000 in
set_option maxRecDepth 100000 in
theorem c_X4_reachesWithn (lq : Launch) (D : va_G) (t : zT) (h hT hN hU hA hK hW hL hZ sg ev : Nat) (s : Nat → Nat) (hr hn ho : Nat) (b0 b1 b2 b3 b4 g0 g1 g2 g3 : Int32) (g4 g5 : Int64) (f1 f2 f3 : Nat → Int64) (il ir : Int32) (hno : ¬ ((nI 0 ≤ il ∧ il ≤ nI 10) ∧ (nI 0 ≤ ir ∧ ir ≤ nI 10))) : Ct lq D t yX4_reachesWith cX4_reachesWith 3 (some .long) rm_X4_reachesWithn [.ref h, .int il, .int ir] [eX4 h hT hN hU hA hK hW hL hZ (nI sg) (nI ev), eX0 hN (nI (s 0)) (nI (s 1)) (nI (s 2)) (nI (s 3)) (nI (s 4)), eX0 hU b0 b1 b2 b3 b4, eX3 hW hr hn ho g0 g1 g2 g3 g4 g5, eL t hr 33 f1, eL t hn 33 f2, eL t ho 11 f3] 0 0 (fun rv rw_ => ∃ (B0 : Int32) (B1 : Int32) (B2 : Int32) (B3 : Int32) (B4 : Int32) (hr2 : Nat) (hn2 : Nat) (G0 : Int32) (G1 : Int32) (G2 : Int32) (G3 : Int32) (G4 : Int64) (G5 : Int64) (F1 : Nat → Int64) (F2 : Nat → Int64) (F3 : Nat → Int64), rv = some (.long (-1)) ∧ rw_ = [eX4 h hT hN hU hA hK hW hL hZ (nI sg) (nI ev), eX0 hN (nI (s 0)) (nI (s 1)) (nI (s 2)) (nI (s 3)) (nI (s 4)), eX0 hU B0 B1 B2 B3 B4, eX3 hW hr2 hn2 ho G0 G1 G2 G3 G4 G5, eL t hr2 33 F1, eL t hn2 33 F2, eL t ho 11 F3]) := by
  refine Ct.of (by decide) (Nat.le_of_ble_eq_true rfl) (fun k X hRet => ?_)
  have X : zX D t k cX4_reachesWith 3 RX4 "reachesWith" rm_X4_reachesWithn lq := X
  refine z_eq (lv2 := [(0, .ref h), (1, .int il), (2, .int ir)]) rfl rfl rfl ?_
  refine z_iload_n X (pc := 0) 1 dX4_reachesWith_0 rfl ?_
  refine z_iconst X (pc := 1) (nI 0) dX4_reachesWith_1 (by decide) ?_
  refine z_bipush X (pc := 2) (nI 10) dX4_reachesWith_2 (by decide) ?_
  refine zc_S (as := [.int il, .int (nI 0), .int (nI 10)]) X (pc := 4) (c_X4_within lq D t il (nI 0) (nI 10) ) tw_180 tw_182 tw_1 tw_181 [] rfl rfl dX4_reachesWith_4 rfl zdX4_within ⟨rfl, rfl, Nat.le_of_ble_eq_true rfl, Nat.le_of_ble_eq_true rfl⟩ (Nat.le_of_ble_eq_true rfl) (Nat.zero_le _) (Nat.zero_le _) (fun v_1 w_2 hp_3 => ?_)
  obtain ⟨rfl, rfl⟩ := hp_3
  refine ⟨rfl, ?_⟩
  refine z_eq (ws2 := [eX4 h hT hN hU hA hK hW hL hZ (nI sg) (nI ev), eX0 hN (nI (s 0)) (nI (s 1)) (nI (s 2)) (nI (s 3)) (nI (s 4)), eX0 hU b0 b1 b2 b3 b4, eX3 hW hr hn ho g0 g1 g2 g3 g4 g5, eL t hr 33 f1, eL t hn 33 f2, eL t ho 11 f3]) (st2 := [.int (zb ((nI 0) ≤ il ∧ il ≤ (nI 10)))]) rfl rfl rfl ?_
  refine z_if_eqB X (pc := 7) 20 dX4_reachesWith_7 (by decide) (fun c_7 => ?_) (fun c_7 => ?_)
  · skip
    refine z_ldc2 X (pc := 20) (-1) dX4_reachesWith_20 tw_457 ?_
    exact hRet.l dX4_reachesWith_23 ⟨b0, b1, b2, b3, b4, hr, hn, g0, g1, g2, g3, g4, g5, f1, f2, f3, rfl, rfl⟩
  · skip
    refine z_iload_n X (pc := 10) 2 dX4_reachesWith_10 rfl ?_
    refine z_iconst X (pc := 11) (nI 0) dX4_reachesWith_11 (by decide) ?_
    refine z_bipush X (pc := 12) (nI 10) dX4_reachesWith_12 (by decide) ?_
    refine zc_S (as := [.int ir, .int (nI 0), .int (nI 10)]) X (pc := 14) (c_X4_within lq D t ir (nI 0) (nI 10) ) tw_180 tw_182 tw_1 tw_181 [] rfl rfl dX4_reachesWith_14 rfl zdX4_within ⟨rfl, rfl, Nat.le_of_ble_eq_true rfl, Nat.le_of_ble_eq_true rfl⟩ (Nat.le_of_ble_eq_true rfl) (Nat.zero_le _) (Nat.zero_le _) (fun v_4 w_5 hp_6 => ?_)
    obtain ⟨rfl, rfl⟩ := hp_6
    refine ⟨rfl, ?_⟩
    refine z_eq (ws2 := [eX4 h hT hN hU hA hK hW hL hZ (nI sg) (nI ev), eX0 hN (nI (s 0)) (nI (s 1)) (nI (s 2)) (nI (s 3)) (nI (s 4)), eX0 hU b0 b1 b2 b3 b4, eX3 hW hr hn ho g0 g1 g2 g3 g4 g5, eL t hr 33 f1, eL t hn 33 f2, eL t ho 11 f3]) (st2 := [.int (zb ((nI 0) ≤ ir ∧ ir ≤ (nI 10)))]) rfl rfl rfl ?_
    refine z_if_neB X (pc := 17) 24 dX4_reachesWith_17 (by decide) (fun c_17 => absurd c_17 (fun z => hno ⟨c_7, z⟩)) (fun c_17 => ?_)
    refine z_ldc2 X (pc := 20) (-1) dX4_reachesWith_20 tw_457 ?_
    exact hRet.l dX4_reachesWith_23 ⟨b0, b1, b2, b3, b4, hr, hn, g0, g1, g2, g3, g4, g5, f1, f2, f3, rfl, rfl⟩

abbrev rm_X4_reachesByHand : Room := { frames := 4, cells := 0, slots := 0, locals := 102 }
set_option maxHeartbeats 4000000 in
set_option maxRecDepth 100000 in
theorem c_X4_reachesByHand (lq : Launch) (D : va_G) (t : zT) (h hT hN hU hA hK hW hL hZ sg ev : Nat) (s : Nat → Nat) (hr hn ho : Nat) (b0 b1 b2 b3 b4 g0 g1 g2 g3 : Int32) (g4 g5 : Int64) (f1 f2 f3 : Nat → Int64) (kd x : Nat) (hs : sOk s) (hkd : kd ≤ 3) (hx : x ≤ 4) : Ct lq D t yX4_reachesByHand cX4_reachesByHand 3 (some .long) rm_X4_reachesByHand [.ref h, .int (nI kd), .int (nI x)] [eX4 h hT hN hU hA hK hW hL hZ (nI sg) (nI ev), eX0 hN (nI (s 0)) (nI (s 1)) (nI (s 2)) (nI (s 3)) (nI (s 4)), eX0 hU b0 b1 b2 b3 b4, eX3 hW hr hn ho g0 g1 g2 g3 g4 g5, eL t hr 33 f1, eL t hn 33 f2, eL t ho 11 f3] 0 0 (fun rv rw_ => ∃ (B0 : Int32) (B1 : Int32) (B2 : Int32) (B3 : Int32) (B4 : Int32) (hr2 : Nat) (hn2 : Nat) (G0 : Int32) (G1 : Int32) (G2 : Int32) (G3 : Int32) (G4 : Int64) (G5 : Int64) (F1 : Nat → Int64) (F2 : Nat → Int64) (F3 : Nat → Int64), rv = some (.long (lN (rch kd x 0 (s 0) (s 1) (s 2)))) ∧ rw_ = [eX4 h hT hN hU hA hK hW hL hZ (nI sg) (nI ev), eX0 hN (nI (s 0)) (nI (s 1)) (nI (s 2)) (nI (s 3)) (nI (s 4)), eX0 hU B0 B1 B2 B3 B4, eX3 hW hr2 hn2 ho G0 G1 G2 G3 G4 G5, eL t hr2 33 F1, eL t hn2 33 F2, eL t ho 11 F3]) := by
  refine Ct.of (by decide) (Nat.le_of_ble_eq_true rfl) (fun k X hRet => ?_)
  have X : zX D t k cX4_reachesByHand 3 RX4 "reachesByHand" rm_X4_reachesByHand lq := X
  refine z_eq (lv2 := [(0, .ref h), (1, .int (nI kd)), (2, .int (nI x))]) rfl rfl rfl ?_
  have hsk := hs
  obtain ⟨hs0, hs1, hs2, hs3, hs4⟩ := hs
  refine z_aload_n X (pc := 0) 0 dX4_reachesByHand_0 rfl ?_
  refine z_iload_n X (pc := 1) 1 dX4_reachesByHand_1 rfl ?_
  refine z_iload_n X (pc := 2) 2 dX4_reachesByHand_2 rfl ?_
  refine zc_V (as := [.int (nI kd), .int (nI x)]) X (pc := 3) (c_X4_startByHand lq D t h hT hN hU hA hK hW hL hZ sg ev s hr hn ho b0 b1 b2 b3 b4 g0 g1 g2 g3 g4 g5 f1 f2 f3 kd x hsk (by omega) (by omega)) tw_489 tw_492 tw_1 tw_491 tw_1020 0 4 rfl rfl [0, 1, 2, 3, 4, 5, 6] rfl rfl dX4_reachesByHand_3 rfl zdX4_startByHand ⟨rfl, rfl, Nat.le_of_ble_eq_true rfl, Nat.le_of_ble_eq_true rfl⟩ (Nat.le_of_ble_eq_true rfl) (Nat.zero_le _) (Nat.zero_le _) (fun v_1 w_2 hp_3 => ?_)
  obtain ⟨rfl, rfl⟩ := hp_3
  refine ⟨rfl, ?_⟩
  refine z_eq (ws2 := [eX4 h hT hN hU hA hK hW hL hZ (nI sg) (nI ev), eX0 hN (nI (s 0)) (nI (s 1)) (nI (s 2)) (nI (s 3)) (nI (s 4)), eX0 hU (nI (s 0)) (nI (s 1)) (nI (s 2)) (nI kd) (nI x), eX3 hW hr hn ho (nI 0) (nI kd) (nI x) (nI (s 0 + s 1)) (lN 4398046511104 - lN ((wst0 0 (s 0) (s 1) (s 2)).2.2.1)) (lN ((wst0 0 (s 0) (s 1) (s 2)).2.2.2)), eL t hr 33 (lf (fun j => (wst0 0 (s 0) (s 1) (s 2)).1 j * 4 ^ 21)), eL t hn 33 f2, eL t ho 11 (lf ((wst0 0 (s 0) (s 1) (s 2)).2.1))]) (st2 := []) rfl rfl rfl ?_
  refine z_aload_n X (pc := 6) 0 dX4_reachesByHand_6 rfl ?_
  refine z_get X (pc := 7) 0 5 (.ref hW) tu_4 tw_149 dX4_reachesByHand_7 rfl rfl (by decide) rfl rfl ?_
  refine zc_V (as := []) X (pc := 10) (c_X3_reachesTillEnd lq D t hW hr hn ho 0 kd x (s 0 + s 1) 21 (nI (s 0 + s 1)) (wst0 0 (s 0) (s 1) (s 2)) f2 (by decide) (by omega) (by omega) (by omega) (by decide) (wok0 (by omega) (by omega) (by omega)) (fun _ => rfl)) tw_389 tw_392 tw_6 tw_390 tw_391 0 3 rfl rfl [3, 4, 5, 6] rfl rfl dX4_reachesByHand_10 rfl zdX3_reachesTillEnd ⟨rfl, rfl, Nat.le_of_ble_eq_true rfl, Nat.le_of_ble_eq_true rfl⟩ (Nat.le_of_ble_eq_true rfl) (Nat.zero_le _) (Nat.zero_le _) (fun v_4 w_5 hp_6 => ?_)
  obtain ⟨mt2_7, hr2_8, hn2_9, f2_10, rfl, rfl⟩ := hp_6
  refine ⟨rfl, ?_⟩
  refine z_eq (ws2 := [eX4 h hT hN hU hA hK hW hL hZ (nI sg) (nI ev), eX0 hN (nI (s 0)) (nI (s 1)) (nI (s 2)) (nI (s 3)) (nI (s 4)), eX0 hU (nI (s 0)) (nI (s 1)) (nI (s 2)) (nI kd) (nI x), eX3 hW hr2_8 hn2_9 ho (nI 0) (nI kd) (nI x) mt2_7 (lN 4398046511104 - lN ((wrun kd x 0 (s 0 + s 1) 21 (wst0 0 (s 0) (s 1) (s 2)) 21).2.2.1)) (lN ((wrun kd x 0 (s 0 + s 1) 21 (wst0 0 (s 0) (s 1) (s 2)) 21).2.2.2)), eL t hr2_8 33 (lf (fun j => (wrun kd x 0 (s 0 + s 1) 21 (wst0 0 (s 0) (s 1) (s 2)) 21).1 j * 4 ^ (0))), eL t hn2_9 33 f2_10, eL t ho 11 (lf ((wrun kd x 0 (s 0 + s 1) 21 (wst0 0 (s 0) (s 1) (s 2)) 21).2.1))]) (st2 := [.long (lN (sm (fun j => 4398046511104 - (wrun kd x 0 (s 0 + s 1) 21 (wst0 0 (s 0) (s 1) (s 2)) j).2.2.1) 21))]) rfl rfl rfl ?_
  exact hRet.l dX4_reachesByHand_13 ⟨(nI (s 0)), (nI (s 1)), (nI (s 2)), (nI kd), (nI x), hr2_8, hn2_9, (nI 0), (nI kd), (nI x), mt2_7, (lN 4398046511104 - lN ((wrun kd x 0 (s 0 + s 1) 21 (wst0 0 (s 0) (s 1) (s 2)) 21).2.2.1)), (lN ((wrun kd x 0 (s 0 + s 1) 21 (wst0 0 (s 0) (s 1) (s 2)) 21).2.2.2)), (lf (fun j => (wrun kd x 0 (s 0 + s 1) 21 (wst0 0 (s 0) (s 1) (s 2)) 21).1 j * 4 ^ (0))), f2_10, (lf ((wrun kd x 0 (s 0 + s 1) 21 (wst0 0 (s 0) (s 1) (s 2)) 21).2.1)), rfl, rfl⟩

abbrev rm_X4_left : Room := { frames := 5, cells := 0, slots := 0, locals := 123 }
set_option maxHeartbeats 4000000 in
set_option maxRecDepth 100000 in
theorem c_X4_left (lq : Launch) (D : va_G) (t : zT) (h hT hN hU hA hK hW hL hZ sg ev : Nat) (s : Nat → Nat) (hr hn ho : Nat) (b0 b1 b2 b3 b4 g0 g1 g2 g3 : Int32) (g4 g5 : Int64) (f1 f2 f3 : Nat → Int64) (e f : Int32) (hs : sOk s) : Ct lq D t yX4_left cX4_left 3 (some .int) rm_X4_left [.ref h, .int e, .int f] [eX4 h hT hN hU hA hK hW hL hZ (nI sg) (nI ev), eX0 hN (nI (s 0)) (nI (s 1)) (nI (s 2)) (nI (s 3)) (nI (s 4)), eX0 hU b0 b1 b2 b3 b4, eX3 hW hr hn ho g0 g1 g2 g3 g4 g5, eL t hr 33 f1, eL t hn 33 f2, eL t ho 11 f3] 0 0 (fun rv rw_ => ∃ (B0 : Int32) (B1 : Int32) (B2 : Int32) (B3 : Int32) (B4 : Int32) (hr2 : Nat) (hn2 : Nat) (G0 : Int32) (G1 : Int32) (G2 : Int32) (G3 : Int32) (G4 : Int64) (G5 : Int64) (F1 : Nat → Int64) (F2 : Nat → Int64) (F3 : Nat → Int64), rv = some (.int (an_left s (dz 0 1 e) (dz 0 10 f))) ∧ rw_ = [eX4 h hT hN hU hA hK hW hL hZ (nI sg) (nI ev), eX0 hN (nI (s 0)) (nI (s 1)) (nI (s 2)) (nI (s 3)) (nI (s 4)), eX0 hU B0 B1 B2 B3 B4, eX3 hW hr2 hn2 ho G0 G1 G2 G3 G4 G5, eL t hr2 33 F1, eL t hn2 33 F2, eL t ho 11 F3]) := by
  refine Ct.of (by decide) (Nat.le_of_ble_eq_true rfl) (fun k X hRet => ?_)
  have X : zX D t k cX4_left 3 RX4 "left" rm_X4_left lq := X
  refine z_eq (lv2 := [(0, .ref h), (1, .int e), (2, .int f)]) rfl rfl rfl ?_
  have hsk := hs
  obtain ⟨hs0, hs1, hs2, hs3, hs4⟩ := hs
  refine z_iload_n X (pc := 0) 1 dX4_left_0 rfl ?_
  refine zc_S (as := [.int e]) X (pc := 1) (c_X4_isEnd lq D t e ) tw_362 tw_364 tw_1 tw_363 [] rfl rfl dX4_left_1 rfl zdX4_isEnd ⟨rfl, rfl, Nat.le_of_ble_eq_true rfl, Nat.le_of_ble_eq_true rfl⟩ (Nat.le_of_ble_eq_true rfl) (Nat.zero_le _) (Nat.zero_le _) (fun v_1 w_2 hp_3 => ?_)
  obtain ⟨rfl, rfl⟩ := hp_3
  refine ⟨rfl, ?_⟩
  refine z_eq (ws2 := [eX4 h hT hN hU hA hK hW hL hZ (nI sg) (nI ev), eX0 hN (nI (s 0)) (nI (s 1)) (nI (s 2)) (nI (s 3)) (nI (s 4)), eX0 hU b0 b1 b2 b3 b4, eX3 hW hr hn ho g0 g1 g2 g3 g4 g5, eL t hr 33 f1, eL t hn 33 f2, eL t ho 11 f3]) (st2 := [.int (zb (nI 0 ≤ e ∧ e ≤ nI 1))]) rfl rfl rfl ?_
  refine z_if_eqB X (pc := 4) 17 dX4_left_4 (by decide) (fun c_4 => ?_) (fun c_4 => ?_)
  · skip
    refine z_iconst X (pc := 17) (-1) dX4_left_17 (by decide) ?_
    exact hRet.i dX4_left_18 ⟨b0, b1, b2, b3, b4, hr, hn, g0, g1, g2, g3, g4, g5, f1, f2, f3, by rw [dz_bad (a := 0) (b := 1) c_4]; rfl, rfl⟩
  · skip
    refine z_iload_n X (pc := 7) 2 dX4_left_7 rfl ?_
    refine z_iconst X (pc := 8) (nI 0) dX4_left_8 (by decide) ?_
    refine z_bipush X (pc := 9) (nI 10) dX4_left_9 (by decide) ?_
    refine zc_S (as := [.int f, .int (nI 0), .int (nI 10)]) X (pc := 11) (c_X4_within lq D t f (nI 0) (nI 10) ) tw_180 tw_182 tw_1 tw_181 [] rfl rfl dX4_left_11 rfl zdX4_within ⟨rfl, rfl, Nat.le_of_ble_eq_true rfl, Nat.le_of_ble_eq_true rfl⟩ (Nat.le_of_ble_eq_true rfl) (Nat.zero_le _) (Nat.zero_le _) (fun v_4 w_5 hp_6 => ?_)
    obtain ⟨rfl, rfl⟩ := hp_6
    refine ⟨rfl, ?_⟩
    refine z_eq (ws2 := [eX4 h hT hN hU hA hK hW hL hZ (nI sg) (nI ev), eX0 hN (nI (s 0)) (nI (s 1)) (nI (s 2)) (nI (s 3)) (nI (s 4)), eX0 hU b0 b1 b2 b3 b4, eX3 hW hr hn ho g0 g1 g2 g3 g4 g5, eL t hr 33 f1, eL t hn 33 f2, eL t ho 11 f3]) (st2 := [.int (zb ((nI 0) ≤ f ∧ f ≤ (nI 10)))]) rfl rfl rfl ?_
    refine z_if_neB X (pc := 14) 19 dX4_left_14 (by decide) (fun c_14 => ?_) (fun c_14 => ?_)
    · skip
      obtain ⟨en, en_lo, en_hi, rfl⟩ := inR (by decide) (by decide) c_4
      obtain ⟨q, q_lo, q_hi, rfl⟩ := inR (by decide) (by decide) c_14
      refine z_aload_n X (pc := 19) 0 dX4_left_19 rfl ?_
      refine z_iload_n X (pc := 20) 1 dX4_left_20 rfl ?_
      refine zc_V (as := [.int (nI en)]) X (pc := 21) (c_X4_walkToEnd lq D t h hT hN hU hA hK hW hL hZ sg ev s hr hn ho b0 b1 b2 b3 b4 g0 g1 g2 g3 g4 g5 f1 f2 f3 en hsk (by omega)) tw_365 tw_368 tw_1 tw_367 tw_1012 0 4 rfl rfl [0, 1, 2, 3, 4, 5, 6] rfl rfl dX4_left_21 rfl zdX4_walkToEnd ⟨rfl, rfl, Nat.le_of_ble_eq_true rfl, Nat.le_of_ble_eq_true rfl⟩ (Nat.le_of_ble_eq_true rfl) (Nat.zero_le _) (Nat.zero_le _) (fun v_7 w_8 hp_9 => ?_)
      obtain ⟨mt2_10, hr2_11, hn2_12, F2_13, rfl, rfl⟩ := hp_9
      refine ⟨rfl, ?_⟩
      refine z_eq (ws2 := [eX4 h hT hN hU hA hK hW hL hZ (nI sg) (nI ev), eX0 hN (nI (s 0)) (nI (s 1)) (nI (s 2)) (nI (s 3)) (nI (s 4)), eX0 hU (nI (s 0)) (nI (s 1)) (nI (s 2)) (nI (s 3)) (nI (s 4)), eX3 hW hr2_11 hn2_12 ho (nI en) (nI (s 3)) (nI (s 4)) mt2_10 (lN 4398046511104 - lN ((wrun (s 3) (s 4) en (s 0 + s 1) 21 (wst0 en (s 0) (s 1) (s 2)) 21).2.2.1)) (lN ((wrun (s 3) (s 4) en (s 0 + s 1) 21 (wst0 en (s 0) (s 1) (s 2)) 21).2.2.2)), eL t hr2_11 33 (lf (fun j => (wrun (s 3) (s 4) en (s 0 + s 1) 21 (wst0 en (s 0) (s 1) (s 2)) 21).1 j * 4 ^ (0))), eL t hn2_12 33 F2_13, eL t ho 11 (lf ((wrun (s 3) (s 4) en (s 0 + s 1) 21 (wst0 en (s 0) (s 1) (s 2)) 21).2.1))]) (st2 := [.long (lN (rch (s 3) (s 4) en (s 0) (s 1) (s 2)))]) rfl rfl rfl ?_
      refine z_pop2 X (pc := 24) dX4_left_24 rfl ?_
      refine z_aload_n X (pc := 25) 0 dX4_left_25 rfl ?_
      refine z_get X (pc := 26) 0 5 (.ref hW) tu_4 tw_149 dX4_left_26 rfl rfl (by decide) rfl rfl ?_
      refine z_iload_n X (pc := 29) 2 dX4_left_29 rfl ?_
      refine zc_V (as := [.int (nI q)]) X (pc := 30) (c_X3_chanceOfOther lq D t hW hr2_11 hn2_12 ho en (s 3) (s 4) mt2_10 (lN 4398046511104 - lN ((wrun (s 3) (s 4) en (s 0 + s 1) 21 (wst0 en (s 0) (s 1) (s 2)) 21).2.2.1)) (lN ((wrun (s 3) (s 4) en (s 0 + s 1) 21 (wst0 en (s 0) (s 1) (s 2)) 21).2.2.2)) ((wrun (s 3) (s 4) en (s 0 + s 1) 21 (wst0 en (s 0) (s 1) (s 2)) 21).2.1) q q_hi) tw_403 tw_406 tw_6 tw_404 tw_405 0 3 rfl rfl [3, 6] rfl rfl dX4_left_30 rfl zdX3_chanceOfOther ⟨rfl, rfl, Nat.le_of_ble_eq_true rfl, Nat.le_of_ble_eq_true rfl⟩ (Nat.le_of_ble_eq_true rfl) (Nat.zero_le _) (Nat.zero_le _) (fun v_14 w_15 hp_16 => ?_)
      obtain ⟨rfl, rfl⟩ := hp_16
      refine ⟨rfl, ?_⟩
      refine z_eq (ws2 := [eX4 h hT hN hU hA hK hW hL hZ (nI sg) (nI ev), eX0 hN (nI (s 0)) (nI (s 1)) (nI (s 2)) (nI (s 3)) (nI (s 4)), eX0 hU (nI (s 0)) (nI (s 1)) (nI (s 2)) (nI (s 3)) (nI (s 4)), eX3 hW hr2_11 hn2_12 ho (nI en) (nI (s 3)) (nI (s 4)) mt2_10 (lN 4398046511104 - lN ((wrun (s 3) (s 4) en (s 0 + s 1) 21 (wst0 en (s 0) (s 1) (s 2)) 21).2.2.1)) (lN ((wrun (s 3) (s 4) en (s 0 + s 1) 21 (wst0 en (s 0) (s 1) (s 2)) 21).2.2.2)), eL t hr2_11 33 (lf (fun j => (wrun (s 3) (s 4) en (s 0 + s 1) 21 (wst0 en (s 0) (s 1) (s 2)) 21).1 j * 4 ^ (0))), eL t hn2_12 33 F2_13, eL t ho 11 (lf ((wrun (s 3) (s 4) en (s 0 + s 1) 21 (wst0 en (s 0) (s 1) (s 2)) 21).2.1))]) (st2 := [.long (lN (((wrun (s 3) (s 4) en (s 0 + s 1) 21 (wst0 en (s 0) (s 1) (s 2)) 21).2.1) q))]) rfl rfl rfl ?_
      refine zc_S (as := [.long (lN (((wrun (s 3) (s 4) en (s 0 + s 1) 21 (wst0 en (s 0) (s 1) (s 2)) 21).2.1) q))]) X (pc := 33) (c_X4_tenThousandthsN lq D t (((wrun (s 3) (s 4) en (s 0 + s 1) 21 (wst0 en (s 0) (s 1) (s 2)) 21).2.1) q) (rn_os hs4 hs0 hs1 hs2)) tw_408 tw_410 tw_1 tw_409 [] rfl rfl dX4_left_33 rfl zdX4_tenThousandths ⟨rfl, rfl, Nat.le_of_ble_eq_true rfl, Nat.le_of_ble_eq_true rfl⟩ (Nat.le_of_ble_eq_true rfl) (Nat.zero_le _) (Nat.zero_le _) (fun v_17 w_18 hp_19 => ?_)
      obtain ⟨rfl, rfl⟩ := hp_19
      refine ⟨rfl, ?_⟩
      refine z_eq (ws2 := [eX4 h hT hN hU hA hK hW hL hZ (nI sg) (nI ev), eX0 hN (nI (s 0)) (nI (s 1)) (nI (s 2)) (nI (s 3)) (nI (s 4)), eX0 hU (nI (s 0)) (nI (s 1)) (nI (s 2)) (nI (s 3)) (nI (s 4)), eX3 hW hr2_11 hn2_12 ho (nI en) (nI (s 3)) (nI (s 4)) mt2_10 (lN 4398046511104 - lN ((wrun (s 3) (s 4) en (s 0 + s 1) 21 (wst0 en (s 0) (s 1) (s 2)) 21).2.2.1)) (lN ((wrun (s 3) (s 4) en (s 0 + s 1) 21 (wst0 en (s 0) (s 1) (s 2)) 21).2.2.2)), eL t hr2_11 33 (lf (fun j => (wrun (s 3) (s 4) en (s 0 + s 1) 21 (wst0 en (s 0) (s 1) (s 2)) 21).1 j * 4 ^ (0))), eL t hn2_12 33 F2_13, eL t ho 11 (lf ((wrun (s 3) (s 4) en (s 0 + s 1) 21 (wst0 en (s 0) (s 1) (s 2)) 21).2.1))]) (st2 := [.int (nI ((((wrun (s 3) (s 4) en (s 0 + s 1) 21 (wst0 en (s 0) (s 1) (s 2)) 21).2.1) q) * 10000 / 4398046511104))]) rfl rfl rfl ?_
      exact hRet.i dX4_left_36 ⟨(nI (s 0)), (nI (s 1)), (nI (s 2)), (nI (s 3)), (nI (s 4)), hr2_11, hn2_12, (nI en), (nI (s 3)), (nI (s 4)), mt2_10, (lN 4398046511104 - lN ((wrun (s 3) (s 4) en (s 0 + s 1) 21 (wst0 en (s 0) (s 1) (s 2)) 21).2.2.1)), (lN ((wrun (s 3) (s 4) en (s 0 + s 1) 21 (wst0 en (s 0) (s 1) (s 2)) 21).2.2.2)), (lf (fun j => (wrun (s 3) (s 4) en (s 0 + s 1) 21 (wst0 en (s 0) (s 1) (s 2)) 21).1 j * 4 ^ (0))), F2_13, (lf ((wrun (s 3) (s 4) en (s 0 + s 1) 21 (wst0 en (s 0) (s 1) (s 2)) 21).2.1)), by rw [dz_ok (j := en) (a := 0) (b := 1) (by decide) en_lo en_hi, dz_ok (j := q) (a := 0) (b := 10) (by decide) q_lo q_hi]; rfl, rfl⟩
    · skip
      refine z_iconst X (pc := 17) (-1) dX4_left_17 (by decide) ?_
      exact hRet.i dX4_left_18 ⟨b0, b1, b2, b3, b4, hr, hn, g0, g1, g2, g3, g4, g5, f1, f2, f3, by rw [dz_bad (a := 0) (b := 10) c_14]; cases dz 0 1 e <;> rfl, rfl⟩

abbrev rm_X4_mean : Room := { frames := 5, cells := 0, slots := 0, locals := 123 }
set_option maxHeartbeats 4000000 in
set_option maxRecDepth 100000 in
theorem c_X4_mean (lq : Launch) (D : va_G) (t : zT) (h hT hN hU hA hK hW hL hZ sg ev : Nat) (s : Nat → Nat) (hr hn ho : Nat) (b0 b1 b2 b3 b4 g0 g1 g2 g3 : Int32) (g4 g5 : Int64) (f1 f2 f3 : Nat → Int64) (e : Int32) (hs : sOk s) : Ct lq D t yX4_mean cX4_mean 5 (some .int) rm_X4_mean [.ref h, .int e] [eX4 h hT hN hU hA hK hW hL hZ (nI sg) (nI ev), eX0 hN (nI (s 0)) (nI (s 1)) (nI (s 2)) (nI (s 3)) (nI (s 4)), eX0 hU b0 b1 b2 b3 b4, eX3 hW hr hn ho g0 g1 g2 g3 g4 g5, eL t hr 33 f1, eL t hn 33 f2, eL t ho 11 f3] 0 0 (fun rv rw_ => ∃ (B0 : Int32) (B1 : Int32) (B2 : Int32) (B3 : Int32) (B4 : Int32) (hr2 : Nat) (hn2 : Nat) (G0 : Int32) (G1 : Int32) (G2 : Int32) (G3 : Int32) (G4 : Int64) (G5 : Int64) (F1 : Nat → Int64) (F2 : Nat → Int64) (F3 : Nat → Int64), rv = some (.int (an_mean s (dz 0 1 e))) ∧ rw_ = [eX4 h hT hN hU hA hK hW hL hZ (nI sg) (nI ev), eX0 hN (nI (s 0)) (nI (s 1)) (nI (s 2)) (nI (s 3)) (nI (s 4)), eX0 hU B0 B1 B2 B3 B4, eX3 hW hr2 hn2 ho G0 G1 G2 G3 G4 G5, eL t hr2 33 F1, eL t hn2 33 F2, eL t ho 11 F3]) := by
  refine Ct.of (by decide) (Nat.le_of_ble_eq_true rfl) (fun k X hRet => ?_)
  have X : zX D t k cX4_mean 5 RX4 "mean" rm_X4_mean lq := X
  refine z_eq (lv2 := [(0, .ref h), (1, .int e)]) rfl rfl rfl ?_
  have hsk := hs
  obtain ⟨hs0, hs1, hs2, hs3, hs4⟩ := hs
  refine z_iload_n X (pc := 0) 1 dX4_mean_0 rfl ?_
  refine zc_S (as := [.int e]) X (pc := 1) (c_X4_isEnd lq D t e ) tw_362 tw_364 tw_1 tw_363 [] rfl rfl dX4_mean_1 rfl zdX4_isEnd ⟨rfl, rfl, Nat.le_of_ble_eq_true rfl, Nat.le_of_ble_eq_true rfl⟩ (Nat.le_of_ble_eq_true rfl) (Nat.zero_le _) (Nat.zero_le _) (fun v_1 w_2 hp_3 => ?_)
  obtain ⟨rfl, rfl⟩ := hp_3
  refine ⟨rfl, ?_⟩
  refine z_eq (ws2 := [eX4 h hT hN hU hA hK hW hL hZ (nI sg) (nI ev), eX0 hN (nI (s 0)) (nI (s 1)) (nI (s 2)) (nI (s 3)) (nI (s 4)), eX0 hU b0 b1 b2 b3 b4, eX3 hW hr hn ho g0 g1 g2 g3 g4 g5, eL t hr 33 f1, eL t hn 33 f2, eL t ho 11 f3]) (st2 := [.int (zb (nI 0 ≤ e ∧ e ≤ nI 1))]) rfl rfl rfl ?_
  refine z_if_neB X (pc := 4) 9 dX4_mean_4 (by decide) (fun c_4 => ?_) (fun c_4 => ?_)
  · skip
    obtain ⟨en, en_lo, en_hi, rfl⟩ := inR (by decide) (by decide) c_4
    refine z_aload_n X (pc := 9) 0 dX4_mean_9 rfl ?_
    refine z_iload_n X (pc := 10) 1 dX4_mean_10 rfl ?_
    refine zc_V (as := [.int (nI en)]) X (pc := 11) (c_X4_walkToEnd lq D t h hT hN hU hA hK hW hL hZ sg ev s hr hn ho b0 b1 b2 b3 b4 g0 g1 g2 g3 g4 g5 f1 f2 f3 en hsk (by omega)) tw_365 tw_368 tw_1 tw_367 tw_1012 0 4 rfl rfl [0, 1, 2, 3, 4, 5, 6] rfl rfl dX4_mean_11 rfl zdX4_walkToEnd ⟨rfl, rfl, Nat.le_of_ble_eq_true rfl, Nat.le_of_ble_eq_true rfl⟩ (Nat.le_of_ble_eq_true rfl) (Nat.zero_le _) (Nat.zero_le _) (fun v_4 w_5 hp_6 => ?_)
    obtain ⟨mt2_7, hr2_8, hn2_9, F2_10, rfl, rfl⟩ := hp_6
    refine ⟨rfl, ?_⟩
    refine z_eq (ws2 := [eX4 h hT hN hU hA hK hW hL hZ (nI sg) (nI ev), eX0 hN (nI (s 0)) (nI (s 1)) (nI (s 2)) (nI (s 3)) (nI (s 4)), eX0 hU (nI (s 0)) (nI (s 1)) (nI (s 2)) (nI (s 3)) (nI (s 4)), eX3 hW hr2_8 hn2_9 ho (nI en) (nI (s 3)) (nI (s 4)) mt2_7 (lN 4398046511104 - lN ((wrun (s 3) (s 4) en (s 0 + s 1) 21 (wst0 en (s 0) (s 1) (s 2)) 21).2.2.1)) (lN ((wrun (s 3) (s 4) en (s 0 + s 1) 21 (wst0 en (s 0) (s 1) (s 2)) 21).2.2.2)), eL t hr2_8 33 (lf (fun j => (wrun (s 3) (s 4) en (s 0 + s 1) 21 (wst0 en (s 0) (s 1) (s 2)) 21).1 j * 4 ^ (0))), eL t hn2_9 33 F2_10, eL t ho 11 (lf ((wrun (s 3) (s 4) en (s 0 + s 1) 21 (wst0 en (s 0) (s 1) (s 2)) 21).2.1))]) (st2 := [.long (lN (rch (s 3) (s 4) en (s 0) (s 1) (s 2)))]) rfl rfl rfl ?_
    refine z_pop2 X (pc := 14) dX4_mean_14 rfl ?_
    refine z_lconst X (pc := 15) (lN 0) dX4_mean_15 (by decide) ?_
    refine z_lstore_n X (pc := 16) (i := 2) [(2, .long (lN 0)), (0, .ref h), (1, .int (nI en))] dX4_mean_16 rfl (by decide) rfl ?_
    refine z_iconst X (pc := 17) (nI 0) dX4_mean_17 (by decide) ?_
    refine z_istore X (pc := 18) (i := 4) [(4, .int (nI 0)), (2, .long (lN 0)), (0, .ref h), (1, .int (nI en))] dX4_mean_18 trivial (by decide) rfl ?_
    have loop_20 : ∀ (fuel_20 : Nat) (j : Nat) (su : Nat), 11 < j + fuel_20 → (j ≤ 11) → (su = sm (fun k => k * (wrun (s 3) (s 4) en (s 0 + s 1) 21 (wst0 en (s 0) (s 1) (s 2)) 21).2.1 k) j) → Z D k (0, 0) [eX4 h hT hN hU hA hK hW hL hZ (nI sg) (nI ev), eX0 hN (nI (s 0)) (nI (s 1)) (nI (s 2)) (nI (s 3)) (nI (s 4)), eX0 hU (nI (s 0)) (nI (s 1)) (nI (s 2)) (nI (s 3)) (nI (s 4)), eX3 hW hr2_8 hn2_9 ho (nI en) (nI (s 3)) (nI (s 4)) mt2_7 (lN 4398046511104 - lN ((wrun (s 3) (s 4) en (s 0 + s 1) 21 (wst0 en (s 0) (s 1) (s 2)) 21).2.2.1)) (lN ((wrun (s 3) (s 4) en (s 0 + s 1) 21 (wst0 en (s 0) (s 1) (s 2)) 21).2.2.2)), eL t hr2_8 33 (lf (fun j => (wrun (s 3) (s 4) en (s 0 + s 1) 21 (wst0 en (s 0) (s 1) (s 2)) 21).1 j * 4 ^ (0))), eL t hn2_9 33 F2_10, eL t ho 11 (lf ((wrun (s 3) (s 4) en (s 0 + s 1) 21 (wst0 en (s 0) (s 1) (s 2)) 21).2.1))] 20 [(0, .ref h), (2, .long (lN su)), (4, .int (nI j))] [] := by
      intro fuel_20
      induction fuel_20 with
      | zero =>
        intro j su hfuel_20 hj hsu
        exfalso; omega
      | succ fuel_20 ih_20 =>
        intro j su hfuel_20 hj hsu
        refine z_iload X (pc := 20) 2 dX4_mean_20 rfl ?_
        refine z_bipush X (pc := 22) (nI 10) dX4_mean_22 (by decide) ?_
        refine z_icmp_gtN X (pc := 24) 49 (by omega) (by omega) dX4_mean_24 (by decide) (fun c_24 => ?_) (fun c_24 => ?_)
        · skip
          refine z_lload_n X (pc := 49) 1 dX4_mean_49 rfl ?_
          obtain rfl : j = 11 := by omega
          refine zc_S (as := [.long (lN su)]) X (pc := 50) (c_X4_hundredfoldN lq D t su (by rw [hsu]; have h9 := sm_bound (f := fun k => k * (wrun (s 3) (s 4) en (s 0 + s 1) 21 (wst0 en (s 0) (s 1) (s 2)) 21).2.1 k) (c := 10 * 4398046511104) (n := 11) (fun k hk => Nat.mul_le_mul (by omega) (rn_os hs4 hs0 hs1 hs2)); omega)) tw_417 tw_419 tw_1 tw_418 [] rfl rfl dX4_mean_50 rfl zdX4_hundredfold ⟨rfl, rfl, Nat.le_of_ble_eq_true rfl, Nat.le_of_ble_eq_true rfl⟩ (Nat.le_of_ble_eq_true rfl) (Nat.zero_le _) (Nat.zero_le _) (fun v_11 w_12 hp_13 => ?_)
          obtain ⟨rfl, rfl⟩ := hp_13
          refine ⟨rfl, ?_⟩
          refine z_eq (ws2 := [eX4 h hT hN hU hA hK hW hL hZ (nI sg) (nI ev), eX0 hN (nI (s 0)) (nI (s 1)) (nI (s 2)) (nI (s 3)) (nI (s 4)), eX0 hU (nI (s 0)) (nI (s 1)) (nI (s 2)) (nI (s 3)) (nI (s 4)), eX3 hW hr2_8 hn2_9 ho (nI en) (nI (s 3)) (nI (s 4)) mt2_7 (lN 4398046511104 - lN ((wrun (s 3) (s 4) en (s 0 + s 1) 21 (wst0 en (s 0) (s 1) (s 2)) 21).2.2.1)) (lN ((wrun (s 3) (s 4) en (s 0 + s 1) 21 (wst0 en (s 0) (s 1) (s 2)) 21).2.2.2)), eL t hr2_8 33 (lf (fun j => (wrun (s 3) (s 4) en (s 0 + s 1) 21 (wst0 en (s 0) (s 1) (s 2)) 21).1 j * 4 ^ (0))), eL t hn2_9 33 F2_10, eL t ho 11 (lf ((wrun (s 3) (s 4) en (s 0 + s 1) 21 (wst0 en (s 0) (s 1) (s 2)) 21).2.1))]) (st2 := [.int (nI (su * 100 / 4398046511104))]) rfl rfl rfl ?_
          exact hRet.i dX4_mean_53 ⟨(nI (s 0)), (nI (s 1)), (nI (s 2)), (nI (s 3)), (nI (s 4)), hr2_8, hn2_9, (nI en), (nI (s 3)), (nI (s 4)), mt2_7, (lN 4398046511104 - lN ((wrun (s 3) (s 4) en (s 0 + s 1) 21 (wst0 en (s 0) (s 1) (s 2)) 21).2.2.1)), (lN ((wrun (s 3) (s 4) en (s 0 + s 1) 21 (wst0 en (s 0) (s 1) (s 2)) 21).2.2.2)), (lf (fun j => (wrun (s 3) (s 4) en (s 0 + s 1) 21 (wst0 en (s 0) (s 1) (s 2)) 21).1 j * 4 ^ (0))), F2_10, (lf ((wrun (s 3) (s 4) en (s 0 + s 1) 21 (wst0 en (s 0) (s 1) (s 2)) 21).2.1)), by rw [dz_ok (j := en) (a := 0) (b := 1) (by decide) en_lo en_hi, hsu]; rfl, rfl⟩
        · skip
          refine z_lload_n X (pc := 27) 1 dX4_mean_27 rfl ?_
          refine z_iload X (pc := 28) 2 dX4_mean_28 rfl ?_
          refine z_i2l X (pc := 30) (v := (lN j)) dX4_mean_30 (nI_l (by omega)) ?_
          refine z_aload_n X (pc := 31) 0 dX4_mean_31 rfl ?_
          refine z_get X (pc := 32) 0 5 (.ref hW) tu_4 tw_149 dX4_mean_32 rfl rfl (by decide) rfl rfl ?_
          refine z_iload X (pc := 35) 2 dX4_mean_35 rfl ?_
          refine zc_V (as := [.int (nI j)]) X (pc := 37) (c_X3_chanceOfOther lq D t hW hr2_8 hn2_9 ho en (s 3) (s 4) mt2_7 (lN 4398046511104 - lN ((wrun (s 3) (s 4) en (s 0 + s 1) 21 (wst0 en (s 0) (s 1) (s 2)) 21).2.2.1)) (lN ((wrun (s 3) (s 4) en (s 0 + s 1) 21 (wst0 en (s 0) (s 1) (s 2)) 21).2.2.2)) ((wrun (s 3) (s 4) en (s 0 + s 1) 21 (wst0 en (s 0) (s 1) (s 2)) 21).2.1) j (by omega)) tw_403 tw_406 tw_6 tw_404 tw_405 0 3 rfl rfl [3, 6] rfl rfl dX4_mean_37 rfl zdX3_chanceOfOther ⟨rfl, rfl, Nat.le_of_ble_eq_true rfl, Nat.le_of_ble_eq_true rfl⟩ (Nat.le_of_ble_eq_true rfl) (Nat.zero_le _) (Nat.zero_le _) (fun v_14 w_15 hp_16 => ?_)
          obtain ⟨rfl, rfl⟩ := hp_16
          refine ⟨rfl, ?_⟩
          refine z_eq (ws2 := [eX4 h hT hN hU hA hK hW hL hZ (nI sg) (nI ev), eX0 hN (nI (s 0)) (nI (s 1)) (nI (s 2)) (nI (s 3)) (nI (s 4)), eX0 hU (nI (s 0)) (nI (s 1)) (nI (s 2)) (nI (s 3)) (nI (s 4)), eX3 hW hr2_8 hn2_9 ho (nI en) (nI (s 3)) (nI (s 4)) mt2_7 (lN 4398046511104 - lN ((wrun (s 3) (s 4) en (s 0 + s 1) 21 (wst0 en (s 0) (s 1) (s 2)) 21).2.2.1)) (lN ((wrun (s 3) (s 4) en (s 0 + s 1) 21 (wst0 en (s 0) (s 1) (s 2)) 21).2.2.2)), eL t hr2_8 33 (lf (fun j => (wrun (s 3) (s 4) en (s 0 + s 1) 21 (wst0 en (s 0) (s 1) (s 2)) 21).1 j * 4 ^ (0))), eL t hn2_9 33 F2_10, eL t ho 11 (lf ((wrun (s 3) (s 4) en (s 0 + s 1) 21 (wst0 en (s 0) (s 1) (s 2)) 21).2.1))]) (st2 := [.long (lN (((wrun (s 3) (s 4) en (s 0 + s 1) 21 (wst0 en (s 0) (s 1) (s 2)) 21).2.1) j)), .long (lN j), .long (lN su)]) rfl rfl rfl ?_
          refine z_lmul X (pc := 40) (v := (lN (j * (((wrun (s 3) (s 4) en (s 0 + s 1) 21 (wst0 en (s 0) (s 1) (s 2)) 21).2.1) j)))) dX4_mean_40 (lN_mul _ _) ?_
          refine z_ladd X (pc := 41) (v := (lN (su + (j * (((wrun (s 3) (s 4) en (s 0 + s 1) 21 (wst0 en (s 0) (s 1) (s 2)) 21).2.1) j))))) dX4_mean_41 (lN_add su (j * (((wrun (s 3) (s 4) en (s 0 + s 1) 21 (wst0 en (s 0) (s 1) (s 2)) 21).2.1) j))) ?_
          refine z_lstore_n X (pc := 42) (i := 2) [(2, .long (lN (su + (j * (((wrun (s 3) (s 4) en (s 0 + s 1) 21 (wst0 en (s 0) (s 1) (s 2)) 21).2.1) j))))), (0, .ref h), (4, .int (nI j))] dX4_mean_42 rfl (by decide) rfl ?_
          refine z_iinc X (pc := 43) (i := 4) 2 (nI (j + 1)) [(4, .int (nI (j + 1))), (2, .long (lN (su + (j * (((wrun (s 3) (s 4) en (s 0 + s 1) 21 (wst0 en (s 0) (s 1) (s 2)) 21).2.1) j))))), (0, .ref h)] dX4_mean_43 rfl (nI_incc j 1) (by decide) rfl ?_
          refine z_goto X (pc := 46) 20 dX4_mean_46 (by decide) ?_
          refine z_lv [2, 1, 0] (lv2 := [(0, .ref h), (2, .long (lN (su + (j * (((wrun (s 3) (s 4) en (s 0 + s 1) 21 (wst0 en (s 0) (s 1) (s 2)) 21).2.1) j))))), (4, .int (nI (j + 1)))]) rfl ?_
          exact ih_20 (j + 1) (su + j * (wrun (s 3) (s 4) en (s 0 + s 1) 21 (wst0 en (s 0) (s 1) (s 2)) 21).2.1 j) (by omega) (by omega) (by rw [sm_s, hsu])
    refine z_lv [2, 1, 0] (lv2 := [(0, .ref h), (2, .long (lN 0)), (4, .int (nI 0))]) rfl ?_
    exact loop_20 12 0 0 (by omega) (by omega) (sm_z _).symm
  · skip
    refine z_iconst X (pc := 7) (-1) dX4_mean_7 (by decide) ?_
    exact hRet.i dX4_mean_8 ⟨b0, b1, b2, b3, b4, hr, hn, g0, g1, g2, g3, g4, g5, f1, f2, f3, by rw [dz_bad c_4]; rfl, rfl⟩

abbrev rm_X4_soon : Room := { frames := 4, cells := 0, slots := 0, locals := 101 }
set_option maxHeartbeats 4000000 in
set_option maxRecDepth 100000 in
theorem c_X4_soon (lq : Launch) (D : va_G) (t : zT) (h hT hN hU hA hK hW hL hZ sg ev : Nat) (s : Nat → Nat) (hr hn ho : Nat) (b0 b1 b2 b3 b4 g0 g1 g2 g3 : Int32) (g4 g5 : Int64) (f1 f2 f3 : Nat → Int64) (e f : Int32) (hs : sOk s) : Ct lq D t yX4_soon cX4_soon 3 (some .int) rm_X4_soon [.ref h, .int e, .int f] [eX4 h hT hN hU hA hK hW hL hZ (nI sg) (nI ev), eX0 hN (nI (s 0)) (nI (s 1)) (nI (s 2)) (nI (s 3)) (nI (s 4)), eX0 hU b0 b1 b2 b3 b4, eX3 hW hr hn ho g0 g1 g2 g3 g4 g5, eL t hr 33 f1, eL t hn 33 f2, eL t ho 11 f3] 0 0 (fun rv rw_ => ∃ (B0 : Int32) (B1 : Int32) (B2 : Int32) (B3 : Int32) (B4 : Int32) (hr2 : Nat) (hn2 : Nat) (G0 : Int32) (G1 : Int32) (G2 : Int32) (G3 : Int32) (G4 : Int64) (G5 : Int64) (F1 : Nat → Int64) (F2 : Nat → Int64) (F3 : Nat → Int64), rv = some (.int (an_soon s (dz 0 1 e) (dz 0 21 f))) ∧ rw_ = [eX4 h hT hN hU hA hK hW hL hZ (nI sg) (nI ev), eX0 hN (nI (s 0)) (nI (s 1)) (nI (s 2)) (nI (s 3)) (nI (s 4)), eX0 hU B0 B1 B2 B3 B4, eX3 hW hr2 hn2 ho G0 G1 G2 G3 G4 G5, eL t hr2 33 F1, eL t hn2 33 F2, eL t ho 11 F3]) := by
  refine Ct.of (by decide) (Nat.le_of_ble_eq_true rfl) (fun k X hRet => ?_)
  have X : zX D t k cX4_soon 3 RX4 "soon" rm_X4_soon lq := X
  refine z_eq (lv2 := [(0, .ref h), (1, .int e), (2, .int f)]) rfl rfl rfl ?_
  have hsk := hs
  obtain ⟨hs0, hs1, hs2, hs3, hs4⟩ := hs
  refine z_iload_n X (pc := 0) 1 dX4_soon_0 rfl ?_
  refine zc_S (as := [.int e]) X (pc := 1) (c_X4_isEnd lq D t e ) tw_362 tw_364 tw_1 tw_363 [] rfl rfl dX4_soon_1 rfl zdX4_isEnd ⟨rfl, rfl, Nat.le_of_ble_eq_true rfl, Nat.le_of_ble_eq_true rfl⟩ (Nat.le_of_ble_eq_true rfl) (Nat.zero_le _) (Nat.zero_le _) (fun v_1 w_2 hp_3 => ?_)
  obtain ⟨rfl, rfl⟩ := hp_3
  refine ⟨rfl, ?_⟩
  refine z_eq (ws2 := [eX4 h hT hN hU hA hK hW hL hZ (nI sg) (nI ev), eX0 hN (nI (s 0)) (nI (s 1)) (nI (s 2)) (nI (s 3)) (nI (s 4)), eX0 hU b0 b1 b2 b3 b4, eX3 hW hr hn ho g0 g1 g2 g3 g4 g5, eL t hr 33 f1, eL t hn 33 f2, eL t ho 11 f3]) (st2 := [.int (zb (nI 0 ≤ e ∧ e ≤ nI 1))]) rfl rfl rfl ?_
  refine z_if_eqB X (pc := 4) 17 dX4_soon_4 (by decide) (fun c_4 => ?_) (fun c_4 => ?_)
  · skip
    refine z_iconst X (pc := 17) (-1) dX4_soon_17 (by decide) ?_
    exact hRet.i dX4_soon_18 ⟨b0, b1, b2, b3, b4, hr, hn, g0, g1, g2, g3, g4, g5, f1, f2, f3, by rw [dz_bad (a := 0) (b := 1) c_4]; rfl, rfl⟩
  · skip
    refine z_iload_n X (pc := 7) 2 dX4_soon_7 rfl ?_
    refine z_iconst X (pc := 8) (nI 0) dX4_soon_8 (by decide) ?_
    refine z_bipush X (pc := 9) (nI 21) dX4_soon_9 (by decide) ?_
    refine zc_S (as := [.int f, .int (nI 0), .int (nI 21)]) X (pc := 11) (c_X4_within lq D t f (nI 0) (nI 21) ) tw_180 tw_182 tw_1 tw_181 [] rfl rfl dX4_soon_11 rfl zdX4_within ⟨rfl, rfl, Nat.le_of_ble_eq_true rfl, Nat.le_of_ble_eq_true rfl⟩ (Nat.le_of_ble_eq_true rfl) (Nat.zero_le _) (Nat.zero_le _) (fun v_4 w_5 hp_6 => ?_)
    obtain ⟨rfl, rfl⟩ := hp_6
    refine ⟨rfl, ?_⟩
    refine z_eq (ws2 := [eX4 h hT hN hU hA hK hW hL hZ (nI sg) (nI ev), eX0 hN (nI (s 0)) (nI (s 1)) (nI (s 2)) (nI (s 3)) (nI (s 4)), eX0 hU b0 b1 b2 b3 b4, eX3 hW hr hn ho g0 g1 g2 g3 g4 g5, eL t hr 33 f1, eL t hn 33 f2, eL t ho 11 f3]) (st2 := [.int (zb ((nI 0) ≤ f ∧ f ≤ (nI 21)))]) rfl rfl rfl ?_
    refine z_if_neB X (pc := 14) 19 dX4_soon_14 (by decide) (fun c_14 => ?_) (fun c_14 => ?_)
    · skip
      obtain ⟨en, en_lo, en_hi, rfl⟩ := inR (by decide) (by decide) c_4
      obtain ⟨n, n_lo, n_hi, rfl⟩ := inR (by decide) (by decide) c_14
      refine z_aload_n X (pc := 19) 0 dX4_soon_19 rfl ?_
      refine z_aload_n X (pc := 20) 0 dX4_soon_20 rfl ?_
      refine z_get X (pc := 21) 0 1 (.ref hN) tu_4 tw_145 dX4_soon_21 rfl rfl (by decide) rfl rfl ?_
      refine z_get X (pc := 24) 1 0 (.int (nI (s 0))) tu_0 tw_30 dX4_soon_24 rfl rfl (by decide) rfl rfl ?_
      refine z_aload_n X (pc := 27) 0 dX4_soon_27 rfl ?_
      refine z_get X (pc := 28) 0 1 (.ref hN) tu_4 tw_145 dX4_soon_28 rfl rfl (by decide) rfl rfl ?_
      refine z_get X (pc := 31) 1 1 (.int (nI (s 1))) tu_0 tw_33 dX4_soon_31 rfl rfl (by decide) rfl rfl ?_
      refine z_iload_n X (pc := 34) 1 dX4_soon_34 rfl ?_
      refine zc_V (as := [.int (nI (s 0)), .int (nI (s 1)), .int (nI en)]) X (pc := 35) (c_X4_startFrom lq D t h hT hN hU hA hK hW hL hZ sg ev s hr hn ho b0 b1 b2 b3 b4 g0 g1 g2 g3 g4 g5 f1 f2 f3 (s 0) (s 1) en hsk (by omega) (by omega) (by omega)) tw_369 tw_372 tw_1 tw_371 tw_1013 0 4 rfl rfl [0, 1, 2, 3, 4, 5, 6] rfl rfl dX4_soon_35 rfl zdX4_startFrom ⟨rfl, rfl, Nat.le_of_ble_eq_true rfl, Nat.le_of_ble_eq_true rfl⟩ (Nat.le_of_ble_eq_true rfl) (Nat.zero_le _) (Nat.zero_le _) (fun v_7 w_8 hp_9 => ?_)
      obtain ⟨rfl, rfl⟩ := hp_9
      refine ⟨rfl, ?_⟩
      refine z_eq (ws2 := [eX4 h hT hN hU hA hK hW hL hZ (nI sg) (nI ev), eX0 hN (nI (s 0)) (nI (s 1)) (nI (s 2)) (nI (s 3)) (nI (s 4)), eX0 hU (nI (s 0)) (nI (s 1)) (nI (s 2)) (nI (s 3)) (nI (s 4)), eX3 hW hr hn ho (nI en) (nI (s 3)) (nI (s 4)) (nI ((s 0) + (s 1))) (lN 4398046511104 - lN ((wst0 en (s 0) (s 1) (s 2)).2.2.1)) (lN ((wst0 en (s 0) (s 1) (s 2)).2.2.2)), eL t hr 33 (lf (fun j => (wst0 en (s 0) (s 1) (s 2)).1 j * 4 ^ 21)), eL t hn 33 f2, eL t ho 11 (lf ((wst0 en (s 0) (s 1) (s 2)).2.1))]) (st2 := []) rfl rfl rfl ?_
      refine z_aload_n X (pc := 38) 0 dX4_soon_38 rfl ?_
      refine z_get X (pc := 39) 0 5 (.ref hW) tu_4 tw_149 dX4_soon_39 rfl rfl (by decide) rfl rfl ?_
      refine z_iload_n X (pc := 42) 2 dX4_soon_42 rfl ?_
      refine zc_V (as := [.int (nI n)]) X (pc := 43) (c_X3_advance lq D t hW hr hn ho en (s 3) (s 4) (s 0 + s 1) 21 (nI ((s 0) + (s 1))) (wst0 en (s 0) (s 1) (s 2)) f2 n (by omega) (by omega) (by omega) (by omega) (by decide) (wok0 hs0 hs1 hs2) (fun _ => rfl) (by omega)) tw_425 tw_428 tw_6 tw_426 tw_427 0 3 rfl rfl [3, 4, 5, 6] rfl rfl dX4_soon_43 rfl zdX3_advance ⟨rfl, rfl, Nat.le_of_ble_eq_true rfl, Nat.le_of_ble_eq_true rfl⟩ (Nat.le_of_ble_eq_true rfl) (Nat.zero_le _) (Nat.zero_le _) (fun v_10 w_11 hp_12 => ?_)
      obtain ⟨mt2_13, hr2_14, hn2_15, f2_16, hf_17, rfl, rfl⟩ := hp_12
      refine ⟨rfl, ?_⟩
      refine z_eq (ws2 := [eX4 h hT hN hU hA hK hW hL hZ (nI sg) (nI ev), eX0 hN (nI (s 0)) (nI (s 1)) (nI (s 2)) (nI (s 3)) (nI (s 4)), eX0 hU (nI (s 0)) (nI (s 1)) (nI (s 2)) (nI (s 3)) (nI (s 4)), eX3 hW hr2_14 hn2_15 ho (nI en) (nI (s 3)) (nI (s 4)) mt2_13 (lN 4398046511104 - lN ((wrun (s 3) (s 4) en (s 0 + s 1) 21 (wst0 en (s 0) (s 1) (s 2)) n).2.2.1)) (lN ((wrun (s 3) (s 4) en (s 0 + s 1) 21 (wst0 en (s 0) (s 1) (s 2)) n).2.2.2)), eL t hr2_14 33 (lf (fun j => (wrun (s 3) (s 4) en (s 0 + s 1) 21 (wst0 en (s 0) (s 1) (s 2)) n).1 j * 4 ^ (21 - n))), eL t hn2_15 33 f2_16, eL t ho 11 (lf ((wrun (s 3) (s 4) en (s 0 + s 1) 21 (wst0 en (s 0) (s 1) (s 2)) n).2.1))]) (st2 := []) rfl rfl rfl ?_
      refine z_ldc2 X (pc := 46) (4398046511104) dX4_soon_46 tw_412 ?_
      refine z_topl (lN 4398046511104) rfl ?_
      refine z_aload_n X (pc := 49) 0 dX4_soon_49 rfl ?_
      refine z_get X (pc := 50) 0 5 (.ref hW) tu_4 tw_149 dX4_soon_50 rfl rfl (by decide) rfl rfl ?_
      refine zc_V (as := []) X (pc := 53) (c_X3_standing lq D t hW hr2_14 hn2_15 ho en (s 3) (s 4) mt2_13 (lN 4398046511104 - lN ((wrun (s 3) (s 4) en (s 0 + s 1) 21 (wst0 en (s 0) (s 1) (s 2)) n).2.2.1)) (lN ((wrun (s 3) (s 4) en (s 0 + s 1) 21 (wst0 en (s 0) (s 1) (s 2)) n).2.2.2)) ) tw_429 tw_432 tw_6 tw_430 tw_431 0 3 rfl rfl [3] rfl rfl dX4_soon_53 rfl zdX3_standing ⟨rfl, rfl, Nat.le_of_ble_eq_true rfl, Nat.le_of_ble_eq_true rfl⟩ (Nat.le_of_ble_eq_true rfl) (Nat.zero_le _) (Nat.zero_le _) (fun v_18 w_19 hp_20 => ?_)
      obtain ⟨rfl, rfl⟩ := hp_20
      refine ⟨rfl, ?_⟩
      refine z_eq (ws2 := [eX4 h hT hN hU hA hK hW hL hZ (nI sg) (nI ev), eX0 hN (nI (s 0)) (nI (s 1)) (nI (s 2)) (nI (s 3)) (nI (s 4)), eX0 hU (nI (s 0)) (nI (s 1)) (nI (s 2)) (nI (s 3)) (nI (s 4)), eX3 hW hr2_14 hn2_15 ho (nI en) (nI (s 3)) (nI (s 4)) mt2_13 (lN 4398046511104 - lN ((wrun (s 3) (s 4) en (s 0 + s 1) 21 (wst0 en (s 0) (s 1) (s 2)) n).2.2.1)) (lN ((wrun (s 3) (s 4) en (s 0 + s 1) 21 (wst0 en (s 0) (s 1) (s 2)) n).2.2.2)), eL t hr2_14 33 (lf (fun j => (wrun (s 3) (s 4) en (s 0 + s 1) 21 (wst0 en (s 0) (s 1) (s 2)) n).1 j * 4 ^ (21 - n))), eL t hn2_15 33 f2_16, eL t ho 11 (lf ((wrun (s 3) (s 4) en (s 0 + s 1) 21 (wst0 en (s 0) (s 1) (s 2)) n).2.1))]) (st2 := [.long (lN 4398046511104 - lN ((wrun (s 3) (s 4) en (s 0 + s 1) 21 (wst0 en (s 0) (s 1) (s 2)) n).2.2.1)), .long (lN 4398046511104)]) rfl rfl rfl ?_
      refine z_topl (lN (4398046511104 - (rn (s 3) (s 4) en (s 0) (s 1) (s 2) n).2.2.1)) (lN_som (rn_e hs4 hs0 hs1 hs2)) ?_
      refine z_lsub X (pc := 56) (v := (lN (4398046511104 - (4398046511104 - (rn (s 3) (s 4) en (s 0) (s 1) (s 2) n).2.2.1)))) dX4_soon_56 (lN_sub (by omega)) ?_
      refine z_topl (lN ((rn (s 3) (s 4) en (s 0) (s 1) (s 2) n).2.2.1)) (by rw [Nat.sub_sub_self (rn_e hs4 hs0 hs1 hs2)]) ?_
      refine zc_S (as := [.long (lN ((rn (s 3) (s 4) en (s 0) (s 1) (s 2) n).2.2.1))]) X (pc := 57) (c_X4_tenThousandthsN lq D t ((rn (s 3) (s 4) en (s 0) (s 1) (s 2) n).2.2.1) (rn_e hs4 hs0 hs1 hs2)) tw_408 tw_410 tw_1 tw_409 [] rfl rfl dX4_soon_57 rfl zdX4_tenThousandths ⟨rfl, rfl, Nat.le_of_ble_eq_true rfl, Nat.le_of_ble_eq_true rfl⟩ (Nat.le_of_ble_eq_true rfl) (Nat.zero_le _) (Nat.zero_le _) (fun v_21 w_22 hp_23 => ?_)
      obtain ⟨rfl, rfl⟩ := hp_23
      refine ⟨rfl, ?_⟩
      refine z_eq (ws2 := [eX4 h hT hN hU hA hK hW hL hZ (nI sg) (nI ev), eX0 hN (nI (s 0)) (nI (s 1)) (nI (s 2)) (nI (s 3)) (nI (s 4)), eX0 hU (nI (s 0)) (nI (s 1)) (nI (s 2)) (nI (s 3)) (nI (s 4)), eX3 hW hr2_14 hn2_15 ho (nI en) (nI (s 3)) (nI (s 4)) mt2_13 (lN 4398046511104 - lN ((wrun (s 3) (s 4) en (s 0 + s 1) 21 (wst0 en (s 0) (s 1) (s 2)) n).2.2.1)) (lN ((wrun (s 3) (s 4) en (s 0 + s 1) 21 (wst0 en (s 0) (s 1) (s 2)) n).2.2.2)), eL t hr2_14 33 (lf (fun j => (wrun (s 3) (s 4) en (s 0 + s 1) 21 (wst0 en (s 0) (s 1) (s 2)) n).1 j * 4 ^ (21 - n))), eL t hn2_15 33 f2_16, eL t ho 11 (lf ((wrun (s 3) (s 4) en (s 0 + s 1) 21 (wst0 en (s 0) (s 1) (s 2)) n).2.1))]) (st2 := [.int (nI (((rn (s 3) (s 4) en (s 0) (s 1) (s 2) n).2.2.1) * 10000 / 4398046511104))]) rfl rfl rfl ?_
      exact hRet.i dX4_soon_60 ⟨(nI (s 0)), (nI (s 1)), (nI (s 2)), (nI (s 3)), (nI (s 4)), hr2_14, hn2_15, (nI en), (nI (s 3)), (nI (s 4)), mt2_13, (lN 4398046511104 - lN ((wrun (s 3) (s 4) en (s 0 + s 1) 21 (wst0 en (s 0) (s 1) (s 2)) n).2.2.1)), (lN ((wrun (s 3) (s 4) en (s 0 + s 1) 21 (wst0 en (s 0) (s 1) (s 2)) n).2.2.2)), (lf (fun j => (wrun (s 3) (s 4) en (s 0 + s 1) 21 (wst0 en (s 0) (s 1) (s 2)) n).1 j * 4 ^ (21 - n))), f2_16, (lf ((wrun (s 3) (s 4) en (s 0 + s 1) 21 (wst0 en (s 0) (s 1) (s 2)) n).2.1)), by rw [dz_ok (j := en) (a := 0) (b := 1) (by decide) en_lo en_hi, dz_ok (j := n) (a := 0) (b := 21) (by decide) n_lo n_hi]; rfl, rfl⟩
    · skip
      refine z_iconst X (pc := 17) (-1) dX4_soon_17 (by decide) ?_
      exact hRet.i dX4_soon_18 ⟨b0, b1, b2, b3, b4, hr, hn, g0, g1, g2, g3, g4, g5, f1, f2, f3, by rw [dz_bad (a := 0) (b := 21) c_14]; cases dz 0 1 e <;> rfl, rfl⟩

abbrev rm_X4_times : Room := { frames := 5, cells := 0, slots := 0, locals := 123 }
set_option maxHeartbeats 4000000 in
set_option maxRecDepth 100000 in
theorem c_X4_times (lq : Launch) (D : va_G) (t : zT) (h hT hN hU hA hK hW hL hZ sg ev : Nat) (s : Nat → Nat) (hr hn ho : Nat) (b0 b1 b2 b3 b4 g0 g1 g2 g3 : Int32) (g4 g5 : Int64) (f1 f2 f3 : Nat → Int64) (e : Int32) (hs : sOk s) : Ct lq D t yX4_times cX4_times 2 (some .int) rm_X4_times [.ref h, .int e] [eX4 h hT hN hU hA hK hW hL hZ (nI sg) (nI ev), eX0 hN (nI (s 0)) (nI (s 1)) (nI (s 2)) (nI (s 3)) (nI (s 4)), eX0 hU b0 b1 b2 b3 b4, eX3 hW hr hn ho g0 g1 g2 g3 g4 g5, eL t hr 33 f1, eL t hn 33 f2, eL t ho 11 f3] 0 0 (fun rv rw_ => ∃ (B0 : Int32) (B1 : Int32) (B2 : Int32) (B3 : Int32) (B4 : Int32) (hr2 : Nat) (hn2 : Nat) (G0 : Int32) (G1 : Int32) (G2 : Int32) (G3 : Int32) (G4 : Int64) (G5 : Int64) (F1 : Nat → Int64) (F2 : Nat → Int64) (F3 : Nat → Int64), rv = some (.int (an_times s (dz 0 1 e))) ∧ rw_ = [eX4 h hT hN hU hA hK hW hL hZ (nI sg) (nI ev), eX0 hN (nI (s 0)) (nI (s 1)) (nI (s 2)) (nI (s 3)) (nI (s 4)), eX0 hU B0 B1 B2 B3 B4, eX3 hW hr2 hn2 ho G0 G1 G2 G3 G4 G5, eL t hr2 33 F1, eL t hn2 33 F2, eL t ho 11 F3]) := by
  refine Ct.of (by decide) (Nat.le_of_ble_eq_true rfl) (fun k X hRet => ?_)
  have X : zX D t k cX4_times 2 RX4 "times" rm_X4_times lq := X
  refine z_eq (lv2 := [(0, .ref h), (1, .int e)]) rfl rfl rfl ?_
  have hsk := hs
  obtain ⟨hs0, hs1, hs2, hs3, hs4⟩ := hs
  refine z_iload_n X (pc := 0) 1 dX4_times_0 rfl ?_
  refine zc_S (as := [.int e]) X (pc := 1) (c_X4_isEnd lq D t e ) tw_362 tw_364 tw_1 tw_363 [] rfl rfl dX4_times_1 rfl zdX4_isEnd ⟨rfl, rfl, Nat.le_of_ble_eq_true rfl, Nat.le_of_ble_eq_true rfl⟩ (Nat.le_of_ble_eq_true rfl) (Nat.zero_le _) (Nat.zero_le _) (fun v_1 w_2 hp_3 => ?_)
  obtain ⟨rfl, rfl⟩ := hp_3
  refine ⟨rfl, ?_⟩
  refine z_eq (ws2 := [eX4 h hT hN hU hA hK hW hL hZ (nI sg) (nI ev), eX0 hN (nI (s 0)) (nI (s 1)) (nI (s 2)) (nI (s 3)) (nI (s 4)), eX0 hU b0 b1 b2 b3 b4, eX3 hW hr hn ho g0 g1 g2 g3 g4 g5, eL t hr 33 f1, eL t hn 33 f2, eL t ho 11 f3]) (st2 := [.int (zb (nI 0 ≤ e ∧ e ≤ nI 1))]) rfl rfl rfl ?_
  refine z_if_eqB X (pc := 4) 18 dX4_times_4 (by decide) (fun c_4 => ?_) (fun c_4 => ?_)
  · skip
    refine z_iconst X (pc := 18) (-1) dX4_times_18 (by decide) ?_
    exact hRet.i dX4_times_19 ⟨b0, b1, b2, b3, b4, hr, hn, g0, g1, g2, g3, g4, g5, f1, f2, f3, by rw [dz_bad c_4]; rfl, rfl⟩
  · skip
    obtain ⟨en, en_lo, en_hi, rfl⟩ := inR (by decide) (by decide) c_4
    refine z_aload_n X (pc := 7) 0 dX4_times_7 rfl ?_
    refine z_iload_n X (pc := 8) 1 dX4_times_8 rfl ?_
    refine zc_V (as := [.int (nI en)]) X (pc := 9) (c_X4_walkToEnd lq D t h hT hN hU hA hK hW hL hZ sg ev s hr hn ho b0 b1 b2 b3 b4 g0 g1 g2 g3 g4 g5 f1 f2 f3 en hsk (by omega)) tw_365 tw_368 tw_1 tw_367 tw_1012 0 4 rfl rfl [0, 1, 2, 3, 4, 5, 6] rfl rfl dX4_times_9 rfl zdX4_walkToEnd ⟨rfl, rfl, Nat.le_of_ble_eq_true rfl, Nat.le_of_ble_eq_true rfl⟩ (Nat.le_of_ble_eq_true rfl) (Nat.zero_le _) (Nat.zero_le _) (fun v_4 w_5 hp_6 => ?_)
    obtain ⟨mt2_7, hr2_8, hn2_9, F2_10, rfl, rfl⟩ := hp_6
    refine ⟨rfl, ?_⟩
    refine z_eq (ws2 := [eX4 h hT hN hU hA hK hW hL hZ (nI sg) (nI ev), eX0 hN (nI (s 0)) (nI (s 1)) (nI (s 2)) (nI (s 3)) (nI (s 4)), eX0 hU (nI (s 0)) (nI (s 1)) (nI (s 2)) (nI (s 3)) (nI (s 4)), eX3 hW hr2_8 hn2_9 ho (nI en) (nI (s 3)) (nI (s 4)) mt2_7 (lN 4398046511104 - lN ((wrun (s 3) (s 4) en (s 0 + s 1) 21 (wst0 en (s 0) (s 1) (s 2)) 21).2.2.1)) (lN ((wrun (s 3) (s 4) en (s 0 + s 1) 21 (wst0 en (s 0) (s 1) (s 2)) 21).2.2.2)), eL t hr2_8 33 (lf (fun j => (wrun (s 3) (s 4) en (s 0 + s 1) 21 (wst0 en (s 0) (s 1) (s 2)) 21).1 j * 4 ^ (0))), eL t hn2_9 33 F2_10, eL t ho 11 (lf ((wrun (s 3) (s 4) en (s 0 + s 1) 21 (wst0 en (s 0) (s 1) (s 2)) 21).2.1))]) (st2 := [.long (lN (rch (s 3) (s 4) en (s 0) (s 1) (s 2)))]) rfl rfl rfl ?_
    refine zc_S (as := [.long (lN (rch (s 3) (s 4) en (s 0) (s 1) (s 2)))]) X (pc := 12) (c_X4_hundredfoldN lq D t (rch (s 3) (s 4) en (s 0) (s 1) (s 2)) (rch_lt _ _ _ _ _ _)) tw_417 tw_419 tw_1 tw_418 [] rfl rfl dX4_times_12 rfl zdX4_hundredfold ⟨rfl, rfl, Nat.le_of_ble_eq_true rfl, Nat.le_of_ble_eq_true rfl⟩ (Nat.le_of_ble_eq_true rfl) (Nat.zero_le _) (Nat.zero_le _) (fun v_11 w_12 hp_13 => ?_)
    obtain ⟨rfl, rfl⟩ := hp_13
    refine ⟨rfl, ?_⟩
    refine z_eq (ws2 := [eX4 h hT hN hU hA hK hW hL hZ (nI sg) (nI ev), eX0 hN (nI (s 0)) (nI (s 1)) (nI (s 2)) (nI (s 3)) (nI (s 4)), eX0 hU (nI (s 0)) (nI (s 1)) (nI (s 2)) (nI (s 3)) (nI (s 4)), eX3 hW hr2_8 hn2_9 ho (nI en) (nI (s 3)) (nI (s 4)) mt2_7 (lN 4398046511104 - lN ((wrun (s 3) (s 4) en (s 0 + s 1) 21 (wst0 en (s 0) (s 1) (s 2)) 21).2.2.1)) (lN ((wrun (s 3) (s 4) en (s 0 + s 1) 21 (wst0 en (s 0) (s 1) (s 2)) 21).2.2.2)), eL t hr2_8 33 (lf (fun j => (wrun (s 3) (s 4) en (s 0 + s 1) 21 (wst0 en (s 0) (s 1) (s 2)) 21).1 j * 4 ^ (0))), eL t hn2_9 33 F2_10, eL t ho 11 (lf ((wrun (s 3) (s 4) en (s 0 + s 1) 21 (wst0 en (s 0) (s 1) (s 2)) 21).2.1))]) (st2 := [.int (nI ((rch (s 3) (s 4) en (s 0) (s 1) (s 2)) * 100 / 4398046511104))]) rfl rfl rfl ?_
    refine z_goto X (pc := 15) 19 dX4_times_15 (by decide) ?_
    exact hRet.i dX4_times_19 ⟨(nI (s 0)), (nI (s 1)), (nI (s 2)), (nI (s 3)), (nI (s 4)), hr2_8, hn2_9, (nI en), (nI (s 3)), (nI (s 4)), mt2_7, (lN 4398046511104 - lN ((wrun (s 3) (s 4) en (s 0 + s 1) 21 (wst0 en (s 0) (s 1) (s 2)) 21).2.2.1)), (lN ((wrun (s 3) (s 4) en (s 0 + s 1) 21 (wst0 en (s 0) (s 1) (s 2)) 21).2.2.2)), (lf (fun j => (wrun (s 3) (s 4) en (s 0 + s 1) 21 (wst0 en (s 0) (s 1) (s 2)) 21).1 j * 4 ^ (0))), F2_10, (lf ((wrun (s 3) (s 4) en (s 0 + s 1) 21 (wst0 en (s 0) (s 1) (s 2)) 21).2.1)), by rw [dz_ok (j := en) (a := 0) (b := 1) (by decide) en_lo en_hi]; rfl, rfl⟩

abbrev rm_X4_likeliest : Room := { frames := 5, cells := 0, slots := 0, locals := 123 }
set_option maxHeartbeats 4000000 in
set_option maxRecDepth 100000 in
theorem c_X4_likeliest (lq : Launch) (D : va_G) (t : zT) (h hT hN hU hA hK hW hL hZ sg ev : Nat) (s : Nat → Nat) (hr hn ho : Nat) (b0 b1 b2 b3 b4 g0 g1 g2 g3 : Int32) (g4 g5 : Int64) (f1 f2 f3 : Nat → Int64) (e : Int32) (hs : sOk s) : Ct lq D t yX4_likeliest cX4_likeliest 4 (some .int) rm_X4_likeliest [.ref h, .int e] [eX4 h hT hN hU hA hK hW hL hZ (nI sg) (nI ev), eX0 hN (nI (s 0)) (nI (s 1)) (nI (s 2)) (nI (s 3)) (nI (s 4)), eX0 hU b0 b1 b2 b3 b4, eX3 hW hr hn ho g0 g1 g2 g3 g4 g5, eL t hr 33 f1, eL t hn 33 f2, eL t ho 11 f3] 0 0 (fun rv rw_ => ∃ (B0 : Int32) (B1 : Int32) (B2 : Int32) (B3 : Int32) (B4 : Int32) (hr2 : Nat) (hn2 : Nat) (G0 : Int32) (G1 : Int32) (G2 : Int32) (G3 : Int32) (G4 : Int64) (G5 : Int64) (F1 : Nat → Int64) (F2 : Nat → Int64) (F3 : Nat → Int64), rv = some (.int (an_lik s (dz 0 1 e))) ∧ rw_ = [eX4 h hT hN hU hA hK hW hL hZ (nI sg) (nI ev), eX0 hN (nI (s 0)) (nI (s 1)) (nI (s 2)) (nI (s 3)) (nI (s 4)), eX0 hU B0 B1 B2 B3 B4, eX3 hW hr2 hn2 ho G0 G1 G2 G3 G4 G5, eL t hr2 33 F1, eL t hn2 33 F2, eL t ho 11 F3]) := by
  refine Ct.of (by decide) (Nat.le_of_ble_eq_true rfl) (fun k X hRet => ?_)
  have X : zX D t k cX4_likeliest 4 RX4 "likeliest" rm_X4_likeliest lq := X
  refine z_eq (lv2 := [(0, .ref h), (1, .int e)]) rfl rfl rfl ?_
  have hsk := hs
  obtain ⟨hs0, hs1, hs2, hs3, hs4⟩ := hs
  refine z_iload_n X (pc := 0) 1 dX4_likeliest_0 rfl ?_
  refine zc_S (as := [.int e]) X (pc := 1) (c_X4_isEnd lq D t e ) tw_362 tw_364 tw_1 tw_363 [] rfl rfl dX4_likeliest_1 rfl zdX4_isEnd ⟨rfl, rfl, Nat.le_of_ble_eq_true rfl, Nat.le_of_ble_eq_true rfl⟩ (Nat.le_of_ble_eq_true rfl) (Nat.zero_le _) (Nat.zero_le _) (fun v_1 w_2 hp_3 => ?_)
  obtain ⟨rfl, rfl⟩ := hp_3
  refine ⟨rfl, ?_⟩
  refine z_eq (ws2 := [eX4 h hT hN hU hA hK hW hL hZ (nI sg) (nI ev), eX0 hN (nI (s 0)) (nI (s 1)) (nI (s 2)) (nI (s 3)) (nI (s 4)), eX0 hU b0 b1 b2 b3 b4, eX3 hW hr hn ho g0 g1 g2 g3 g4 g5, eL t hr 33 f1, eL t hn 33 f2, eL t ho 11 f3]) (st2 := [.int (zb (nI 0 ≤ e ∧ e ≤ nI 1))]) rfl rfl rfl ?_
  refine z_if_neB X (pc := 4) 9 dX4_likeliest_4 (by decide) (fun c_4 => ?_) (fun c_4 => ?_)
  · skip
    obtain ⟨en, en_lo, en_hi, rfl⟩ := inR (by decide) (by decide) c_4
    refine z_aload_n X (pc := 9) 0 dX4_likeliest_9 rfl ?_
    refine z_iload_n X (pc := 10) 1 dX4_likeliest_10 rfl ?_
    refine zc_V (as := [.int (nI en)]) X (pc := 11) (c_X4_walkToEnd lq D t h hT hN hU hA hK hW hL hZ sg ev s hr hn ho b0 b1 b2 b3 b4 g0 g1 g2 g3 g4 g5 f1 f2 f3 en hsk (by omega)) tw_365 tw_368 tw_1 tw_367 tw_1012 0 4 rfl rfl [0, 1, 2, 3, 4, 5, 6] rfl rfl dX4_likeliest_11 rfl zdX4_walkToEnd ⟨rfl, rfl, Nat.le_of_ble_eq_true rfl, Nat.le_of_ble_eq_true rfl⟩ (Nat.le_of_ble_eq_true rfl) (Nat.zero_le _) (Nat.zero_le _) (fun v_4 w_5 hp_6 => ?_)
    obtain ⟨mt2_7, hr2_8, hn2_9, F2_10, rfl, rfl⟩ := hp_6
    refine ⟨rfl, ?_⟩
    refine z_eq (ws2 := [eX4 h hT hN hU hA hK hW hL hZ (nI sg) (nI ev), eX0 hN (nI (s 0)) (nI (s 1)) (nI (s 2)) (nI (s 3)) (nI (s 4)), eX0 hU (nI (s 0)) (nI (s 1)) (nI (s 2)) (nI (s 3)) (nI (s 4)), eX3 hW hr2_8 hn2_9 ho (nI en) (nI (s 3)) (nI (s 4)) mt2_7 (lN 4398046511104 - lN ((wrun (s 3) (s 4) en (s 0 + s 1) 21 (wst0 en (s 0) (s 1) (s 2)) 21).2.2.1)) (lN ((wrun (s 3) (s 4) en (s 0 + s 1) 21 (wst0 en (s 0) (s 1) (s 2)) 21).2.2.2)), eL t hr2_8 33 (lf (fun j => (wrun (s 3) (s 4) en (s 0 + s 1) 21 (wst0 en (s 0) (s 1) (s 2)) 21).1 j * 4 ^ (0))), eL t hn2_9 33 F2_10, eL t ho 11 (lf ((wrun (s 3) (s 4) en (s 0 + s 1) 21 (wst0 en (s 0) (s 1) (s 2)) 21).2.1))]) (st2 := [.long (lN (rch (s 3) (s 4) en (s 0) (s 1) (s 2)))]) rfl rfl rfl ?_
    refine z_pop2 X (pc := 14) dX4_likeliest_14 rfl ?_
    refine z_iconst X (pc := 15) (nI 0) dX4_likeliest_15 (by decide) ?_
    refine z_istore_n X (pc := 16) (i := 2) [(2, .int (nI 0)), (0, .ref h), (1, .int (nI en))] dX4_likeliest_16 rfl (by decide) rfl ?_
    refine z_iconst X (pc := 17) (nI 1) dX4_likeliest_17 (by decide) ?_
    refine z_istore_n X (pc := 18) (i := 3) [(3, .int (nI 1)), (2, .int (nI 0)), (0, .ref h), (1, .int (nI en))] dX4_likeliest_18 rfl (by decide) rfl ?_
    have loop_19 : ∀ (fuel_19 : Nat) (j : Nat) (bt : Nat), 11 < j + fuel_19 → (1 ≤ j ∧ j ≤ 11) → (bt = lik (wrun (s 3) (s 4) en (s 0 + s 1) 21 (wst0 en (s 0) (s 1) (s 2)) 21).2.1 (j - 1)) → Z D k (0, 0) [eX4 h hT hN hU hA hK hW hL hZ (nI sg) (nI ev), eX0 hN (nI (s 0)) (nI (s 1)) (nI (s 2)) (nI (s 3)) (nI (s 4)), eX0 hU (nI (s 0)) (nI (s 1)) (nI (s 2)) (nI (s 3)) (nI (s 4)), eX3 hW hr2_8 hn2_9 ho (nI en) (nI (s 3)) (nI (s 4)) mt2_7 (lN 4398046511104 - lN ((wrun (s 3) (s 4) en (s 0 + s 1) 21 (wst0 en (s 0) (s 1) (s 2)) 21).2.2.1)) (lN ((wrun (s 3) (s 4) en (s 0 + s 1) 21 (wst0 en (s 0) (s 1) (s 2)) 21).2.2.2)), eL t hr2_8 33 (lf (fun j => (wrun (s 3) (s 4) en (s 0 + s 1) 21 (wst0 en (s 0) (s 1) (s 2)) 21).1 j * 4 ^ (0))), eL t hn2_9 33 F2_10, eL t ho 11 (lf ((wrun (s 3) (s 4) en (s 0 + s 1) 21 (wst0 en (s 0) (s 1) (s 2)) 21).2.1))] 19 [(0, .ref h), (2, .int (nI bt)), (3, .int (nI j))] [] := by
      intro fuel_19
      induction fuel_19 with
      | zero =>
        intro j bt hfuel_19 hj hbt
        exfalso; omega
      | succ fuel_19 ih_19 =>
        intro j bt hfuel_19 hj hbt
        have hbl : bt ≤ 10 := by rw [hbt]; have := lik_le (wrun (s 3) (s 4) en (s 0 + s 1) 21 (wst0 en (s 0) (s 1) (s 2)) 21).2.1 (j - 1); omega
        refine z_iload_n X (pc := 19) 2 dX4_likeliest_19 rfl ?_
        refine z_bipush X (pc := 20) (nI 10) dX4_likeliest_20 (by decide) ?_
        refine z_icmp_gtN X (pc := 22) 53 (by omega) (by omega) dX4_likeliest_22 (by decide) (fun c_22 => ?_) (fun c_22 => ?_)
        · skip
          refine z_iload_n X (pc := 53) 1 dX4_likeliest_53 rfl ?_
          exact hRet.i dX4_likeliest_54 ⟨(nI (s 0)), (nI (s 1)), (nI (s 2)), (nI (s 3)), (nI (s 4)), hr2_8, hn2_9, (nI en), (nI (s 3)), (nI (s 4)), mt2_7, (lN 4398046511104 - lN ((wrun (s 3) (s 4) en (s 0 + s 1) 21 (wst0 en (s 0) (s 1) (s 2)) 21).2.2.1)), (lN ((wrun (s 3) (s 4) en (s 0 + s 1) 21 (wst0 en (s 0) (s 1) (s 2)) 21).2.2.2)), (lf (fun j => (wrun (s 3) (s 4) en (s 0 + s 1) 21 (wst0 en (s 0) (s 1) (s 2)) 21).1 j * 4 ^ (0))), F2_10, (lf ((wrun (s 3) (s 4) en (s 0 + s 1) 21 (wst0 en (s 0) (s 1) (s 2)) 21).2.1)), by rw [dz_ok (j := en) (a := 0) (b := 1) (by decide) en_lo en_hi, hbt, show j - 1 = 10 by omega]; rfl, rfl⟩
        · skip
          refine z_aload_n X (pc := 25) 0 dX4_likeliest_25 rfl ?_
          refine z_get X (pc := 26) 0 5 (.ref hW) tu_4 tw_149 dX4_likeliest_26 rfl rfl (by decide) rfl rfl ?_
          refine z_iload_n X (pc := 29) 2 dX4_likeliest_29 rfl ?_
          refine zc_V (as := [.int (nI j)]) X (pc := 30) (c_X3_chanceOfOther lq D t hW hr2_8 hn2_9 ho en (s 3) (s 4) mt2_7 (lN 4398046511104 - lN ((wrun (s 3) (s 4) en (s 0 + s 1) 21 (wst0 en (s 0) (s 1) (s 2)) 21).2.2.1)) (lN ((wrun (s 3) (s 4) en (s 0 + s 1) 21 (wst0 en (s 0) (s 1) (s 2)) 21).2.2.2)) ((wrun (s 3) (s 4) en (s 0 + s 1) 21 (wst0 en (s 0) (s 1) (s 2)) 21).2.1) j (by omega)) tw_403 tw_406 tw_6 tw_404 tw_405 0 3 rfl rfl [3, 6] rfl rfl dX4_likeliest_30 rfl zdX3_chanceOfOther ⟨rfl, rfl, Nat.le_of_ble_eq_true rfl, Nat.le_of_ble_eq_true rfl⟩ (Nat.le_of_ble_eq_true rfl) (Nat.zero_le _) (Nat.zero_le _) (fun v_11 w_12 hp_13 => ?_)
          obtain ⟨rfl, rfl⟩ := hp_13
          refine ⟨rfl, ?_⟩
          refine z_eq (ws2 := [eX4 h hT hN hU hA hK hW hL hZ (nI sg) (nI ev), eX0 hN (nI (s 0)) (nI (s 1)) (nI (s 2)) (nI (s 3)) (nI (s 4)), eX0 hU (nI (s 0)) (nI (s 1)) (nI (s 2)) (nI (s 3)) (nI (s 4)), eX3 hW hr2_8 hn2_9 ho (nI en) (nI (s 3)) (nI (s 4)) mt2_7 (lN 4398046511104 - lN ((wrun (s 3) (s 4) en (s 0 + s 1) 21 (wst0 en (s 0) (s 1) (s 2)) 21).2.2.1)) (lN ((wrun (s 3) (s 4) en (s 0 + s 1) 21 (wst0 en (s 0) (s 1) (s 2)) 21).2.2.2)), eL t hr2_8 33 (lf (fun j => (wrun (s 3) (s 4) en (s 0 + s 1) 21 (wst0 en (s 0) (s 1) (s 2)) 21).1 j * 4 ^ (0))), eL t hn2_9 33 F2_10, eL t ho 11 (lf ((wrun (s 3) (s 4) en (s 0 + s 1) 21 (wst0 en (s 0) (s 1) (s 2)) 21).2.1))]) (st2 := [.long (lN (((wrun (s 3) (s 4) en (s 0 + s 1) 21 (wst0 en (s 0) (s 1) (s 2)) 21).2.1) j))]) rfl rfl rfl ?_
          refine z_aload_n X (pc := 33) 0 dX4_likeliest_33 rfl ?_
          refine z_get X (pc := 34) 0 5 (.ref hW) tu_4 tw_149 dX4_likeliest_34 rfl rfl (by decide) rfl rfl ?_
          refine z_iload_n X (pc := 37) 1 dX4_likeliest_37 rfl ?_
          refine zc_V (as := [.int (nI bt)]) X (pc := 38) (c_X3_chanceOfOther lq D t hW hr2_8 hn2_9 ho en (s 3) (s 4) mt2_7 (lN 4398046511104 - lN ((wrun (s 3) (s 4) en (s 0 + s 1) 21 (wst0 en (s 0) (s 1) (s 2)) 21).2.2.1)) (lN ((wrun (s 3) (s 4) en (s 0 + s 1) 21 (wst0 en (s 0) (s 1) (s 2)) 21).2.2.2)) ((wrun (s 3) (s 4) en (s 0 + s 1) 21 (wst0 en (s 0) (s 1) (s 2)) 21).2.1) bt (by omega)) tw_403 tw_406 tw_6 tw_404 tw_405 0 3 rfl rfl [3, 6] rfl rfl dX4_likeliest_38 rfl zdX3_chanceOfOther ⟨rfl, rfl, Nat.le_of_ble_eq_true rfl, Nat.le_of_ble_eq_true rfl⟩ (Nat.le_of_ble_eq_true rfl) (Nat.zero_le _) (Nat.zero_le _) (fun v_14 w_15 hp_16 => ?_)
          obtain ⟨rfl, rfl⟩ := hp_16
          refine ⟨rfl, ?_⟩
          refine z_eq (ws2 := [eX4 h hT hN hU hA hK hW hL hZ (nI sg) (nI ev), eX0 hN (nI (s 0)) (nI (s 1)) (nI (s 2)) (nI (s 3)) (nI (s 4)), eX0 hU (nI (s 0)) (nI (s 1)) (nI (s 2)) (nI (s 3)) (nI (s 4)), eX3 hW hr2_8 hn2_9 ho (nI en) (nI (s 3)) (nI (s 4)) mt2_7 (lN 4398046511104 - lN ((wrun (s 3) (s 4) en (s 0 + s 1) 21 (wst0 en (s 0) (s 1) (s 2)) 21).2.2.1)) (lN ((wrun (s 3) (s 4) en (s 0 + s 1) 21 (wst0 en (s 0) (s 1) (s 2)) 21).2.2.2)), eL t hr2_8 33 (lf (fun j => (wrun (s 3) (s 4) en (s 0 + s 1) 21 (wst0 en (s 0) (s 1) (s 2)) 21).1 j * 4 ^ (0))), eL t hn2_9 33 F2_10, eL t ho 11 (lf ((wrun (s 3) (s 4) en (s 0 + s 1) 21 (wst0 en (s 0) (s 1) (s 2)) 21).2.1))]) (st2 := [.long (lN (((wrun (s 3) (s 4) en (s 0 + s 1) 21 (wst0 en (s 0) (s 1) (s 2)) 21).2.1) bt)), .long (lN (((wrun (s 3) (s 4) en (s 0 + s 1) 21 (wst0 en (s 0) (s 1) (s 2)) 21).2.1) j))]) rfl rfl rfl ?_
          refine z_lcmp_leN X (pc := 41) 47 (Nat.lt_of_le_of_lt (rn_os hs4 hs0 hs1 hs2) (by decide)) (Nat.lt_of_le_of_lt (rn_os hs4 hs0 hs1 hs2) (by decide)) dX4_likeliest_41 dX4_likeliest_42 (by decide) (fun c_41 => ?_) (fun c_41 => ?_)
          · skip
            refine z_iinc X (pc := 47) (i := 3) 2 (nI (j + 1)) [(3, .int (nI (j + 1))), (0, .ref h), (2, .int (nI bt))] dX4_likeliest_47 rfl (nI_incc j 1) (by decide) rfl ?_
            refine z_goto X (pc := 50) 19 dX4_likeliest_50 (by decide) ?_
            refine z_lv [1, 2, 0] (lv2 := [(0, .ref h), (2, .int (nI bt)), (3, .int (nI (j + 1)))]) rfl ?_
            exact ih_19 (j + 1) bt (by omega) (by omega) (by rw [show j + 1 - 1 = (j - 1) + 1 by omega, lik_s, ← hbt, show j - 1 + 1 = j by omega, if_neg (by omega)])
          · skip
            refine z_iload_n X (pc := 45) 2 dX4_likeliest_45 rfl ?_
            refine z_istore_n X (pc := 46) (i := 2) [(2, .int (nI j)), (0, .ref h), (3, .int (nI j))] dX4_likeliest_46 rfl (by decide) rfl ?_
            refine z_iinc X (pc := 47) (i := 3) 2 (nI (j + 1)) [(3, .int (nI (j + 1))), (2, .int (nI j)), (0, .ref h)] dX4_likeliest_47 rfl (nI_incc j 1) (by decide) rfl ?_
            refine z_goto X (pc := 50) 19 dX4_likeliest_50 (by decide) ?_
            refine z_lv [2, 1, 0] (lv2 := [(0, .ref h), (2, .int (nI j)), (3, .int (nI (j + 1)))]) rfl ?_
            exact ih_19 (j + 1) j (by omega) (by omega) (by rw [show j + 1 - 1 = (j - 1) + 1 by omega, lik_s, ← hbt, show j - 1 + 1 = j by omega, if_pos (by omega)])
    refine z_lv [2, 1, 0] (lv2 := [(0, .ref h), (2, .int (nI 0)), (3, .int (nI 1))]) rfl ?_
    exact loop_19 12 1 0 (by omega) (by omega) (lik_z _).symm
  · skip
    refine z_iconst X (pc := 7) (-1) dX4_likeliest_7 (by decide) ?_
    exact hRet.i dX4_likeliest_8 ⟨b0, b1, b2, b3, b4, hr, hn, g0, g1, g2, g3, g4, g5, f1, f2, f3, by rw [dz_bad c_4]; rfl, rfl⟩

abbrev rm_X4_level : Room := { frames := 4, cells := 0, slots := 0, locals := 101 }
set_option maxHeartbeats 4000000 in
set_option maxRecDepth 100000 in
theorem c_X4_level (lq : Launch) (D : va_G) (t : zT) (h hT hN hU hA hK hW hL hZ sg ev : Nat) (s : Nat → Nat) (hr hn ho : Nat) (b0 b1 b2 b3 b4 g0 g1 g2 g3 : Int32) (g4 g5 : Int64) (f1 f2 f3 : Nat → Int64) (e : Int32) (hs : sOk s) : Ct lq D t yX4_level cX4_level 2 (some .int) rm_X4_level [.ref h, .int e] [eX4 h hT hN hU hA hK hW hL hZ (nI sg) (nI ev), eX0 hN (nI (s 0)) (nI (s 1)) (nI (s 2)) (nI (s 3)) (nI (s 4)), eX0 hU b0 b1 b2 b3 b4, eX3 hW hr hn ho g0 g1 g2 g3 g4 g5, eL t hr 33 f1, eL t hn 33 f2, eL t ho 11 f3] 0 0 (fun rv rw_ => ∃ (B0 : Int32) (B1 : Int32) (B2 : Int32) (B3 : Int32) (B4 : Int32) (hr2 : Nat) (hn2 : Nat) (G0 : Int32) (G1 : Int32) (G2 : Int32) (G3 : Int32) (G4 : Int64) (G5 : Int64) (F1 : Nat → Int64) (F2 : Nat → Int64) (F3 : Nat → Int64), rv = some (.int (an_level s (dz 0 20 e))) ∧ rw_ = [eX4 h hT hN hU hA hK hW hL hZ (nI sg) (nI ev), eX0 hN (nI (s 0)) (nI (s 1)) (nI (s 2)) (nI (s 3)) (nI (s 4)), eX0 hU B0 B1 B2 B3 B4, eX3 hW hr2 hn2 ho G0 G1 G2 G3 G4 G5, eL t hr2 33 F1, eL t hn2 33 F2, eL t ho 11 F3]) := by
  refine Ct.of (by decide) (Nat.le_of_ble_eq_true rfl) (fun k X hRet => ?_)
  have X : zX D t k cX4_level 2 RX4 "level" rm_X4_level lq := X
  refine z_eq (lv2 := [(0, .ref h), (1, .int e)]) rfl rfl rfl ?_
  have hsk := hs
  obtain ⟨hs0, hs1, hs2, hs3, hs4⟩ := hs
  refine z_iload_n X (pc := 0) 1 dX4_level_0 rfl ?_
  refine z_iconst X (pc := 1) (nI 0) dX4_level_1 (by decide) ?_
  refine z_bipush X (pc := 2) (nI 20) dX4_level_2 (by decide) ?_
  refine zc_S (as := [.int e, .int (nI 0), .int (nI 20)]) X (pc := 4) (c_X4_within lq D t e (nI 0) (nI 20) ) tw_180 tw_182 tw_1 tw_181 [] rfl rfl dX4_level_4 rfl zdX4_within ⟨rfl, rfl, Nat.le_of_ble_eq_true rfl, Nat.le_of_ble_eq_true rfl⟩ (Nat.le_of_ble_eq_true rfl) (Nat.zero_le _) (Nat.zero_le _) (fun v_1 w_2 hp_3 => ?_)
  obtain ⟨rfl, rfl⟩ := hp_3
  refine ⟨rfl, ?_⟩
  refine z_eq (ws2 := [eX4 h hT hN hU hA hK hW hL hZ (nI sg) (nI ev), eX0 hN (nI (s 0)) (nI (s 1)) (nI (s 2)) (nI (s 3)) (nI (s 4)), eX0 hU b0 b1 b2 b3 b4, eX3 hW hr hn ho g0 g1 g2 g3 g4 g5, eL t hr 33 f1, eL t hn 33 f2, eL t ho 11 f3]) (st2 := [.int (zb ((nI 0) ≤ e ∧ e ≤ (nI 20)))]) rfl rfl rfl ?_
  refine z_if_neB X (pc := 7) 12 dX4_level_7 (by decide) (fun c_7 => ?_) (fun c_7 => ?_)
  · skip
    obtain ⟨n, n_lo, n_hi, rfl⟩ := inR (by decide) (by decide) c_7
    refine z_aload_n X (pc := 12) 0 dX4_level_12 rfl ?_
    refine z_aload_n X (pc := 13) 0 dX4_level_13 rfl ?_
    refine z_get X (pc := 14) 0 1 (.ref hN) tu_4 tw_145 dX4_level_14 rfl rfl (by decide) rfl rfl ?_
    refine z_get X (pc := 17) 1 0 (.int (nI (s 0))) tu_0 tw_30 dX4_level_17 rfl rfl (by decide) rfl rfl ?_
    refine z_aload_n X (pc := 20) 0 dX4_level_20 rfl ?_
    refine z_get X (pc := 21) 0 1 (.ref hN) tu_4 tw_145 dX4_level_21 rfl rfl (by decide) rfl rfl ?_
    refine z_get X (pc := 24) 1 1 (.int (nI (s 1))) tu_0 tw_33 dX4_level_24 rfl rfl (by decide) rfl rfl ?_
    refine z_iconst X (pc := 27) (nI 0) dX4_level_27 (by decide) ?_
    refine zc_V (as := [.int (nI (s 0)), .int (nI (s 1)), .int (nI 0)]) X (pc := 28) (c_X4_startFrom lq D t h hT hN hU hA hK hW hL hZ sg ev s hr hn ho b0 b1 b2 b3 b4 g0 g1 g2 g3 g4 g5 f1 f2 f3 (s 0) (s 1) 0 hsk (by omega) (by omega) (by omega)) tw_369 tw_372 tw_1 tw_371 tw_1013 0 4 rfl rfl [0, 1, 2, 3, 4, 5, 6] rfl rfl dX4_level_28 rfl zdX4_startFrom ⟨rfl, rfl, Nat.le_of_ble_eq_true rfl, Nat.le_of_ble_eq_true rfl⟩ (Nat.le_of_ble_eq_true rfl) (Nat.zero_le _) (Nat.zero_le _) (fun v_4 w_5 hp_6 => ?_)
    obtain ⟨rfl, rfl⟩ := hp_6
    refine ⟨rfl, ?_⟩
    refine z_eq (ws2 := [eX4 h hT hN hU hA hK hW hL hZ (nI sg) (nI ev), eX0 hN (nI (s 0)) (nI (s 1)) (nI (s 2)) (nI (s 3)) (nI (s 4)), eX0 hU (nI (s 0)) (nI (s 1)) (nI (s 2)) (nI (s 3)) (nI (s 4)), eX3 hW hr hn ho (nI 0) (nI (s 3)) (nI (s 4)) (nI ((s 0) + (s 1))) (lN 4398046511104 - lN ((wst0 0 (s 0) (s 1) (s 2)).2.2.1)) (lN ((wst0 0 (s 0) (s 1) (s 2)).2.2.2)), eL t hr 33 (lf (fun j => (wst0 0 (s 0) (s 1) (s 2)).1 j * 4 ^ 21)), eL t hn 33 f2, eL t ho 11 (lf ((wst0 0 (s 0) (s 1) (s 2)).2.1))]) (st2 := []) rfl rfl rfl ?_
    refine z_aload_n X (pc := 31) 0 dX4_level_31 rfl ?_
    refine z_get X (pc := 32) 0 5 (.ref hW) tu_4 tw_149 dX4_level_32 rfl rfl (by decide) rfl rfl ?_
    refine z_iload_n X (pc := 35) 1 dX4_level_35 rfl ?_
    refine zc_V (as := [.int (nI n)]) X (pc := 36) (c_X3_advance lq D t hW hr hn ho 0 (s 3) (s 4) (s 0 + s 1) 21 (nI ((s 0) + (s 1))) (wst0 0 (s 0) (s 1) (s 2)) f2 n (by decide) (by omega) (by omega) (by omega) (by decide) (wok0 hs0 hs1 hs2) (fun _ => rfl) (by omega)) tw_425 tw_428 tw_6 tw_426 tw_427 0 3 rfl rfl [3, 4, 5, 6] rfl rfl dX4_level_36 rfl zdX3_advance ⟨rfl, rfl, Nat.le_of_ble_eq_true rfl, Nat.le_of_ble_eq_true rfl⟩ (Nat.le_of_ble_eq_true rfl) (Nat.zero_le _) (Nat.zero_le _) (fun v_7 w_8 hp_9 => ?_)
    obtain ⟨mt2_10, hr2_11, hn2_12, f2_13, hf_14, rfl, rfl⟩ := hp_9
    refine ⟨rfl, ?_⟩
    refine z_eq (ws2 := [eX4 h hT hN hU hA hK hW hL hZ (nI sg) (nI ev), eX0 hN (nI (s 0)) (nI (s 1)) (nI (s 2)) (nI (s 3)) (nI (s 4)), eX0 hU (nI (s 0)) (nI (s 1)) (nI (s 2)) (nI (s 3)) (nI (s 4)), eX3 hW hr2_11 hn2_12 ho (nI 0) (nI (s 3)) (nI (s 4)) mt2_10 (lN 4398046511104 - lN ((wrun (s 3) (s 4) 0 (s 0 + s 1) 21 (wst0 0 (s 0) (s 1) (s 2)) n).2.2.1)) (lN ((wrun (s 3) (s 4) 0 (s 0 + s 1) 21 (wst0 0 (s 0) (s 1) (s 2)) n).2.2.2)), eL t hr2_11 33 (lf (fun j => (wrun (s 3) (s 4) 0 (s 0 + s 1) 21 (wst0 0 (s 0) (s 1) (s 2)) n).1 j * 4 ^ (21 - n))), eL t hn2_12 33 f2_13, eL t ho 11 (lf ((wrun (s 3) (s 4) 0 (s 0 + s 1) 21 (wst0 0 (s 0) (s 1) (s 2)) n).2.1))]) (st2 := []) rfl rfl rfl ?_
    refine z_aload_n X (pc := 39) 0 dX4_level_39 rfl ?_
    refine z_get X (pc := 40) 0 5 (.ref hW) tu_4 tw_149 dX4_level_40 rfl rfl (by decide) rfl rfl ?_
    refine zc_V (as := []) X (pc := 43) (c_X3_chanceOfLevel lq D t hW hr2_11 hn2_12 ho 0 (s 3) (s 4) (s 0 + s 1 - n) (4 ^ (21 - n)) mt2_10 (lN 4398046511104 - lN ((wrun (s 3) (s 4) 0 (s 0 + s 1) 21 (wst0 0 (s 0) (s 1) (s 2)) n).2.2.1)) (lN ((wrun (s 3) (s 4) 0 (s 0 + s 1) 21 (wst0 0 (s 0) (s 1) (s 2)) n).2.2.2)) ((rn (s 3) (s 4) 0 (s 0) (s 1) (s 2) n).1) (by omega) (fun z => (hf_14 z).2)) tw_445 tw_448 tw_6 tw_446 tw_447 0 3 rfl rfl [3, 4] rfl rfl dX4_level_43 rfl zdX3_chanceOfLevel ⟨rfl, rfl, Nat.le_of_ble_eq_true rfl, Nat.le_of_ble_eq_true rfl⟩ (Nat.le_of_ble_eq_true rfl) (Nat.zero_le _) (Nat.zero_le _) (fun v_15 w_16 hp_17 => ?_)
    obtain ⟨rfl, rfl⟩ := hp_17
    refine ⟨rfl, ?_⟩
    refine z_eq (ws2 := [eX4 h hT hN hU hA hK hW hL hZ (nI sg) (nI ev), eX0 hN (nI (s 0)) (nI (s 1)) (nI (s 2)) (nI (s 3)) (nI (s 4)), eX0 hU (nI (s 0)) (nI (s 1)) (nI (s 2)) (nI (s 3)) (nI (s 4)), eX3 hW hr2_11 hn2_12 ho (nI 0) (nI (s 3)) (nI (s 4)) mt2_10 (lN 4398046511104 - lN ((wrun (s 3) (s 4) 0 (s 0 + s 1) 21 (wst0 0 (s 0) (s 1) (s 2)) n).2.2.1)) (lN ((wrun (s 3) (s 4) 0 (s 0 + s 1) 21 (wst0 0 (s 0) (s 1) (s 2)) n).2.2.2)), eL t hr2_11 33 (lf (fun j => ((rn (s 3) (s 4) 0 (s 0) (s 1) (s 2) n).1) j * (4 ^ (21 - n)))), eL t hn2_12 33 f2_13, eL t ho 11 (lf ((wrun (s 3) (s 4) 0 (s 0 + s 1) 21 (wst0 0 (s 0) (s 1) (s 2)) n).2.1))]) (st2 := [.long (lN (lev (s 0 + s 1 - n) ((rn (s 3) (s 4) 0 (s 0) (s 1) (s 2) n).1) * (4 ^ (21 - n))))]) rfl rfl rfl ?_
    refine zc_S (as := [.long (lN (lev (s 0 + s 1 - n) ((rn (s 3) (s 4) 0 (s 0) (s 1) (s 2) n).1) * (4 ^ (21 - n))))]) X (pc := 46) (c_X4_tenThousandthsN lq D t (lev (s 0 + s 1 - n) ((rn (s 3) (s 4) 0 (s 0) (s 1) (s 2) n).1) * (4 ^ (21 - n))) (lev_bd (by omega) (wok_run hs4 (wok0 hs0 hs1 hs2) n))) tw_408 tw_410 tw_1 tw_409 [] rfl rfl dX4_level_46 rfl zdX4_tenThousandths ⟨rfl, rfl, Nat.le_of_ble_eq_true rfl, Nat.le_of_ble_eq_true rfl⟩ (Nat.le_of_ble_eq_true rfl) (Nat.zero_le _) (Nat.zero_le _) (fun v_18 w_19 hp_20 => ?_)
    obtain ⟨rfl, rfl⟩ := hp_20
    refine ⟨rfl, ?_⟩
    refine z_eq (ws2 := [eX4 h hT hN hU hA hK hW hL hZ (nI sg) (nI ev), eX0 hN (nI (s 0)) (nI (s 1)) (nI (s 2)) (nI (s 3)) (nI (s 4)), eX0 hU (nI (s 0)) (nI (s 1)) (nI (s 2)) (nI (s 3)) (nI (s 4)), eX3 hW hr2_11 hn2_12 ho (nI 0) (nI (s 3)) (nI (s 4)) mt2_10 (lN 4398046511104 - lN ((wrun (s 3) (s 4) 0 (s 0 + s 1) 21 (wst0 0 (s 0) (s 1) (s 2)) n).2.2.1)) (lN ((wrun (s 3) (s 4) 0 (s 0 + s 1) 21 (wst0 0 (s 0) (s 1) (s 2)) n).2.2.2)), eL t hr2_11 33 (lf (fun j => ((rn (s 3) (s 4) 0 (s 0) (s 1) (s 2) n).1) j * (4 ^ (21 - n)))), eL t hn2_12 33 f2_13, eL t ho 11 (lf ((wrun (s 3) (s 4) 0 (s 0 + s 1) 21 (wst0 0 (s 0) (s 1) (s 2)) n).2.1))]) (st2 := [.int (nI ((lev (s 0 + s 1 - n) ((rn (s 3) (s 4) 0 (s 0) (s 1) (s 2) n).1) * (4 ^ (21 - n))) * 10000 / 4398046511104))]) rfl rfl rfl ?_
    exact hRet.i dX4_level_49 ⟨(nI (s 0)), (nI (s 1)), (nI (s 2)), (nI (s 3)), (nI (s 4)), hr2_11, hn2_12, (nI 0), (nI (s 3)), (nI (s 4)), mt2_10, (lN 4398046511104 - lN ((wrun (s 3) (s 4) 0 (s 0 + s 1) 21 (wst0 0 (s 0) (s 1) (s 2)) n).2.2.1)), (lN ((wrun (s 3) (s 4) 0 (s 0 + s 1) 21 (wst0 0 (s 0) (s 1) (s 2)) n).2.2.2)), (lf (fun j => ((rn (s 3) (s 4) 0 (s 0) (s 1) (s 2) n).1) j * (4 ^ (21 - n)))), f2_13, (lf ((wrun (s 3) (s 4) 0 (s 0 + s 1) 21 (wst0 0 (s 0) (s 1) (s 2)) n).2.1)), by rw [dz_ok (j := n) (a := 0) (b := 20) (by decide) n_lo n_hi]; rfl, rfl⟩
  · skip
    refine z_iconst X (pc := 10) (-1) dX4_level_10 (by decide) ?_
    exact hRet.i dX4_level_11 ⟨b0, b1, b2, b3, b4, hr, hn, g0, g1, g2, g3, g4, g5, f1, f2, f3, by rw [dz_bad c_7]; rfl, rfl⟩

abbrev rm_X4_which : Room := { frames := 5, cells := 0, slots := 0, locals := 123 }
set_option maxHeartbeats 4000000 in
set_option maxRecDepth 100000 in
theorem c_X4_which (lq : Launch) (D : va_G) (t : zT) (h hT hN hU hA hK hW hL hZ sg ev : Nat) (s : Nat → Nat) (hr hn ho : Nat) (b0 b1 b2 b3 b4 g0 g1 g2 g3 : Int32) (g4 g5 : Int64) (f1 f2 f3 : Nat → Int64)  (hs : sOk s) : Ct lq D t yX4_which cX4_which 1 (some .int) rm_X4_which [.ref h] [eX4 h hT hN hU hA hK hW hL hZ (nI sg) (nI ev), eX0 hN (nI (s 0)) (nI (s 1)) (nI (s 2)) (nI (s 3)) (nI (s 4)), eX0 hU b0 b1 b2 b3 b4, eX3 hW hr hn ho g0 g1 g2 g3 g4 g5, eL t hr 33 f1, eL t hn 33 f2, eL t ho 11 f3] 0 0 (fun rv rw_ => ∃ (B0 : Int32) (B1 : Int32) (B2 : Int32) (B3 : Int32) (B4 : Int32) (hr2 : Nat) (hn2 : Nat) (G0 : Int32) (G1 : Int32) (G2 : Int32) (G3 : Int32) (G4 : Int64) (G5 : Int64) (F1 : Nat → Int64) (F2 : Nat → Int64) (F3 : Nat → Int64), rv = some (.int (an_which s)) ∧ rw_ = [eX4 h hT hN hU hA hK hW hL hZ (nI sg) (nI ev), eX0 hN (nI (s 0)) (nI (s 1)) (nI (s 2)) (nI (s 3)) (nI (s 4)), eX0 hU B0 B1 B2 B3 B4, eX3 hW hr2 hn2 ho G0 G1 G2 G3 G4 G5, eL t hr2 33 F1, eL t hn2 33 F2, eL t ho 11 F3]) := by
  refine Ct.of (by decide) (Nat.le_of_ble_eq_true rfl) (fun k X hRet => ?_)
  have X : zX D t k cX4_which 1 RX4 "which" rm_X4_which lq := X
  refine z_eq (lv2 := [(0, .ref h)]) rfl rfl rfl ?_
  have hsk := hs
  obtain ⟨hs0, hs1, hs2, hs3, hs4⟩ := hs
  refine z_aload_n X (pc := 0) 0 dX4_which_0 rfl ?_
  refine z_iconst X (pc := 1) (nI 0) dX4_which_1 (by decide) ?_
  refine zc_V (as := [.int (nI 0)]) X (pc := 2) (c_X4_walkToEnd lq D t h hT hN hU hA hK hW hL hZ sg ev s hr hn ho b0 b1 b2 b3 b4 g0 g1 g2 g3 g4 g5 f1 f2 f3 0 hsk (by decide)) tw_365 tw_368 tw_1 tw_367 tw_1012 0 4 rfl rfl [0, 1, 2, 3, 4, 5, 6] rfl rfl dX4_which_2 rfl zdX4_walkToEnd ⟨rfl, rfl, Nat.le_of_ble_eq_true rfl, Nat.le_of_ble_eq_true rfl⟩ (Nat.le_of_ble_eq_true rfl) (Nat.zero_le _) (Nat.zero_le _) (fun v_1 w_2 hp_3 => ?_)
  obtain ⟨mt2_4, hr2_5, hn2_6, F2_7, rfl, rfl⟩ := hp_3
  refine ⟨rfl, ?_⟩
  refine z_eq (ws2 := [eX4 h hT hN hU hA hK hW hL hZ (nI sg) (nI ev), eX0 hN (nI (s 0)) (nI (s 1)) (nI (s 2)) (nI (s 3)) (nI (s 4)), eX0 hU (nI (s 0)) (nI (s 1)) (nI (s 2)) (nI (s 3)) (nI (s 4)), eX3 hW hr2_5 hn2_6 ho (nI 0) (nI (s 3)) (nI (s 4)) mt2_4 (lN 4398046511104 - lN ((wrun (s 3) (s 4) 0 (s 0 + s 1) 21 (wst0 0 (s 0) (s 1) (s 2)) 21).2.2.1)) (lN ((wrun (s 3) (s 4) 0 (s 0 + s 1) 21 (wst0 0 (s 0) (s 1) (s 2)) 21).2.2.2)), eL t hr2_5 33 (lf (fun j => (wrun (s 3) (s 4) 0 (s 0 + s 1) 21 (wst0 0 (s 0) (s 1) (s 2)) 21).1 j * 4 ^ (0))), eL t hn2_6 33 F2_7, eL t ho 11 (lf ((wrun (s 3) (s 4) 0 (s 0 + s 1) 21 (wst0 0 (s 0) (s 1) (s 2)) 21).2.1))]) (st2 := [.long (lN (rch (s 3) (s 4) 0 (s 0) (s 1) (s 2)))]) rfl rfl rfl ?_
  refine z_pop2 X (pc := 5) dX4_which_5 rfl ?_
  refine z_aload_n X (pc := 6) 0 dX4_which_6 rfl ?_
  refine z_get X (pc := 7) 0 5 (.ref hW) tu_4 tw_149 dX4_which_7 rfl rfl (by decide) rfl rfl ?_
  refine zc_V (as := []) X (pc := 10) (c_X3_chanceOfLeftFirst lq D t hW hr2_5 hn2_6 ho 0 (s 3) (s 4) mt2_4 (lN 4398046511104 - lN ((wrun (s 3) (s 4) 0 (s 0 + s 1) 21 (wst0 0 (s 0) (s 1) (s 2)) 21).2.2.1)) ((wrun (s 3) (s 4) 0 (s 0 + s 1) 21 (wst0 0 (s 0) (s 1) (s 2)) 21).2.2.2) ) tw_509 tw_512 tw_6 tw_510 tw_511 0 3 rfl rfl [3] rfl rfl dX4_which_10 rfl zdX3_chanceOfLeftFirst ⟨rfl, rfl, Nat.le_of_ble_eq_true rfl, Nat.le_of_ble_eq_true rfl⟩ (Nat.le_of_ble_eq_true rfl) (Nat.zero_le _) (Nat.zero_le _) (fun v_8 w_9 hp_10 => ?_)
  obtain ⟨rfl, rfl⟩ := hp_10
  refine ⟨rfl, ?_⟩
  refine z_eq (ws2 := [eX4 h hT hN hU hA hK hW hL hZ (nI sg) (nI ev), eX0 hN (nI (s 0)) (nI (s 1)) (nI (s 2)) (nI (s 3)) (nI (s 4)), eX0 hU (nI (s 0)) (nI (s 1)) (nI (s 2)) (nI (s 3)) (nI (s 4)), eX3 hW hr2_5 hn2_6 ho (nI 0) (nI (s 3)) (nI (s 4)) mt2_4 (lN 4398046511104 - lN ((wrun (s 3) (s 4) 0 (s 0 + s 1) 21 (wst0 0 (s 0) (s 1) (s 2)) 21).2.2.1)) (lN ((wrun (s 3) (s 4) 0 (s 0 + s 1) 21 (wst0 0 (s 0) (s 1) (s 2)) 21).2.2.2)), eL t hr2_5 33 (lf (fun j => (wrun (s 3) (s 4) 0 (s 0 + s 1) 21 (wst0 0 (s 0) (s 1) (s 2)) 21).1 j * 4 ^ (0))), eL t hn2_6 33 F2_7, eL t ho 11 (lf ((wrun (s 3) (s 4) 0 (s 0 + s 1) 21 (wst0 0 (s 0) (s 1) (s 2)) 21).2.1))]) (st2 := [.long (lN ((wrun (s 3) (s 4) 0 (s 0 + s 1) 21 (wst0 0 (s 0) (s 1) (s 2)) 21).2.2.2))]) rfl rfl rfl ?_
  refine zc_S (as := [.long (lN ((wrun (s 3) (s 4) 0 (s 0 + s 1) 21 (wst0 0 (s 0) (s 1) (s 2)) 21).2.2.2))]) X (pc := 13) (c_X4_tenThousandthsN lq D t ((wrun (s 3) (s 4) 0 (s 0 + s 1) 21 (wst0 0 (s 0) (s 1) (s 2)) 21).2.2.2) (rn_el hs4 hs0 hs1 hs2)) tw_408 tw_410 tw_1 tw_409 [] rfl rfl dX4_which_13 rfl zdX4_tenThousandths ⟨rfl, rfl, Nat.le_of_ble_eq_true rfl, Nat.le_of_ble_eq_true rfl⟩ (Nat.le_of_ble_eq_true rfl) (Nat.zero_le _) (Nat.zero_le _) (fun v_11 w_12 hp_13 => ?_)
  obtain ⟨rfl, rfl⟩ := hp_13
  refine ⟨rfl, ?_⟩
  refine z_eq (ws2 := [eX4 h hT hN hU hA hK hW hL hZ (nI sg) (nI ev), eX0 hN (nI (s 0)) (nI (s 1)) (nI (s 2)) (nI (s 3)) (nI (s 4)), eX0 hU (nI (s 0)) (nI (s 1)) (nI (s 2)) (nI (s 3)) (nI (s 4)), eX3 hW hr2_5 hn2_6 ho (nI 0) (nI (s 3)) (nI (s 4)) mt2_4 (lN 4398046511104 - lN ((wrun (s 3) (s 4) 0 (s 0 + s 1) 21 (wst0 0 (s 0) (s 1) (s 2)) 21).2.2.1)) (lN ((wrun (s 3) (s 4) 0 (s 0 + s 1) 21 (wst0 0 (s 0) (s 1) (s 2)) 21).2.2.2)), eL t hr2_5 33 (lf (fun j => (wrun (s 3) (s 4) 0 (s 0 + s 1) 21 (wst0 0 (s 0) (s 1) (s 2)) 21).1 j * 4 ^ (0))), eL t hn2_6 33 F2_7, eL t ho 11 (lf ((wrun (s 3) (s 4) 0 (s 0 + s 1) 21 (wst0 0 (s 0) (s 1) (s 2)) 21).2.1))]) (st2 := [.int (nI (((wrun (s 3) (s 4) 0 (s 0 + s 1) 21 (wst0 0 (s 0) (s 1) (s 2)) 21).2.2.2) * 10000 / 4398046511104))]) rfl rfl rfl ?_
  exact hRet.i dX4_which_16 ⟨(nI (s 0)), (nI (s 1)), (nI (s 2)), (nI (s 3)), (nI (s 4)), hr2_5, hn2_6, (nI 0), (nI (s 3)), (nI (s 4)), mt2_4, (lN 4398046511104 - lN ((wrun (s 3) (s 4) 0 (s 0 + s 1) 21 (wst0 0 (s 0) (s 1) (s 2)) 21).2.2.1)), (lN ((wrun (s 3) (s 4) 0 (s 0 + s 1) 21 (wst0 0 (s 0) (s 1) (s 2)) 21).2.2.2)), (lf (fun j => (wrun (s 3) (s 4) 0 (s 0 + s 1) 21 (wst0 0 (s 0) (s 1) (s 2)) 21).1 j * 4 ^ (0))), F2_7, (lf ((wrun (s 3) (s 4) 0 (s 0 + s 1) 21 (wst0 0 (s 0) (s 1) (s 2)) 21).2.1)), rfl, rfl⟩
