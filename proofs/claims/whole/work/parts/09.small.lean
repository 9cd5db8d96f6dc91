/-! PART 09: the small functions of the class, and Coat -/
theorem some_zb_t {P : Prop} [Decidable P] (h : P) : some (Value.int (nI 1)) = some (Value.int (zb P)) := by rw [nzb_t h]
theorem some_zb_f {P : Prop} [Decidable P] (h : ¬ P) : some (Value.int (nI 0)) = some (Value.int (zb P)) := by rw [nzb_f h]
theorem inR {x : Int32} {a b : Nat} (ha : a < 2 ^ 31) (hb : b < 2 ^ 31) (h : nI a ≤ x ∧ x ≤ nI b) : ∃ j : Nat, a ≤ j ∧ j ≤ b ∧ x = nI j := by
  have h0 : ¬ x < 0 := by
    intro hx
    have h1 := h.1
    simp only [Int32.lt_iff_toInt_lt, Int32.le_iff_toInt_le, nI_toInt ha, Int32.toInt_zero] at h1 hx
    omega
  obtain ⟨j, hj, rfl⟩ := nI_of h0
  exact ⟨j, (nI_leI ha hj).mp h.1, (nI_leI hj hb).mp h.2, rfl⟩
/-- by how many of four the hand reaches to the left -/
def htl (kd x l r la : Nat) : Nat :=
  if kd = 1 then (if la = 0 then x else if la = 1 then 4 - x else 2)
  else if kd = 2 then (if r < l then x else if l < r then 4 - x else 2)
  else if kd = 3 then (if l < r then x else if r < l then 4 - x else 2)
  else x
theorem htl_le {kd x l r la : Nat} (h : x ≤ 4) : htl kd x l r la ≤ 4 := by
  unfold htl
  repeat' split
  all_goals omega
abbrev rm_X4_within : Room := { frames := 0, cells := 0, slots := 0, locals := 0 }
set_option maxHeartbeats 4000000 in
set_option maxRecDepth 100000 in
theorem c_X4_within (lq : Launch) (D : va_G) (t : zT) (x a b : Int32)  : Ct lq D t yX4_within cX4_within 3 (some .boolean) rm_X4_within [.int x, .int a, .int b] [] 0 0 (fun rv rw_ => rv = some (.int (zb (a ≤ x ∧ x ≤ b))) ∧ rw_ = []) := by
  refine Ct.of (by decide) (Nat.le_of_ble_eq_true rfl) (fun k X hR => ?_)
  have X : zX D t k cX4_within 3 RX4 "within" rm_X4_within lq := X
  refine z_eq (lv2 := [(0, .int x), (1, .int a), (2, .int b)]) rfl rfl rfl ?_
  refine z_iload_n X (pc := 0) 0 dX4_within_0 rfl ?_
  refine z_iload_n X (pc := 1) 1 dX4_within_1 rfl ?_
  refine z_icmp_lt X (pc := 2) 14 dX4_within_2 (by decide) (fun c_2 => ?_) (fun c_2 => ?_)
  · skip
    refine z_iconst X (pc := 14) (nI 0) dX4_within_14 (by decide) ?_
    exact hR.z dX4_within_15 rfl ⟨some_zb_f (by simp only [Int32.lt_iff_toInt_lt, Int32.le_iff_toInt_le, ← Int32.toInt_inj] at c_2 ⊢; omega), rfl⟩
  · skip
    refine z_iload_n X (pc := 5) 0 dX4_within_5 rfl ?_
    refine z_iload_n X (pc := 6) 2 dX4_within_6 rfl ?_
    refine z_icmp_gt X (pc := 7) 14 dX4_within_7 (by decide) (fun c_7 => ?_) (fun c_7 => ?_)
    · skip
      refine z_iconst X (pc := 14) (nI 0) dX4_within_14 (by decide) ?_
      exact hR.z dX4_within_15 rfl ⟨some_zb_f (by simp only [Int32.lt_iff_toInt_lt, Int32.le_iff_toInt_le, ← Int32.toInt_inj] at c_2 c_7 ⊢; omega), rfl⟩
    · skip
      refine z_iconst X (pc := 10) (nI 1) dX4_within_10 (by decide) ?_
      refine z_goto X (pc := 11) 15 dX4_within_11 (by decide) ?_
      exact hR.z dX4_within_15 rfl ⟨some_zb_t (by simp only [Int32.lt_iff_toInt_lt, Int32.le_iff_toInt_le, ← Int32.toInt_inj] at c_2 c_7 ⊢; omega), rfl⟩

abbrev rm_X4_isSide : Room := { frames := 1, cells := 0, slots := 0, locals := 22 }
set_option maxHeartbeats 4000000 in
set_option maxRecDepth 100000 in
theorem c_X4_isSide (lq : Launch) (D : va_G) (t : zT) (x : Int32)  : Ct lq D t yX4_isSide cX4_isSide 1 (some .boolean) rm_X4_isSide [.int x] [] 0 0 (fun rv rw_ => rv = some (.int (zb (nI 0 ≤ x ∧ x ≤ nI 1))) ∧ rw_ = []) := by
  refine Ct.of (by decide) (Nat.le_of_ble_eq_true rfl) (fun k X hR => ?_)
  have X : zX D t k cX4_isSide 1 RX4 "isSide" rm_X4_isSide lq := X
  refine z_eq (lv2 := [(0, .int x)]) rfl rfl rfl ?_
  refine z_iload_n X (pc := 0) 0 dX4_isSide_0 rfl ?_
  refine z_iconst X (pc := 1) (nI 0) dX4_isSide_1 (by decide) ?_
  refine z_iconst X (pc := 2) (nI 1) dX4_isSide_2 (by decide) ?_
  refine zc_S (as := [.int x, .int (nI 0), .int (nI 1)]) X (pc := 3) (c_X4_within lq D t x (nI 0) (nI 1) ) tw_180 tw_182 tw_1 tw_181 [] rfl rfl dX4_isSide_3 rfl zdX4_within ⟨rfl, rfl, Nat.le_of_ble_eq_true rfl, Nat.le_of_ble_eq_true rfl⟩ (Nat.le_of_ble_eq_true rfl) (Nat.zero_le _) (Nat.zero_le _) (fun v_1 w_2 hp_3 => ?_)
  obtain ⟨rfl, rfl⟩ := hp_3
  refine ⟨rfl, ?_⟩
  refine z_eq (ws2 := []) (st2 := [.int (zb ((nI 0) ≤ x ∧ x ≤ (nI 1)))]) rfl rfl rfl ?_
  exact hR.z dX4_isSide_6 (zb_nar _) ⟨rfl, rfl⟩

abbrev rm_X4_isEnd : Room := { frames := 1, cells := 0, slots := 0, locals := 22 }
set_option maxHeartbeats 4000000 in
set_option maxRecDepth 100000 in
theorem c_X4_isEnd (lq : Launch) (D : va_G) (t : zT) (x : Int32)  : Ct lq D t yX4_isEnd cX4_isEnd 1 (some .boolean) rm_X4_isEnd [.int x] [] 0 0 (fun rv rw_ => rv = some (.int (zb (nI 0 ≤ x ∧ x ≤ nI 1))) ∧ rw_ = []) := by
  refine Ct.of (by decide) (Nat.le_of_ble_eq_true rfl) (fun k X hR => ?_)
  have X : zX D t k cX4_isEnd 1 RX4 "isEnd" rm_X4_isEnd lq := X
  refine z_eq (lv2 := [(0, .int x)]) rfl rfl rfl ?_
  refine z_iload_n X (pc := 0) 0 dX4_isEnd_0 rfl ?_
  refine z_iconst X (pc := 1) (nI 0) dX4_isEnd_1 (by decide) ?_
  refine z_iconst X (pc := 2) (nI 1) dX4_isEnd_2 (by decide) ?_
  refine zc_S (as := [.int x, .int (nI 0), .int (nI 1)]) X (pc := 3) (c_X4_within lq D t x (nI 0) (nI 1) ) tw_180 tw_182 tw_1 tw_181 [] rfl rfl dX4_isEnd_3 rfl zdX4_within ⟨rfl, rfl, Nat.le_of_ble_eq_true rfl, Nat.le_of_ble_eq_true rfl⟩ (Nat.le_of_ble_eq_true rfl) (Nat.zero_le _) (Nat.zero_le _) (fun v_1 w_2 hp_3 => ?_)
  obtain ⟨rfl, rfl⟩ := hp_3
  refine ⟨rfl, ?_⟩
  refine z_eq (ws2 := []) (st2 := [.int (zb ((nI 0) ≤ x ∧ x ≤ (nI 1)))]) rfl rfl rfl ?_
  exact hR.z dX4_isEnd_6 (zb_nar _) ⟨rfl, rfl⟩

abbrev rm_X4_isPart : Room := { frames := 1, cells := 0, slots := 0, locals := 22 }
set_option maxHeartbeats 4000000 in
set_option maxRecDepth 100000 in
theorem c_X4_isPart (lq : Launch) (D : va_G) (t : zT) (x : Int32)  : Ct lq D t yX4_isPart cX4_isPart 1 (some .boolean) rm_X4_isPart [.int x] [] 0 0 (fun rv rw_ => rv = some (.int (zb (nI 0 ≤ x ∧ x ≤ nI 1))) ∧ rw_ = []) := by
  refine Ct.of (by decide) (Nat.le_of_ble_eq_true rfl) (fun k X hR => ?_)
  have X : zX D t k cX4_isPart 1 RX4 "isPart" rm_X4_isPart lq := X
  refine z_eq (lv2 := [(0, .int x)]) rfl rfl rfl ?_
  refine z_iload_n X (pc := 0) 0 dX4_isPart_0 rfl ?_
  refine z_iconst X (pc := 1) (nI 0) dX4_isPart_1 (by decide) ?_
  refine z_iconst X (pc := 2) (nI 1) dX4_isPart_2 (by decide) ?_
  refine zc_S (as := [.int x, .int (nI 0), .int (nI 1)]) X (pc := 3) (c_X4_within lq D t x (nI 0) (nI 1) ) tw_180 tw_182 tw_1 tw_181 [] rfl rfl dX4_isPart_3 rfl zdX4_within ⟨rfl, rfl, Nat.le_of_ble_eq_true rfl, Nat.le_of_ble_eq_true rfl⟩ (Nat.le_of_ble_eq_true rfl) (Nat.zero_le _) (Nat.zero_le _) (fun v_1 w_2 hp_3 => ?_)
  obtain ⟨rfl, rfl⟩ := hp_3
  refine ⟨rfl, ?_⟩
  refine z_eq (ws2 := []) (st2 := [.int (zb ((nI 0) ≤ x ∧ x ≤ (nI 1)))]) rfl rfl rfl ?_
  exact hR.z dX4_isPart_6 (zb_nar _) ⟨rfl, rfl⟩

abbrev rm_X4_isKind : Room := { frames := 1, cells := 0, slots := 0, locals := 22 }
set_option maxHeartbeats 4000000 in
set_option maxRecDepth 100000 in
theorem c_X4_isKind (lq : Launch) (D : va_G) (t : zT) (x : Int32)  : Ct lq D t yX4_isKind cX4_isKind 1 (some .boolean) rm_X4_isKind [.int x] [] 0 0 (fun rv rw_ => rv = some (.int (zb (nI 0 ≤ x ∧ x ≤ nI 3))) ∧ rw_ = []) := by
  refine Ct.of (by decide) (Nat.le_of_ble_eq_true rfl) (fun k X hR => ?_)
  have X : zX D t k cX4_isKind 1 RX4 "isKind" rm_X4_isKind lq := X
  refine z_eq (lv2 := [(0, .int x)]) rfl rfl rfl ?_
  refine z_iload_n X (pc := 0) 0 dX4_isKind_0 rfl ?_
  refine z_iconst X (pc := 1) (nI 0) dX4_isKind_1 (by decide) ?_
  refine z_iconst X (pc := 2) (nI 3) dX4_isKind_2 (by decide) ?_
  refine zc_S (as := [.int x, .int (nI 0), .int (nI 3)]) X (pc := 3) (c_X4_within lq D t x (nI 0) (nI 3) ) tw_180 tw_182 tw_1 tw_181 [] rfl rfl dX4_isKind_3 rfl zdX4_within ⟨rfl, rfl, Nat.le_of_ble_eq_true rfl, Nat.le_of_ble_eq_true rfl⟩ (Nat.le_of_ble_eq_true rfl) (Nat.zero_le _) (Nat.zero_le _) (fun v_1 w_2 hp_3 => ?_)
  obtain ⟨rfl, rfl⟩ := hp_3
  refine ⟨rfl, ?_⟩
  refine z_eq (ws2 := []) (st2 := [.int (zb ((nI 0) ≤ x ∧ x ≤ (nI 3)))]) rfl rfl rfl ?_
  exact hR.z dX4_isKind_6 (zb_nar _) ⟨rfl, rfl⟩

abbrev rm_X4_isHand : Room := { frames := 2, cells := 0, slots := 0, locals := 42 }
set_option maxHeartbeats 4000000 in
set_option maxRecDepth 100000 in
theorem c_X4_isHand (lq : Launch) (D : va_G) (t : zT) (kd x : Int32)  : Ct lq D t yX4_isHand cX4_isHand 2 (some .boolean) rm_X4_isHand [.int kd, .int x] [] 0 0 (fun rv rw_ => rv = some (.int (zb ((nI 0 ≤ kd ∧ kd ≤ nI 3) ∧ (nI 0 ≤ x ∧ x ≤ nI 4)))) ∧ rw_ = []) := by
  refine Ct.of (by decide) (Nat.le_of_ble_eq_true rfl) (fun k X hR => ?_)
  have X : zX D t k cX4_isHand 2 RX4 "isHand" rm_X4_isHand lq := X
  refine z_eq (lv2 := [(0, .int kd), (1, .int x)]) rfl rfl rfl ?_
  refine z_iload_n X (pc := 0) 0 dX4_isHand_0 rfl ?_
  refine zc_S (as := [.int kd]) X (pc := 1) (c_X4_isKind lq D t kd ) tw_245 tw_247 tw_1 tw_246 [] rfl rfl dX4_isHand_1 rfl zdX4_isKind ⟨rfl, rfl, Nat.le_of_ble_eq_true rfl, Nat.le_of_ble_eq_true rfl⟩ (Nat.le_of_ble_eq_true rfl) (Nat.zero_le _) (Nat.zero_le _) (fun v_1 w_2 hp_3 => ?_)
  obtain ⟨rfl, rfl⟩ := hp_3
  refine ⟨rfl, ?_⟩
  refine z_eq (ws2 := []) (st2 := [.int (zb (nI 0 ≤ kd ∧ kd ≤ nI 3))]) rfl rfl rfl ?_
  refine z_if_eqB X (pc := 4) 20 dX4_isHand_4 (by decide) (fun c_4 => ?_) (fun c_4 => ?_)
  · skip
    refine z_iconst X (pc := 20) (nI 0) dX4_isHand_20 (by decide) ?_
    exact hR.z dX4_isHand_21 rfl ⟨some_zb_f (fun z => c_4 z.1), rfl⟩
  · skip
    refine z_iload_n X (pc := 7) 1 dX4_isHand_7 rfl ?_
    refine z_iconst X (pc := 8) (nI 0) dX4_isHand_8 (by decide) ?_
    refine z_iconst X (pc := 9) (nI 4) dX4_isHand_9 (by decide) ?_
    refine zc_S (as := [.int x, .int (nI 0), .int (nI 4)]) X (pc := 10) (c_X4_within lq D t x (nI 0) (nI 4) ) tw_180 tw_182 tw_1 tw_181 [] rfl rfl dX4_isHand_10 rfl zdX4_within ⟨rfl, rfl, Nat.le_of_ble_eq_true rfl, Nat.le_of_ble_eq_true rfl⟩ (Nat.le_of_ble_eq_true rfl) (Nat.zero_le _) (Nat.zero_le _) (fun v_4 w_5 hp_6 => ?_)
    obtain ⟨rfl, rfl⟩ := hp_6
    refine ⟨rfl, ?_⟩
    refine z_eq (ws2 := []) (st2 := [.int (zb ((nI 0) ≤ x ∧ x ≤ (nI 4)))]) rfl rfl rfl ?_
    refine z_if_eqB X (pc := 13) 20 dX4_isHand_13 (by decide) (fun c_13 => ?_) (fun c_13 => ?_)
    · skip
      refine z_iconst X (pc := 20) (nI 0) dX4_isHand_20 (by decide) ?_
      exact hR.z dX4_isHand_21 rfl ⟨some_zb_f (fun z => c_13 z.2), rfl⟩
    · skip
      refine z_iconst X (pc := 16) (nI 1) dX4_isHand_16 (by decide) ?_
      refine z_goto X (pc := 17) 21 dX4_isHand_17 (by decide) ?_
      exact hR.z dX4_isHand_21 rfl ⟨some_zb_t ⟨c_4, c_13⟩, rfl⟩

abbrev rm_X4_otherSide : Room := { frames := 0, cells := 0, slots := 0, locals := 0 }
set_option maxHeartbeats 4000000 in
set_option maxRecDepth 100000 in
theorem c_X4_otherSide (lq : Launch) (D : va_G) (t : zT) (sd : Nat) (hsd : sd ≤ 1) : Ct lq D t yX4_otherSide cX4_otherSide 1 (some .int) rm_X4_otherSide [.int (nI sd)] [] 0 0 (fun rv rw_ => rv = some (.int (nI (1 - sd))) ∧ rw_ = []) := by
  refine Ct.of (by decide) (Nat.le_of_ble_eq_true rfl) (fun k X hR => ?_)
  have X : zX D t k cX4_otherSide 1 RX4 "otherSide" rm_X4_otherSide lq := X
  refine z_eq (lv2 := [(0, .int (nI sd))]) rfl rfl rfl ?_
  refine z_iload_n X (pc := 0) 0 dX4_otherSide_0 rfl ?_
  refine z_if_neN X (pc := 1) 8 (by omega) dX4_otherSide_1 (by decide) (fun c_1 => ?_) (fun c_1 => ?_)
  · skip
    refine z_iconst X (pc := 8) (nI 0) dX4_otherSide_8 (by decide) ?_
    exact hR.i dX4_otherSide_9 ⟨by rw [show 1 - sd = 0 by omega], rfl⟩
  · skip
    refine z_iconst X (pc := 4) (nI 1) dX4_otherSide_4 (by decide) ?_
    refine z_goto X (pc := 5) 9 dX4_otherSide_5 (by decide) ?_
    exact hR.i dX4_otherSide_9 ⟨by rw [show 1 - sd = 1 by omega], rfl⟩

abbrev rm_X4_leaning : Room := { frames := 0, cells := 0, slots := 0, locals := 0 }
set_option maxHeartbeats 4000000 in
set_option maxRecDepth 100000 in
theorem c_X4_leaning (lq : Launch) (D : va_G) (t : zT) (x p q : Nat) (hx : x ≤ 4) (hp : p ≤ 1) (hq : q ≤ 1) : Ct lq D t yX4_leaning cX4_leaning 3 (some .int) rm_X4_leaning [.int (nI x), .int (nI p), .int (nI q)] [] 0 0 (fun rv rw_ => rv = some (.int (nI (if ¬ p = 0 then x else if ¬ q = 0 then 4 - x else 2))) ∧ rw_ = []) := by
  refine Ct.of (by decide) (Nat.le_of_ble_eq_true rfl) (fun k X hR => ?_)
  have X : zX D t k cX4_leaning 3 RX4 "leaning" rm_X4_leaning lq := X
  refine z_eq (lv2 := [(0, .int (nI x)), (1, .int (nI p)), (2, .int (nI q))]) rfl rfl rfl ?_
  refine z_iload_n X (pc := 0) 1 dX4_leaning_0 rfl ?_
  refine z_if_eqN X (pc := 1) 6 (by omega) dX4_leaning_1 (by decide) (fun c_1 => ?_) (fun c_1 => ?_)
  · skip
    refine z_iload_n X (pc := 6) 2 dX4_leaning_6 rfl ?_
    refine z_if_eqN X (pc := 7) 16 (by omega) dX4_leaning_7 (by decide) (fun c_7 => ?_) (fun c_7 => ?_)
    · skip
      refine z_iconst X (pc := 16) (nI 2) dX4_leaning_16 (by decide) ?_
      exact hR.i dX4_leaning_17 ⟨by simp [*], rfl⟩
    · skip
      refine z_iconst X (pc := 10) (nI 4) dX4_leaning_10 (by decide) ?_
      refine z_iload_n X (pc := 11) 0 dX4_leaning_11 rfl ?_
      refine z_isub X (pc := 12) (v := (nI (4 - x))) dX4_leaning_12 (pk_sub (by omega)) ?_
      refine z_goto X (pc := 13) 17 dX4_leaning_13 (by decide) ?_
      exact hR.i dX4_leaning_17 ⟨by simp [*], rfl⟩
  · skip
    refine z_iload_n X (pc := 4) 0 dX4_leaning_4 rfl ?_
    exact hR.i dX4_leaning_5 ⟨by simp [*], rfl⟩

abbrev rm_X4_handToLeft : Room := { frames := 1, cells := 0, slots := 0, locals := 22 }
set_option maxHeartbeats 4000000 in
set_option maxRecDepth 100000 in
theorem c_X4_handToLeft (lq : Launch) (D : va_G) (t : zT) (kd x l r la : Nat) (hkd : kd ≤ 3) (hx : x ≤ 4) (hl : l < 100) (hr : r < 100) (hla : la ≤ 2) : Ct lq D t yX4_handToLeft cX4_handToLeft 5 (some .int) rm_X4_handToLeft [.int (nI kd), .int (nI x), .int (nI l), .int (nI r), .int (nI la)] [] 0 0 (fun rv rw_ => rv = some (.int (nI (htl kd x l r la))) ∧ rw_ = []) := by
  refine Ct.of (by decide) (Nat.le_of_ble_eq_true rfl) (fun k X hR => ?_)
  have X : zX D t k cX4_handToLeft 5 RX4 "handToLeft" rm_X4_handToLeft lq := X
  refine z_eq (lv2 := [(0, .int (nI kd)), (1, .int (nI x)), (2, .int (nI l)), (3, .int (nI r)), (4, .int (nI la))]) rfl rfl rfl ?_
  refine z_iload_n X (pc := 0) 0 dX4_handToLeft_0 rfl ?_
  rcases (show kd = 0 ∨ kd = 1 ∨ kd = 2 ∨ kd = 3 by omega) with rfl | rfl | rfl | rfl
  · skip
    refine z_tableOut X (pc := 1) 104 dX4_handToLeft_1 (by decide) (by decide) ?_
    refine z_iload_n X (pc := 104) 1 dX4_handToLeft_104 rfl ?_
    exact hR.i dX4_handToLeft_105 ⟨by first | rfl | (congr 3; unfold htl; (repeat' split) <;> omega), rfl⟩
  · skip
    refine z_tableIn X (pc := 1) (off := 27) 28 dX4_handToLeft_1 (by decide) (by decide) (by decide) (by decide) ?_
    refine z_iload_n X (pc := 28) 1 dX4_handToLeft_28 rfl ?_
    refine z_iload X (pc := 29) 4 dX4_handToLeft_29 rfl ?_
    refine z_if_neN X (pc := 31) 38 (by omega) dX4_handToLeft_31 (by decide) (fun c_31 => ?_) (fun c_31 => ?_)
    · skip
      refine z_iconst X (pc := 38) (nI 0) dX4_handToLeft_38 (by decide) ?_
      refine z_iload X (pc := 39) 4 dX4_handToLeft_39 rfl ?_
      refine z_iconst X (pc := 41) (nI 1) dX4_handToLeft_41 (by decide) ?_
      refine z_icmp_neN X (pc := 42) 49 (by omega) (by omega) dX4_handToLeft_42 (by decide) (fun c_42 => ?_) (fun c_42 => ?_)
      · skip
        refine z_iconst X (pc := 49) (nI 0) dX4_handToLeft_49 (by decide) ?_
        refine zc_S (as := [.int (nI x), .int (nI 0), .int (nI 0)]) X (pc := 50) (c_X4_leaning lq D t x 0 0 (by omega) (by omega) (by omega)) tw_299 tw_301 tw_1 tw_300 [] rfl rfl dX4_handToLeft_50 rfl zdX4_leaning ⟨rfl, rfl, Nat.le_of_ble_eq_true rfl, Nat.le_of_ble_eq_true rfl⟩ (Nat.le_of_ble_eq_true rfl) (Nat.zero_le _) (Nat.zero_le _) (fun v_1 w_2 hp_3 => ?_)
        obtain ⟨rfl, rfl⟩ := hp_3
        refine ⟨rfl, ?_⟩
        refine z_eq (ws2 := []) (st2 := [.int (nI (if ¬ 0 = 0 then x else if ¬ 0 = 0 then 4 - x else 2))]) rfl rfl rfl ?_
        exact hR.i dX4_handToLeft_53 ⟨by first | rfl | (congr 3; unfold htl; (repeat' split) <;> omega), rfl⟩
      · skip
        refine z_iconst X (pc := 45) (nI 1) dX4_handToLeft_45 (by decide) ?_
        refine z_goto X (pc := 46) 50 dX4_handToLeft_46 (by decide) ?_
        refine zc_S (as := [.int (nI x), .int (nI 0), .int (nI 1)]) X (pc := 50) (c_X4_leaning lq D t x 0 1 (by omega) (by omega) (by omega)) tw_299 tw_301 tw_1 tw_300 [] rfl rfl dX4_handToLeft_50 rfl zdX4_leaning ⟨rfl, rfl, Nat.le_of_ble_eq_true rfl, Nat.le_of_ble_eq_true rfl⟩ (Nat.le_of_ble_eq_true rfl) (Nat.zero_le _) (Nat.zero_le _) (fun v_4 w_5 hp_6 => ?_)
        obtain ⟨rfl, rfl⟩ := hp_6
        refine ⟨rfl, ?_⟩
        refine z_eq (ws2 := []) (st2 := [.int (nI (if ¬ 0 = 0 then x else if ¬ 1 = 0 then 4 - x else 2))]) rfl rfl rfl ?_
        exact hR.i dX4_handToLeft_53 ⟨by first | rfl | (congr 3; unfold htl; (repeat' split) <;> omega), rfl⟩
    · skip
      refine z_iconst X (pc := 34) (nI 1) dX4_handToLeft_34 (by decide) ?_
      refine z_goto X (pc := 35) 39 dX4_handToLeft_35 (by decide) ?_
      refine z_iload X (pc := 39) 4 dX4_handToLeft_39 rfl ?_
      refine z_iconst X (pc := 41) (nI 1) dX4_handToLeft_41 (by decide) ?_
      refine z_icmp_neN X (pc := 42) 49 (by omega) (by omega) dX4_handToLeft_42 (by decide) (fun c_42 => ?_) (fun c_42 => ?_)
      · skip
        refine z_iconst X (pc := 49) (nI 0) dX4_handToLeft_49 (by decide) ?_
        refine zc_S (as := [.int (nI x), .int (nI 1), .int (nI 0)]) X (pc := 50) (c_X4_leaning lq D t x 1 0 (by omega) (by omega) (by omega)) tw_299 tw_301 tw_1 tw_300 [] rfl rfl dX4_handToLeft_50 rfl zdX4_leaning ⟨rfl, rfl, Nat.le_of_ble_eq_true rfl, Nat.le_of_ble_eq_true rfl⟩ (Nat.le_of_ble_eq_true rfl) (Nat.zero_le _) (Nat.zero_le _) (fun v_7 w_8 hp_9 => ?_)
        obtain ⟨rfl, rfl⟩ := hp_9
        refine ⟨rfl, ?_⟩
        refine z_eq (ws2 := []) (st2 := [.int (nI (if ¬ 1 = 0 then x else if ¬ 0 = 0 then 4 - x else 2))]) rfl rfl rfl ?_
        exact hR.i dX4_handToLeft_53 ⟨by first | rfl | (congr 3; unfold htl; (repeat' split) <;> omega), rfl⟩
      · skip
        refine z_iconst X (pc := 45) (nI 1) dX4_handToLeft_45 (by decide) ?_
        refine z_goto X (pc := 46) 50 dX4_handToLeft_46 (by decide) ?_
        refine zc_S (as := [.int (nI x), .int (nI 1), .int (nI 1)]) X (pc := 50) (c_X4_leaning lq D t x 1 1 (by omega) (by omega) (by omega)) tw_299 tw_301 tw_1 tw_300 [] rfl rfl dX4_handToLeft_50 rfl zdX4_leaning ⟨rfl, rfl, Nat.le_of_ble_eq_true rfl, Nat.le_of_ble_eq_true rfl⟩ (Nat.le_of_ble_eq_true rfl) (Nat.zero_le _) (Nat.zero_le _) (fun v_10 w_11 hp_12 => ?_)
        obtain ⟨rfl, rfl⟩ := hp_12
        refine ⟨rfl, ?_⟩
        refine z_eq (ws2 := []) (st2 := [.int (nI (if ¬ 1 = 0 then x else if ¬ 1 = 0 then 4 - x else 2))]) rfl rfl rfl ?_
        exact hR.i dX4_handToLeft_53 ⟨by first | rfl | (congr 3; unfold htl; (repeat' split) <;> omega), rfl⟩
  · skip
    refine z_tableIn X (pc := 1) (off := 53) 54 dX4_handToLeft_1 (by decide) (by decide) (by decide) (by decide) ?_
    refine z_iload_n X (pc := 54) 1 dX4_handToLeft_54 rfl ?_
    refine z_iload_n X (pc := 55) 2 dX4_handToLeft_55 rfl ?_
    refine z_iload_n X (pc := 56) 3 dX4_handToLeft_56 rfl ?_
    refine z_icmp_leN X (pc := 57) 64 (by omega) (by omega) dX4_handToLeft_57 (by decide) (fun c_57 => ?_) (fun c_57 => ?_)
    · skip
      refine z_iconst X (pc := 64) (nI 0) dX4_handToLeft_64 (by decide) ?_
      refine z_iload_n X (pc := 65) 2 dX4_handToLeft_65 rfl ?_
      refine z_iload_n X (pc := 66) 3 dX4_handToLeft_66 rfl ?_
      refine z_icmp_geN X (pc := 67) 74 (by omega) (by omega) dX4_handToLeft_67 (by decide) (fun c_67 => ?_) (fun c_67 => ?_)
      · skip
        refine z_iconst X (pc := 74) (nI 0) dX4_handToLeft_74 (by decide) ?_
        refine zc_S (as := [.int (nI x), .int (nI 0), .int (nI 0)]) X (pc := 75) (c_X4_leaning lq D t x 0 0 (by omega) (by omega) (by omega)) tw_299 tw_301 tw_1 tw_300 [] rfl rfl dX4_handToLeft_75 rfl zdX4_leaning ⟨rfl, rfl, Nat.le_of_ble_eq_true rfl, Nat.le_of_ble_eq_true rfl⟩ (Nat.le_of_ble_eq_true rfl) (Nat.zero_le _) (Nat.zero_le _) (fun v_13 w_14 hp_15 => ?_)
        obtain ⟨rfl, rfl⟩ := hp_15
        refine ⟨rfl, ?_⟩
        refine z_eq (ws2 := []) (st2 := [.int (nI (if ¬ 0 = 0 then x else if ¬ 0 = 0 then 4 - x else 2))]) rfl rfl rfl ?_
        exact hR.i dX4_handToLeft_78 ⟨by first | rfl | (congr 3; unfold htl; (repeat' split) <;> omega), rfl⟩
      · skip
        refine z_iconst X (pc := 70) (nI 1) dX4_handToLeft_70 (by decide) ?_
        refine z_goto X (pc := 71) 75 dX4_handToLeft_71 (by decide) ?_
        refine zc_S (as := [.int (nI x), .int (nI 0), .int (nI 1)]) X (pc := 75) (c_X4_leaning lq D t x 0 1 (by omega) (by omega) (by omega)) tw_299 tw_301 tw_1 tw_300 [] rfl rfl dX4_handToLeft_75 rfl zdX4_leaning ⟨rfl, rfl, Nat.le_of_ble_eq_true rfl, Nat.le_of_ble_eq_true rfl⟩ (Nat.le_of_ble_eq_true rfl) (Nat.zero_le _) (Nat.zero_le _) (fun v_16 w_17 hp_18 => ?_)
        obtain ⟨rfl, rfl⟩ := hp_18
        refine ⟨rfl, ?_⟩
        refine z_eq (ws2 := []) (st2 := [.int (nI (if ¬ 0 = 0 then x else if ¬ 1 = 0 then 4 - x else 2))]) rfl rfl rfl ?_
        exact hR.i dX4_handToLeft_78 ⟨by first | rfl | (congr 3; unfold htl; (repeat' split) <;> omega), rfl⟩
    · skip
      refine z_iconst X (pc := 60) (nI 1) dX4_handToLeft_60 (by decide) ?_
      refine z_goto X (pc := 61) 65 dX4_handToLeft_61 (by decide) ?_
      refine z_iload_n X (pc := 65) 2 dX4_handToLeft_65 rfl ?_
      refine z_iload_n X (pc := 66) 3 dX4_handToLeft_66 rfl ?_
      refine z_icmp_geN X (pc := 67) 74 (by omega) (by omega) dX4_handToLeft_67 (by decide) (fun c_67 => ?_) (fun c_67 => ?_)
      · skip
        refine z_iconst X (pc := 74) (nI 0) dX4_handToLeft_74 (by decide) ?_
        refine zc_S (as := [.int (nI x), .int (nI 1), .int (nI 0)]) X (pc := 75) (c_X4_leaning lq D t x 1 0 (by omega) (by omega) (by omega)) tw_299 tw_301 tw_1 tw_300 [] rfl rfl dX4_handToLeft_75 rfl zdX4_leaning ⟨rfl, rfl, Nat.le_of_ble_eq_true rfl, Nat.le_of_ble_eq_true rfl⟩ (Nat.le_of_ble_eq_true rfl) (Nat.zero_le _) (Nat.zero_le _) (fun v_19 w_20 hp_21 => ?_)
        obtain ⟨rfl, rfl⟩ := hp_21
        refine ⟨rfl, ?_⟩
        refine z_eq (ws2 := []) (st2 := [.int (nI (if ¬ 1 = 0 then x else if ¬ 0 = 0 then 4 - x else 2))]) rfl rfl rfl ?_
        exact hR.i dX4_handToLeft_78 ⟨by first | rfl | (congr 3; unfold htl; (repeat' split) <;> omega), rfl⟩
      · skip
        refine z_iconst X (pc := 70) (nI 1) dX4_handToLeft_70 (by decide) ?_
        refine z_goto X (pc := 71) 75 dX4_handToLeft_71 (by decide) ?_
        refine zc_S (as := [.int (nI x), .int (nI 1), .int (nI 1)]) X (pc := 75) (c_X4_leaning lq D t x 1 1 (by omega) (by omega) (by omega)) tw_299 tw_301 tw_1 tw_300 [] rfl rfl dX4_handToLeft_75 rfl zdX4_leaning ⟨rfl, rfl, Nat.le_of_ble_eq_true rfl, Nat.le_of_ble_eq_true rfl⟩ (Nat.le_of_ble_eq_true rfl) (Nat.zero_le _) (Nat.zero_le _) (fun v_22 w_23 hp_24 => ?_)
        obtain ⟨rfl, rfl⟩ := hp_24
        refine ⟨rfl, ?_⟩
        refine z_eq (ws2 := []) (st2 := [.int (nI (if ¬ 1 = 0 then x else if ¬ 1 = 0 then 4 - x else 2))]) rfl rfl rfl ?_
        exact hR.i dX4_handToLeft_78 ⟨by first | rfl | (congr 3; unfold htl; (repeat' split) <;> omega), rfl⟩
  · skip
    refine z_tableIn X (pc := 1) (off := 78) 79 dX4_handToLeft_1 (by decide) (by decide) (by decide) (by decide) ?_
    refine z_iload_n X (pc := 79) 1 dX4_handToLeft_79 rfl ?_
    refine z_iload_n X (pc := 80) 2 dX4_handToLeft_80 rfl ?_
    refine z_iload_n X (pc := 81) 3 dX4_handToLeft_81 rfl ?_
    refine z_icmp_geN X (pc := 82) 89 (by omega) (by omega) dX4_handToLeft_82 (by decide) (fun c_82 => ?_) (fun c_82 => ?_)
    · skip
      refine z_iconst X (pc := 89) (nI 0) dX4_handToLeft_89 (by decide) ?_
      refine z_iload_n X (pc := 90) 2 dX4_handToLeft_90 rfl ?_
      refine z_iload_n X (pc := 91) 3 dX4_handToLeft_91 rfl ?_
      refine z_icmp_leN X (pc := 92) 99 (by omega) (by omega) dX4_handToLeft_92 (by decide) (fun c_92 => ?_) (fun c_92 => ?_)
      · skip
        refine z_iconst X (pc := 99) (nI 0) dX4_handToLeft_99 (by decide) ?_
        refine zc_S (as := [.int (nI x), .int (nI 0), .int (nI 0)]) X (pc := 100) (c_X4_leaning lq D t x 0 0 (by omega) (by omega) (by omega)) tw_299 tw_301 tw_1 tw_300 [] rfl rfl dX4_handToLeft_100 rfl zdX4_leaning ⟨rfl, rfl, Nat.le_of_ble_eq_true rfl, Nat.le_of_ble_eq_true rfl⟩ (Nat.le_of_ble_eq_true rfl) (Nat.zero_le _) (Nat.zero_le _) (fun v_25 w_26 hp_27 => ?_)
        obtain ⟨rfl, rfl⟩ := hp_27
        refine ⟨rfl, ?_⟩
        refine z_eq (ws2 := []) (st2 := [.int (nI (if ¬ 0 = 0 then x else if ¬ 0 = 0 then 4 - x else 2))]) rfl rfl rfl ?_
        exact hR.i dX4_handToLeft_103 ⟨by first | rfl | (congr 3; unfold htl; (repeat' split) <;> omega), rfl⟩
      · skip
        refine z_iconst X (pc := 95) (nI 1) dX4_handToLeft_95 (by decide) ?_
        refine z_goto X (pc := 96) 100 dX4_handToLeft_96 (by decide) ?_
        refine zc_S (as := [.int (nI x), .int (nI 0), .int (nI 1)]) X (pc := 100) (c_X4_leaning lq D t x 0 1 (by omega) (by omega) (by omega)) tw_299 tw_301 tw_1 tw_300 [] rfl rfl dX4_handToLeft_100 rfl zdX4_leaning ⟨rfl, rfl, Nat.le_of_ble_eq_true rfl, Nat.le_of_ble_eq_true rfl⟩ (Nat.le_of_ble_eq_true rfl) (Nat.zero_le _) (Nat.zero_le _) (fun v_28 w_29 hp_30 => ?_)
        obtain ⟨rfl, rfl⟩ := hp_30
        refine ⟨rfl, ?_⟩
        refine z_eq (ws2 := []) (st2 := [.int (nI (if ¬ 0 = 0 then x else if ¬ 1 = 0 then 4 - x else 2))]) rfl rfl rfl ?_
        exact hR.i dX4_handToLeft_103 ⟨by first | rfl | (congr 3; unfold htl; (repeat' split) <;> omega), rfl⟩
    · skip
      refine z_iconst X (pc := 85) (nI 1) dX4_handToLeft_85 (by decide) ?_
      refine z_goto X (pc := 86) 90 dX4_handToLeft_86 (by decide) ?_
      refine z_iload_n X (pc := 90) 2 dX4_handToLeft_90 rfl ?_
      refine z_iload_n X (pc := 91) 3 dX4_handToLeft_91 rfl ?_
      refine z_icmp_leN X (pc := 92) 99 (by omega) (by omega) dX4_handToLeft_92 (by decide) (fun c_92 => ?_) (fun c_92 => ?_)
      · skip
        refine z_iconst X (pc := 99) (nI 0) dX4_handToLeft_99 (by decide) ?_
        refine zc_S (as := [.int (nI x), .int (nI 1), .int (nI 0)]) X (pc := 100) (c_X4_leaning lq D t x 1 0 (by omega) (by omega) (by omega)) tw_299 tw_301 tw_1 tw_300 [] rfl rfl dX4_handToLeft_100 rfl zdX4_leaning ⟨rfl, rfl, Nat.le_of_ble_eq_true rfl, Nat.le_of_ble_eq_true rfl⟩ (Nat.le_of_ble_eq_true rfl) (Nat.zero_le _) (Nat.zero_le _) (fun v_31 w_32 hp_33 => ?_)
        obtain ⟨rfl, rfl⟩ := hp_33
        refine ⟨rfl, ?_⟩
        refine z_eq (ws2 := []) (st2 := [.int (nI (if ¬ 1 = 0 then x else if ¬ 0 = 0 then 4 - x else 2))]) rfl rfl rfl ?_
        exact hR.i dX4_handToLeft_103 ⟨by first | rfl | (congr 3; unfold htl; (repeat' split) <;> omega), rfl⟩
      · skip
        refine z_iconst X (pc := 95) (nI 1) dX4_handToLeft_95 (by decide) ?_
        refine z_goto X (pc := 96) 100 dX4_handToLeft_96 (by decide) ?_
        refine zc_S (as := [.int (nI x), .int (nI 1), .int (nI 1)]) X (pc := 100) (c_X4_leaning lq D t x 1 1 (by omega) (by omega) (by omega)) tw_299 tw_301 tw_1 tw_300 [] rfl rfl dX4_handToLeft_100 rfl zdX4_leaning ⟨rfl, rfl, Nat.le_of_ble_eq_true rfl, Nat.le_of_ble_eq_true rfl⟩ (Nat.le_of_ble_eq_true rfl) (Nat.zero_le _) (Nat.zero_le _) (fun v_34 w_35 hp_36 => ?_)
        obtain ⟨rfl, rfl⟩ := hp_36
        refine ⟨rfl, ?_⟩
        refine z_eq (ws2 := []) (st2 := [.int (nI (if ¬ 1 = 0 then x else if ¬ 1 = 0 then 4 - x else 2))]) rfl rfl rfl ?_
        exact hR.i dX4_handToLeft_103 ⟨by first | rfl | (congr 3; unfold htl; (repeat' split) <;> omega), rfl⟩

abbrev rm_X0_copyFrom : Room := { frames := 0, cells := 0, slots := 0, locals := 0 }
set_option maxHeartbeats 4000000 in
set_option maxRecDepth 100000 in
theorem c_X0_copyFrom (lq : Launch) (D : va_G) (t : zT) (h0 h1 : Nat) (a0 a1 a2 a3 a4 b0 b1 b2 b3 b4 : Int32)  : Ct lq D t yX0_copyFrom cX0_copyFrom 2 none rm_X0_copyFrom [.ref h0, .ref h1] [eX0 h0 a0 a1 a2 a3 a4, eX0 h1 b0 b1 b2 b3 b4] 0 0 (fun rv rw_ => rv = none ∧ rw_ = [eX0 h0 b0 b1 b2 b3 b4, eX0 h1 b0 b1 b2 b3 b4]) := by
  refine Ct.of (by decide) (Nat.le_of_ble_eq_true rfl) (fun k X hR => ?_)
  have X : zX D t k cX0_copyFrom 2 RX0 "copyFrom" rm_X0_copyFrom lq := X
  refine z_eq (lv2 := [(0, .ref h0), (1, .ref h1)]) rfl rfl rfl ?_
  refine z_aload_n X (pc := 0) 0 dX0_copyFrom_0 rfl ?_
  refine z_aload_n X (pc := 1) 1 dX0_copyFrom_1 rfl ?_
  refine z_get X (pc := 2) 1 0 (.int b0) tu_0 tw_28 dX0_copyFrom_2 rfl rfl (by decide) rfl rfl ?_
  refine z_put X (pc := 5) 0 0 [eX0 h0 b0 a1 a2 a3 a4, eX0 h1 b0 b1 b2 b3 b4] tu_0 tyX0_ok nmX0 tw_28 dX0_copyFrom_5 rfl rfl (by decide) rfl rfl rfl rfl (Nat.le_of_ble_eq_true rfl) rfl ?_
  refine z_aload_n X (pc := 8) 0 dX0_copyFrom_8 rfl ?_
  refine z_aload_n X (pc := 9) 1 dX0_copyFrom_9 rfl ?_
  refine z_get X (pc := 10) 1 1 (.int b1) tu_0 tw_31 dX0_copyFrom_10 rfl rfl (by decide) rfl rfl ?_
  refine z_put X (pc := 13) 0 1 [eX0 h0 b0 b1 a2 a3 a4, eX0 h1 b0 b1 b2 b3 b4] tu_0 tyX0_ok nmX0 tw_31 dX0_copyFrom_13 rfl rfl (by decide) rfl rfl rfl rfl (Nat.le_of_ble_eq_true rfl) rfl ?_
  refine z_aload_n X (pc := 16) 0 dX0_copyFrom_16 rfl ?_
  refine z_aload_n X (pc := 17) 1 dX0_copyFrom_17 rfl ?_
  refine z_get X (pc := 18) 1 2 (.int b2) tu_0 tw_35 dX0_copyFrom_18 rfl rfl (by decide) rfl rfl ?_
  refine z_put X (pc := 21) 0 2 [eX0 h0 b0 b1 b2 a3 a4, eX0 h1 b0 b1 b2 b3 b4] tu_0 tyX0_ok nmX0 tw_35 dX0_copyFrom_21 rfl rfl (by decide) rfl rfl rfl rfl (Nat.le_of_ble_eq_true rfl) rfl ?_
  refine z_aload_n X (pc := 24) 0 dX0_copyFrom_24 rfl ?_
  refine z_aload_n X (pc := 25) 1 dX0_copyFrom_25 rfl ?_
  refine z_get X (pc := 26) 1 3 (.int b3) tu_0 tw_39 dX0_copyFrom_26 rfl rfl (by decide) rfl rfl ?_
  refine z_put X (pc := 29) 0 3 [eX0 h0 b0 b1 b2 b3 a4, eX0 h1 b0 b1 b2 b3 b4] tu_0 tyX0_ok nmX0 tw_39 dX0_copyFrom_29 rfl rfl (by decide) rfl rfl rfl rfl (Nat.le_of_ble_eq_true rfl) rfl ?_
  refine z_aload_n X (pc := 32) 0 dX0_copyFrom_32 rfl ?_
  refine z_aload_n X (pc := 33) 1 dX0_copyFrom_33 rfl ?_
  refine z_get X (pc := 34) 1 4 (.int b4) tu_0 tw_42 dX0_copyFrom_34 rfl rfl (by decide) rfl rfl ?_
  refine z_put X (pc := 37) 0 4 [eX0 h0 b0 b1 b2 b3 b4, eX0 h1 b0 b1 b2 b3 b4] tu_0 tyX0_ok nmX0 tw_42 dX0_copyFrom_37 rfl rfl (by decide) rfl rfl rfl rfl (Nat.le_of_ble_eq_true rfl) rfl ?_
  exact hR.v dX0_copyFrom_40 ⟨rfl, rfl⟩

abbrev rm_X0_setBoxes : Room := { frames := 0, cells := 0, slots := 0, locals := 0 }
set_option maxHeartbeats 4000000 in
set_option maxRecDepth 100000 in
theorem c_X0_setBoxes (lq : Launch) (D : va_G) (t : zT) (h0 : Nat) (a0 a1 a2 a3 a4 u v : Int32)  : Ct lq D t yX0_setBoxes cX0_setBoxes 3 none rm_X0_setBoxes [.ref h0, .int u, .int v] [eX0 h0 a0 a1 a2 a3 a4] 0 0 (fun rv rw_ => rv = none ∧ rw_ = [eX0 h0 u v a2 a3 a4]) := by
  refine Ct.of (by decide) (Nat.le_of_ble_eq_true rfl) (fun k X hR => ?_)
  have X : zX D t k cX0_setBoxes 3 RX0 "setBoxes" rm_X0_setBoxes lq := X
  refine z_eq (lv2 := [(0, .ref h0), (1, .int u), (2, .int v)]) rfl rfl rfl ?_
  refine z_aload_n X (pc := 0) 0 dX0_setBoxes_0 rfl ?_
  refine z_iload_n X (pc := 1) 1 dX0_setBoxes_1 rfl ?_
  refine z_put X (pc := 2) 0 0 [eX0 h0 u a1 a2 a3 a4] tu_0 tyX0_ok nmX0 tw_28 dX0_setBoxes_2 rfl rfl (by decide) rfl rfl rfl rfl (Nat.le_of_ble_eq_true rfl) rfl ?_
  refine z_aload_n X (pc := 5) 0 dX0_setBoxes_5 rfl ?_
  refine z_iload_n X (pc := 6) 2 dX0_setBoxes_6 rfl ?_
  refine z_put X (pc := 7) 0 1 [eX0 h0 u v a2 a3 a4] tu_0 tyX0_ok nmX0 tw_31 dX0_setBoxes_7 rfl rfl (by decide) rfl rfl rfl rfl (Nat.le_of_ble_eq_true rfl) rfl ?_
  exact hR.v dX0_setBoxes_10 ⟨rfl, rfl⟩

abbrev rm_X0_setHand : Room := { frames := 0, cells := 0, slots := 0, locals := 0 }
set_option maxHeartbeats 4000000 in
set_option maxRecDepth 100000 in
theorem c_X0_setHand (lq : Launch) (D : va_G) (t : zT) (h0 : Nat) (a0 a1 a2 a3 a4 u v : Int32)  : Ct lq D t yX0_setHand cX0_setHand 3 none rm_X0_setHand [.ref h0, .int u, .int v] [eX0 h0 a0 a1 a2 a3 a4] 0 0 (fun rv rw_ => rv = none ∧ rw_ = [eX0 h0 a0 a1 a2 u v]) := by
  refine Ct.of (by decide) (Nat.le_of_ble_eq_true rfl) (fun k X hR => ?_)
  have X : zX D t k cX0_setHand 3 RX0 "setHand" rm_X0_setHand lq := X
  refine z_eq (lv2 := [(0, .ref h0), (1, .int u), (2, .int v)]) rfl rfl rfl ?_
  refine z_aload_n X (pc := 0) 0 dX0_setHand_0 rfl ?_
  refine z_iload_n X (pc := 1) 1 dX0_setHand_1 rfl ?_
  refine z_put X (pc := 2) 0 3 [eX0 h0 a0 a1 a2 u a4] tu_0 tyX0_ok nmX0 tw_39 dX0_setHand_2 rfl rfl (by decide) rfl rfl rfl rfl (Nat.le_of_ble_eq_true rfl) rfl ?_
  refine z_aload_n X (pc := 5) 0 dX0_setHand_5 rfl ?_
  refine z_iload_n X (pc := 6) 2 dX0_setHand_6 rfl ?_
  refine z_put X (pc := 7) 0 4 [eX0 h0 a0 a1 a2 u v] tu_0 tyX0_ok nmX0 tw_42 dX0_setHand_7 rfl rfl (by decide) rfl rfl rfl rfl (Nat.le_of_ble_eq_true rfl) rfl ?_
  exact hR.v dX0_setHand_10 ⟨rfl, rfl⟩

abbrev rm_X0_setBox : Room := { frames := 0, cells := 0, slots := 0, locals := 0 }
set_option maxHeartbeats 4000000 in
set_option maxRecDepth 100000 in
theorem c_X0_setBox (lq : Launch) (D : va_G) (t : zT) (h0 l r la kd x sd m : Nat) (hsd : sd ≤ 1) : Ct lq D t yX0_setBox cX0_setBox 3 none rm_X0_setBox [.ref h0, .int (nI sd), .int (nI m)] [eX0 h0 (nI l) (nI r) (nI la) (nI kd) (nI x)] 0 0 (fun rv rw_ => rv = none ∧ rw_ = [eX0 h0 (nI (if sd = 0 then m else l)) (nI (if sd = 0 then r else m)) (nI la) (nI kd) (nI x)]) := by
  refine Ct.of (by decide) (Nat.le_of_ble_eq_true rfl) (fun k X hR => ?_)
  have X : zX D t k cX0_setBox 3 RX0 "setBox" rm_X0_setBox lq := X
  refine z_eq (lv2 := [(0, .ref h0), (1, .int (nI sd)), (2, .int (nI m))]) rfl rfl rfl ?_
  refine z_iload_n X (pc := 0) 1 dX0_setBox_0 rfl ?_
  refine z_if_neN X (pc := 1) 12 (by omega) dX0_setBox_1 (by decide) (fun c_1 => ?_) (fun c_1 => ?_)
  · skip
    refine z_aload_n X (pc := 12) 0 dX0_setBox_12 rfl ?_
    refine z_iload_n X (pc := 13) 2 dX0_setBox_13 rfl ?_
    refine z_put X (pc := 14) 0 1 [eX0 h0 (nI l) (nI m) (nI la) (nI kd) (nI x)] tu_0 tyX0_ok nmX0 tw_31 dX0_setBox_14 rfl rfl (by decide) rfl rfl rfl rfl (Nat.le_of_ble_eq_true rfl) rfl ?_
    exact hR.v dX0_setBox_17 ⟨rfl, by simp [*]⟩
  · skip
    refine z_aload_n X (pc := 4) 0 dX0_setBox_4 rfl ?_
    refine z_iload_n X (pc := 5) 2 dX0_setBox_5 rfl ?_
    refine z_put X (pc := 6) 0 0 [eX0 h0 (nI m) (nI r) (nI la) (nI kd) (nI x)] tu_0 tyX0_ok nmX0 tw_28 dX0_setBox_6 rfl rfl (by decide) rfl rfl rfl rfl (Nat.le_of_ble_eq_true rfl) rfl ?_
    refine z_goto X (pc := 9) 17 dX0_setBox_9 (by decide) ?_
    exact hR.v dX0_setBox_17 ⟨rfl, by simp [*]⟩

abbrev rm_X0_inBox : Room := { frames := 0, cells := 0, slots := 0, locals := 0 }
set_option maxHeartbeats 4000000 in
set_option maxRecDepth 100000 in
theorem c_X0_inBox (lq : Launch) (D : va_G) (t : zT) (h0 l r la kd x sd : Nat) (hsd : sd ≤ 1) : Ct lq D t yX0_inBox cX0_inBox 2 (some .int) rm_X0_inBox [.ref h0, .int (nI sd)] [eX0 h0 (nI l) (nI r) (nI la) (nI kd) (nI x)] 0 0 (fun rv rw_ => rv = some (.int (nI (if sd = 0 then l else r))) ∧ rw_ = [eX0 h0 (nI l) (nI r) (nI la) (nI kd) (nI x)]) := by
  refine Ct.of (by decide) (Nat.le_of_ble_eq_true rfl) (fun k X hR => ?_)
  have X : zX D t k cX0_inBox 2 RX0 "inBox" rm_X0_inBox lq := X
  refine z_eq (lv2 := [(0, .ref h0), (1, .int (nI sd))]) rfl rfl rfl ?_
  refine z_iload_n X (pc := 0) 1 dX0_inBox_0 rfl ?_
  refine z_if_neN X (pc := 1) 11 (by omega) dX0_inBox_1 (by decide) (fun c_1 => ?_) (fun c_1 => ?_)
  · skip
    refine z_aload_n X (pc := 11) 0 dX0_inBox_11 rfl ?_
    refine z_get X (pc := 12) 0 1 (.int (nI r)) tu_0 tw_31 dX0_inBox_12 rfl rfl (by decide) rfl rfl ?_
    exact hR.i dX0_inBox_15 ⟨by simp [*], rfl⟩
  · skip
    refine z_aload_n X (pc := 4) 0 dX0_inBox_4 rfl ?_
    refine z_get X (pc := 5) 0 0 (.int (nI l)) tu_0 tw_28 dX0_inBox_5 rfl rfl (by decide) rfl rfl ?_
    refine z_goto X (pc := 8) 15 dX0_inBox_8 (by decide) ?_
    exact hR.i dX0_inBox_15 ⟨by simp [*], rfl⟩

abbrev rm_X0_matches : Room := { frames := 0, cells := 0, slots := 0, locals := 0 }
set_option maxHeartbeats 4000000 in
set_option maxRecDepth 100000 in
theorem c_X0_matches (lq : Launch) (D : va_G) (t : zT) (h0 l r la kd x : Nat)  : Ct lq D t yX0_matches cX0_matches 1 (some .int) rm_X0_matches [.ref h0] [eX0 h0 (nI l) (nI r) (nI la) (nI kd) (nI x)] 0 0 (fun rv rw_ => rv = some (.int (nI (l + r))) ∧ rw_ = [eX0 h0 (nI l) (nI r) (nI la) (nI kd) (nI x)]) := by
  refine Ct.of (by decide) (Nat.le_of_ble_eq_true rfl) (fun k X hR => ?_)
  have X : zX D t k cX0_matches 1 RX0 "matches" rm_X0_matches lq := X
  refine z_eq (lv2 := [(0, .ref h0)]) rfl rfl rfl ?_
  refine z_aload_n X (pc := 0) 0 dX0_matches_0 rfl ?_
  refine z_get X (pc := 1) 0 0 (.int (nI l)) tu_0 tw_28 dX0_matches_1 rfl rfl (by decide) rfl rfl ?_
  refine z_aload_n X (pc := 4) 0 dX0_matches_4 rfl ?_
  refine z_get X (pc := 5) 0 1 (.int (nI r)) tu_0 tw_31 dX0_matches_5 rfl rfl (by decide) rfl rfl ?_
  refine z_iadd X (pc := 8) (v := (nI (l + r))) dX0_matches_8 (nI_add l r) ?_
  exact hR.i dX0_matches_9 ⟨rfl, rfl⟩

abbrev rm_X0_quartersToLeft : Room := { frames := 2, cells := 0, slots := 0, locals := 46 }
set_option maxHeartbeats 4000000 in
set_option maxRecDepth 100000 in
theorem c_X0_quartersToLeft (lq : Launch) (D : va_G) (t : zT) (h0 l r la kd x : Nat) (hkd : kd ≤ 3) (hx : x ≤ 4) (hl : l < 100) (hr : r < 100) (hla : la ≤ 2) : Ct lq D t yX0_quartersToLeft cX0_quartersToLeft 1 (some .int) rm_X0_quartersToLeft [.ref h0] [eX0 h0 (nI l) (nI r) (nI la) (nI kd) (nI x)] 0 0 (fun rv rw_ => rv = some (.int (nI (htl kd x l r la))) ∧ rw_ = [eX0 h0 (nI l) (nI r) (nI la) (nI kd) (nI x)]) := by
  refine Ct.of (by decide) (Nat.le_of_ble_eq_true rfl) (fun k X hR => ?_)
  have X : zX D t k cX0_quartersToLeft 1 RX0 "quartersToLeft" rm_X0_quartersToLeft lq := X
  refine z_eq (lv2 := [(0, .ref h0)]) rfl rfl rfl ?_
  refine z_aload_n X (pc := 0) 0 dX0_quartersToLeft_0 rfl ?_
  refine z_get X (pc := 1) 0 3 (.int (nI kd)) tu_0 tw_39 dX0_quartersToLeft_1 rfl rfl (by decide) rfl rfl ?_
  refine z_aload_n X (pc := 4) 0 dX0_quartersToLeft_4 rfl ?_
  refine z_get X (pc := 5) 0 4 (.int (nI x)) tu_0 tw_42 dX0_quartersToLeft_5 rfl rfl (by decide) rfl rfl ?_
  refine z_aload_n X (pc := 8) 0 dX0_quartersToLeft_8 rfl ?_
  refine z_get X (pc := 9) 0 0 (.int (nI l)) tu_0 tw_28 dX0_quartersToLeft_9 rfl rfl (by decide) rfl rfl ?_
  refine z_aload_n X (pc := 12) 0 dX0_quartersToLeft_12 rfl ?_
  refine z_get X (pc := 13) 0 1 (.int (nI r)) tu_0 tw_31 dX0_quartersToLeft_13 rfl rfl (by decide) rfl rfl ?_
  refine z_aload_n X (pc := 16) 0 dX0_quartersToLeft_16 rfl ?_
  refine z_get X (pc := 17) 0 2 (.int (nI la)) tu_0 tw_35 dX0_quartersToLeft_17 rfl rfl (by decide) rfl rfl ?_
  refine zc_SN (as := [.int (nI kd), .int (nI x), .int (nI l), .int (nI r), .int (nI la)]) X (pc := 20) (c_X4_handToLeft lq D t kd x l r la (by omega) (by omega) (by omega) (by omega) (by omega)) tw_296 tw_298 tw_1 tw_297 [] rfl rfl dX0_quartersToLeft_20 rfl zdX4_handToLeft ⟨rfl, rfl, Nat.le_of_ble_eq_true rfl, Nat.le_of_ble_eq_true rfl⟩ (Nat.le_of_ble_eq_true rfl) (Nat.zero_le _) (Nat.zero_le _) (fun v_1 w_2 hp_3 => ?_)
  obtain ⟨rfl, rfl⟩ := hp_3
  refine ⟨rfl, ?_⟩
  refine z_eq (ws2 := [eX0 h0 (nI l) (nI r) (nI la) (nI kd) (nI x)]) (st2 := [.int (nI (htl kd x l r la))]) rfl rfl rfl ?_
  exact hR.i dX0_quartersToLeft_23 ⟨rfl, rfl⟩

abbrev rm_X0_draw : Room := { frames := 1, cells := 0, slots := 0, locals := 22 }
set_option maxHeartbeats 4000000 in
set_option maxRecDepth 100000 in
theorem c_X0_draw (lq : Launch) (D : va_G) (t : zT) (h0 l r la kd x sd : Nat) (hsd : sd ≤ 1) (hl : l < 100) (hr : r < 100) : Ct lq D t yX0_draw cX0_draw 3 (some .boolean) rm_X0_draw [.ref h0, .int (nI sd)] [eX0 h0 (nI l) (nI r) (nI la) (nI kd) (nI x)] 0 0 (fun rv rw_ => rv = some (.int (zb (¬ (if sd = 0 then l else r) = 0))) ∧ rw_ = [eX0 h0 (nI (if sd = 0 then l - 1 else l)) (nI (if sd = 0 then r else r - 1)) (nI sd) (nI kd) (nI x)]) := by
  refine Ct.of (by decide) (Nat.le_of_ble_eq_true rfl) (fun k X hR => ?_)
  have X : zX D t k cX0_draw 3 RX0 "draw" rm_X0_draw lq := X
  refine z_eq (lv2 := [(0, .ref h0), (1, .int (nI sd))]) rfl rfl rfl ?_
  refine z_aload_n X (pc := 0) 0 dX0_draw_0 rfl ?_
  refine z_iload_n X (pc := 1) 1 dX0_draw_1 rfl ?_
  refine z_put X (pc := 2) 0 2 [eX0 h0 (nI l) (nI r) (nI sd) (nI kd) (nI x)] tu_0 tyX0_ok nmX0 tw_35 dX0_draw_2 rfl rfl (by decide) rfl rfl rfl rfl (Nat.le_of_ble_eq_true rfl) rfl ?_
  refine z_aload_n X (pc := 5) 0 dX0_draw_5 rfl ?_
  refine z_iload_n X (pc := 6) 1 dX0_draw_6 rfl ?_
  refine zc_V (as := [.int (nI sd)]) X (pc := 7) (c_X0_inBox lq D t h0 l r sd kd x sd (by omega)) tw_324 tw_287 tw_3 tw_285 tw_286 0 0 rfl rfl [0] rfl rfl dX0_draw_7 rfl zdX0_inBox ⟨rfl, rfl, Nat.le_of_ble_eq_true rfl, Nat.le_of_ble_eq_true rfl⟩ (Nat.le_of_ble_eq_true rfl) (Nat.zero_le _) (Nat.zero_le _) (fun v_1 w_2 hp_3 => ?_)
  obtain ⟨rfl, rfl⟩ := hp_3
  refine ⟨rfl, ?_⟩
  refine z_eq (ws2 := [eX0 h0 (nI l) (nI r) (nI sd) (nI kd) (nI x)]) (st2 := [.int (nI (if sd = 0 then l else r))]) rfl rfl rfl ?_
  refine z_istore_n X (pc := 10) (i := 2) [(2, .int (nI (if sd = 0 then l else r))), (0, .ref h0), (1, .int (nI sd))] dX0_draw_10 rfl (by decide) rfl ?_
  refine z_iload_n X (pc := 11) 0 dX0_draw_11 rfl ?_
  refine z_if_neN X (pc := 12) 17 (by split <;> omega) dX0_draw_12 (by decide) (fun c_12 => ?_) (fun c_12 => ?_)
  · skip
    refine z_aload_n X (pc := 17) 1 dX0_draw_17 rfl ?_
    refine z_iload_n X (pc := 18) 2 dX0_draw_18 rfl ?_
    refine z_iload_n X (pc := 19) 0 dX0_draw_19 rfl ?_
    refine z_iconst X (pc := 20) (nI 1) dX0_draw_20 (by decide) ?_
    refine z_isub X (pc := 21) (v := (nI ((if sd = 0 then l else r) - 1))) dX0_draw_21 (pk_sub (by omega)) ?_
    refine zc_V (as := [.int (nI sd), .int (nI ((if sd = 0 then l else r) - 1))]) X (pc := 22) (c_X0_setBox lq D t h0 l r sd kd x sd ((if sd = 0 then l else r) - 1) (by omega)) tw_325 tw_328 tw_3 tw_326 tw_327 0 0 rfl rfl [0] rfl rfl dX0_draw_22 rfl zdX0_setBox ⟨rfl, rfl, Nat.le_of_ble_eq_true rfl, Nat.le_of_ble_eq_true rfl⟩ (Nat.le_of_ble_eq_true rfl) (Nat.zero_le _) (Nat.zero_le _) (fun v_4 w_5 hp_6 => ?_)
    obtain ⟨rfl, rfl⟩ := hp_6
    refine ⟨rfl, ?_⟩
    refine z_eq (ws2 := [eX0 h0 (nI (if sd = 0 then ((if sd = 0 then l else r) - 1) else l)) (nI (if sd = 0 then r else ((if sd = 0 then l else r) - 1))) (nI sd) (nI kd) (nI x)]) (st2 := []) rfl rfl rfl ?_
    refine z_iconst X (pc := 25) (nI 1) dX0_draw_25 (by decide) ?_
    exact hR.z dX0_draw_26 rfl ⟨some_zb_t c_12, by split <;> rfl⟩
  · skip
    refine z_iconst X (pc := 15) (nI 0) dX0_draw_15 (by decide) ?_
    exact hR.z dX0_draw_16 rfl ⟨some_zb_f (fun z => z c_12), by split at c_12 <;> simp_all⟩

abbrev rm_X4_tenThousandths : Room := { frames := 0, cells := 0, slots := 0, locals := 0 }
set_option maxHeartbeats 4000000 in
set_option maxRecDepth 100000 in
theorem c_X4_tenThousandths (lq : Launch) (D : va_G) (t : zT) (c : Int64)  : Ct lq D t yX4_tenThousandths cX4_tenThousandths 2 (some .int) rm_X4_tenThousandths [.long c] [] 0 0 (fun rv rw_ => rv = some (.int ((c * 10000 / 4398046511104).toInt32)) ∧ rw_ = []) := by
  refine Ct.of (by decide) (Nat.le_of_ble_eq_true rfl) (fun k X hR => ?_)
  have X : zX D t k cX4_tenThousandths 2 RX4 "tenThousandths" rm_X4_tenThousandths lq := X
  refine z_eq (lv2 := [(0, .long c)]) rfl rfl rfl ?_
  refine z_lload_n X (pc := 0) 0 dX4_tenThousandths_0 rfl ?_
  refine z_ldc2 X (pc := 1) (10000) dX4_tenThousandths_1 tw_411 ?_
  refine z_topl (lN 10000) rfl ?_
  refine z_lmul X (pc := 4) (v := (c * (lN 10000))) dX4_tenThousandths_4 rfl ?_
  refine z_ldc2 X (pc := 5) (4398046511104) dX4_tenThousandths_5 tw_412 ?_
  refine z_topl (lN 4398046511104) rfl ?_
  refine z_ldiv X (pc := 8) (v := ((c * (lN 10000)) / (lN 4398046511104))) dX4_tenThousandths_8 (by decide) rfl ?_
  refine z_l2i X (pc := 9) (v := (((c * (lN 10000)) / (lN 4398046511104)).toInt32)) dX4_tenThousandths_9 rfl ?_
  exact hR.i dX4_tenThousandths_10 ⟨rfl, rfl⟩

abbrev rm_X4_hundredfold : Room := { frames := 0, cells := 0, slots := 0, locals := 0 }
set_option maxHeartbeats 4000000 in
set_option maxRecDepth 100000 in
theorem c_X4_hundredfold (lq : Launch) (D : va_G) (t : zT) (c : Int64)  : Ct lq D t yX4_hundredfold cX4_hundredfold 2 (some .int) rm_X4_hundredfold [.long c] [] 0 0 (fun rv rw_ => rv = some (.int ((c * 100 / 4398046511104).toInt32)) ∧ rw_ = []) := by
  refine Ct.of (by decide) (Nat.le_of_ble_eq_true rfl) (fun k X hR => ?_)
  have X : zX D t k cX4_hundredfold 2 RX4 "hundredfold" rm_X4_hundredfold lq := X
  refine z_eq (lv2 := [(0, .long c)]) rfl rfl rfl ?_
  refine z_lload_n X (pc := 0) 0 dX4_hundredfold_0 rfl ?_
  refine z_ldc2 X (pc := 1) (100) dX4_hundredfold_1 tw_420 ?_
  refine z_topl (lN 100) rfl ?_
  refine z_lmul X (pc := 4) (v := (c * (lN 100))) dX4_hundredfold_4 rfl ?_
  refine z_ldc2 X (pc := 5) (4398046511104) dX4_hundredfold_5 tw_412 ?_
  refine z_topl (lN 4398046511104) rfl ?_
  refine z_ldiv X (pc := 8) (v := ((c * (lN 100)) / (lN 4398046511104))) dX4_hundredfold_8 (by decide) rfl ?_
  refine z_l2i X (pc := 9) (v := (((c * (lN 100)) / (lN 4398046511104)).toInt32)) dX4_hundredfold_9 rfl ?_
  exact hR.i dX4_hundredfold_10 ⟨rfl, rfl⟩
